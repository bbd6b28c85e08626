def iI (z : Int) : Int32 := Int32.ofInt z
def iL (z : Int) : Int64 := Int64.ofInt z
section RN
variable {d m x y : Nat} {z : Int} {rest : List am_op} {loc : am_L} {stk : List Value} {M : am_M} {L T : Nat} {S : Nat → Nat × Nat} {u : Nat → Nat → Int32} {v : Nat → Nat → Int64} {r : Nat → Nat → Option Nat}
theorem rn_iconst (i : Int) : am_run d m ((.iconst i, x, y, z) :: rest) loc stk M = am_run d m rest loc (.int (iI z) :: stk) M := by rw [am_run_eq]; rfl
theorem rn_bipush (i : Int) : am_run d m ((.bipush i, x, y, z) :: rest) loc stk M = am_run d m rest loc (.int (iI z) :: stk) M := by rw [am_run_eq]; rfl
theorem rn_sipush (i : Int) : am_run d m ((.sipush i, x, y, z) :: rest) loc stk M = am_run d m rest loc (.int (iI z) :: stk) M := by rw [am_run_eq]; rfl
theorem rn_ldc_w (k : Nat) : am_run d m ((.ldc_w k, x, y, z) :: rest) loc stk M = am_run d m rest loc (.int (iI z) :: stk) M := by rw [am_run_eq]; rfl
theorem rn_ldc (k : Nat) : am_run d m ((.ldc k, 0, y, z) :: rest) loc stk M = am_run d m rest loc (.int (iI z) :: stk) M := by rw [am_run_eq]; rfl
theorem rn_ldcS (k : Nat) : am_run d m ((.ldc k, 1, y, z) :: rest) loc stk M = am_run d m rest loc (.ref (1000000 + y) :: stk) M := by rw [am_run_eq]; rfl
theorem rn_lconst (i : Fin 2) : am_run d m ((.lconst i, x, y, z) :: rest) loc stk M = am_run d m rest loc (.long (iL z) :: stk) M := by rw [am_run_eq]; rfl
theorem rn_ldc2 (k : Nat) : am_run d m ((.ldc2_w k, x, y, z) :: rest) loc stk M = am_run d m rest loc (.long (iL z) :: stk) M := by rw [am_run_eq]; rfl
theorem rn_gets (k : Nat) : am_run d m ((.getstatic k, x, y, 3) :: rest) loc stk M = am_run d m rest loc (.ref (1000000 + y) :: stk) M := by rw [am_run_eq]; rfl
theorem rn_iload0 {ls : am_L} {w : Int32} : am_run d m ((.iload_n 0, x, y, z) :: rest) (some (.int w) :: ls) stk M = am_run d m rest (some (.int w) :: ls) (.int w :: stk) M := by rw [am_run_eq]; rfl
theorem rn_lload0 {ls : am_L} {w : Int64} : am_run d m ((.lload_n 0, x, y, z) :: rest) (some (.long w) :: ls) stk M = am_run d m rest (some (.long w) :: ls) (.long w :: stk) M := by rw [am_run_eq]; rfl
theorem rn_aload0 {ls : am_L} {w : Nat} : am_run d m ((.aload_n 0, x, y, z) :: rest) (some (.ref w) :: ls) stk M = am_run d m rest (some (.ref w) :: ls) (.ref w :: stk) M := by rw [am_run_eq]; rfl
theorem rn_istore0 {ls : am_L} {q : Option Value} {w : Int32} : am_run d m ((.istore_n 0, x, y, z) :: rest) (q :: ls) (.int w :: stk) M = am_run d m rest (some (.int w) :: ls) stk M := by rw [am_run_eq]; simp [am_F, am_act, am_ex, am_sti, am_set1, show (0 : Fin 4).val = 0 from rfl]
theorem rn_astore0 {ls : am_L} {q : Option Value} {w : Nat} : am_run d m ((.astore_n 0, x, y, z) :: rest) (q :: ls) (.ref w :: stk) M = am_run d m rest (some (.ref w) :: ls) stk M := by rw [am_run_eq]; simp [am_F, am_act, am_ex, am_sta, am_set1, show (0 : Fin 4).val = 0 from rfl]
theorem rn_lstore0 {ls : am_L} {q q1 : Option Value} {w : Int64} : am_run d m ((.lstore_n 0, x, y, z) :: rest) (q :: q1 :: ls) (.long w :: stk) M = am_run d m rest (some (.long w) :: none :: ls) stk M := by rw [am_run_eq]; simp [am_F, am_act, am_ex, am_stl, am_set2, show (0 : Fin 4).val = 0 from rfl]
theorem rn_iinc0 {ls : am_L} {w : Int32} {n : Int} : am_run d m ((.iinc 0 n, x, y, z) :: rest) (some (.int w) :: ls) stk M = am_run d m rest (some (.int (w + iI n)) :: ls) stk M := by rw [am_run_eq]; simp [am_F, am_act, am_ex, am_set1, iI]
theorem rn_iload1 {l0 : Option Value} {ls : am_L} {w : Int32} : am_run d m ((.iload_n 1, x, y, z) :: rest) (l0 :: some (.int w) :: ls) stk M = am_run d m rest (l0 :: some (.int w) :: ls) (.int w :: stk) M := by rw [am_run_eq]; rfl
theorem rn_lload1 {l0 : Option Value} {ls : am_L} {w : Int64} : am_run d m ((.lload_n 1, x, y, z) :: rest) (l0 :: some (.long w) :: ls) stk M = am_run d m rest (l0 :: some (.long w) :: ls) (.long w :: stk) M := by rw [am_run_eq]; rfl
theorem rn_aload1 {l0 : Option Value} {ls : am_L} {w : Nat} : am_run d m ((.aload_n 1, x, y, z) :: rest) (l0 :: some (.ref w) :: ls) stk M = am_run d m rest (l0 :: some (.ref w) :: ls) (.ref w :: stk) M := by rw [am_run_eq]; rfl
theorem rn_istore1 {l0 : Option Value} {ls : am_L} {q : Option Value} {w : Int32} : am_run d m ((.istore_n 1, x, y, z) :: rest) (l0 :: q :: ls) (.int w :: stk) M = am_run d m rest (am_c1 l0 :: some (.int w) :: ls) stk M := by rw [am_run_eq]; simp [am_F, am_act, am_ex, am_sti, am_set1, show (1 : Fin 4).val = 1 from rfl]
theorem rn_astore1 {l0 : Option Value} {ls : am_L} {q : Option Value} {w : Nat} : am_run d m ((.astore_n 1, x, y, z) :: rest) (l0 :: q :: ls) (.ref w :: stk) M = am_run d m rest (am_c1 l0 :: some (.ref w) :: ls) stk M := by rw [am_run_eq]; simp [am_F, am_act, am_ex, am_sta, am_set1, show (1 : Fin 4).val = 1 from rfl]
theorem rn_lstore1 {l0 : Option Value} {ls : am_L} {q q1 : Option Value} {w : Int64} : am_run d m ((.lstore_n 1, x, y, z) :: rest) (l0 :: q :: q1 :: ls) (.long w :: stk) M = am_run d m rest (am_c1 l0 :: some (.long w) :: none :: ls) stk M := by rw [am_run_eq]; simp [am_F, am_act, am_ex, am_stl, am_set2, show (1 : Fin 4).val = 1 from rfl]
theorem rn_iinc1 {l0 : Option Value} {ls : am_L} {w : Int32} {n : Int} : am_run d m ((.iinc 1 n, x, y, z) :: rest) (l0 :: some (.int w) :: ls) stk M = am_run d m rest (am_c1 l0 :: some (.int (w + iI n)) :: ls) stk M := by rw [am_run_eq]; simp [am_F, am_act, am_ex, am_set1, iI]
theorem rn_iload2 {l0 l1 : Option Value} {ls : am_L} {w : Int32} : am_run d m ((.iload_n 2, x, y, z) :: rest) (l0 :: l1 :: some (.int w) :: ls) stk M = am_run d m rest (l0 :: l1 :: some (.int w) :: ls) (.int w :: stk) M := by rw [am_run_eq]; rfl
theorem rn_lload2 {l0 l1 : Option Value} {ls : am_L} {w : Int64} : am_run d m ((.lload_n 2, x, y, z) :: rest) (l0 :: l1 :: some (.long w) :: ls) stk M = am_run d m rest (l0 :: l1 :: some (.long w) :: ls) (.long w :: stk) M := by rw [am_run_eq]; rfl
theorem rn_aload2 {l0 l1 : Option Value} {ls : am_L} {w : Nat} : am_run d m ((.aload_n 2, x, y, z) :: rest) (l0 :: l1 :: some (.ref w) :: ls) stk M = am_run d m rest (l0 :: l1 :: some (.ref w) :: ls) (.ref w :: stk) M := by rw [am_run_eq]; rfl
theorem rn_istore2 {l0 l1 : Option Value} {ls : am_L} {q : Option Value} {w : Int32} : am_run d m ((.istore_n 2, x, y, z) :: rest) (l0 :: l1 :: q :: ls) (.int w :: stk) M = am_run d m rest (l0 :: am_c1 l1 :: some (.int w) :: ls) stk M := by rw [am_run_eq]; simp [am_F, am_act, am_ex, am_sti, am_set1, show (2 : Fin 4).val = 2 from rfl]
theorem rn_astore2 {l0 l1 : Option Value} {ls : am_L} {q : Option Value} {w : Nat} : am_run d m ((.astore_n 2, x, y, z) :: rest) (l0 :: l1 :: q :: ls) (.ref w :: stk) M = am_run d m rest (l0 :: am_c1 l1 :: some (.ref w) :: ls) stk M := by rw [am_run_eq]; simp [am_F, am_act, am_ex, am_sta, am_set1, show (2 : Fin 4).val = 2 from rfl]
theorem rn_lstore2 {l0 l1 : Option Value} {ls : am_L} {q q1 : Option Value} {w : Int64} : am_run d m ((.lstore_n 2, x, y, z) :: rest) (l0 :: l1 :: q :: q1 :: ls) (.long w :: stk) M = am_run d m rest (l0 :: am_c1 l1 :: some (.long w) :: none :: ls) stk M := by rw [am_run_eq]; simp [am_F, am_act, am_ex, am_stl, am_set2, show (2 : Fin 4).val = 2 from rfl]
theorem rn_iinc2 {l0 l1 : Option Value} {ls : am_L} {w : Int32} {n : Int} : am_run d m ((.iinc 2 n, x, y, z) :: rest) (l0 :: l1 :: some (.int w) :: ls) stk M = am_run d m rest (l0 :: am_c1 l1 :: some (.int (w + iI n)) :: ls) stk M := by rw [am_run_eq]; simp [am_F, am_act, am_ex, am_set1, iI]
theorem rn_iload3 {l0 l1 l2 : Option Value} {ls : am_L} {w : Int32} : am_run d m ((.iload_n 3, x, y, z) :: rest) (l0 :: l1 :: l2 :: some (.int w) :: ls) stk M = am_run d m rest (l0 :: l1 :: l2 :: some (.int w) :: ls) (.int w :: stk) M := by rw [am_run_eq]; rfl
theorem rn_lload3 {l0 l1 l2 : Option Value} {ls : am_L} {w : Int64} : am_run d m ((.lload_n 3, x, y, z) :: rest) (l0 :: l1 :: l2 :: some (.long w) :: ls) stk M = am_run d m rest (l0 :: l1 :: l2 :: some (.long w) :: ls) (.long w :: stk) M := by rw [am_run_eq]; rfl
theorem rn_aload3 {l0 l1 l2 : Option Value} {ls : am_L} {w : Nat} : am_run d m ((.aload_n 3, x, y, z) :: rest) (l0 :: l1 :: l2 :: some (.ref w) :: ls) stk M = am_run d m rest (l0 :: l1 :: l2 :: some (.ref w) :: ls) (.ref w :: stk) M := by rw [am_run_eq]; rfl
theorem rn_istore3 {l0 l1 l2 : Option Value} {ls : am_L} {q : Option Value} {w : Int32} : am_run d m ((.istore_n 3, x, y, z) :: rest) (l0 :: l1 :: l2 :: q :: ls) (.int w :: stk) M = am_run d m rest (l0 :: l1 :: am_c1 l2 :: some (.int w) :: ls) stk M := by rw [am_run_eq]; simp [am_F, am_act, am_ex, am_sti, am_set1, show (3 : Fin 4).val = 3 from rfl]
theorem rn_astore3 {l0 l1 l2 : Option Value} {ls : am_L} {q : Option Value} {w : Nat} : am_run d m ((.astore_n 3, x, y, z) :: rest) (l0 :: l1 :: l2 :: q :: ls) (.ref w :: stk) M = am_run d m rest (l0 :: l1 :: am_c1 l2 :: some (.ref w) :: ls) stk M := by rw [am_run_eq]; simp [am_F, am_act, am_ex, am_sta, am_set1, show (3 : Fin 4).val = 3 from rfl]
theorem rn_lstore3 {l0 l1 l2 : Option Value} {ls : am_L} {q q1 : Option Value} {w : Int64} : am_run d m ((.lstore_n 3, x, y, z) :: rest) (l0 :: l1 :: l2 :: q :: q1 :: ls) (.long w :: stk) M = am_run d m rest (l0 :: l1 :: am_c1 l2 :: some (.long w) :: none :: ls) stk M := by rw [am_run_eq]; simp [am_F, am_act, am_ex, am_stl, am_set2, show (3 : Fin 4).val = 3 from rfl]
theorem rn_iinc3 {l0 l1 l2 : Option Value} {ls : am_L} {w : Int32} {n : Int} : am_run d m ((.iinc 3 n, x, y, z) :: rest) (l0 :: l1 :: l2 :: some (.int w) :: ls) stk M = am_run d m rest (l0 :: l1 :: am_c1 l2 :: some (.int (w + iI n)) :: ls) stk M := by rw [am_run_eq]; simp [am_F, am_act, am_ex, am_set1, iI]
theorem rn_iload4 {l0 l1 l2 l3 : Option Value} {ls : am_L} {w : Int32} : am_run d m ((.iload 4, x, y, z) :: rest) (l0 :: l1 :: l2 :: l3 :: some (.int w) :: ls) stk M = am_run d m rest (l0 :: l1 :: l2 :: l3 :: some (.int w) :: ls) (.int w :: stk) M := by rw [am_run_eq]; rfl
theorem rn_lload4 {l0 l1 l2 l3 : Option Value} {ls : am_L} {w : Int64} : am_run d m ((.lload 4, x, y, z) :: rest) (l0 :: l1 :: l2 :: l3 :: some (.long w) :: ls) stk M = am_run d m rest (l0 :: l1 :: l2 :: l3 :: some (.long w) :: ls) (.long w :: stk) M := by rw [am_run_eq]; rfl
theorem rn_aload4 {l0 l1 l2 l3 : Option Value} {ls : am_L} {w : Nat} : am_run d m ((.aload 4, x, y, z) :: rest) (l0 :: l1 :: l2 :: l3 :: some (.ref w) :: ls) stk M = am_run d m rest (l0 :: l1 :: l2 :: l3 :: some (.ref w) :: ls) (.ref w :: stk) M := by rw [am_run_eq]; rfl
theorem rn_istore4 {l0 l1 l2 l3 : Option Value} {ls : am_L} {q : Option Value} {w : Int32} : am_run d m ((.istore 4, x, y, z) :: rest) (l0 :: l1 :: l2 :: l3 :: q :: ls) (.int w :: stk) M = am_run d m rest (l0 :: l1 :: l2 :: am_c1 l3 :: some (.int w) :: ls) stk M := by rw [am_run_eq]; simp [am_F, am_act, am_ex, am_sti, am_set1]
theorem rn_astore4 {l0 l1 l2 l3 : Option Value} {ls : am_L} {q : Option Value} {w : Nat} : am_run d m ((.astore 4, x, y, z) :: rest) (l0 :: l1 :: l2 :: l3 :: q :: ls) (.ref w :: stk) M = am_run d m rest (l0 :: l1 :: l2 :: am_c1 l3 :: some (.ref w) :: ls) stk M := by rw [am_run_eq]; simp [am_F, am_act, am_ex, am_sta, am_set1]
theorem rn_lstore4 {l0 l1 l2 l3 : Option Value} {ls : am_L} {q q1 : Option Value} {w : Int64} : am_run d m ((.lstore 4, x, y, z) :: rest) (l0 :: l1 :: l2 :: l3 :: q :: q1 :: ls) (.long w :: stk) M = am_run d m rest (l0 :: l1 :: l2 :: am_c1 l3 :: some (.long w) :: none :: ls) stk M := by rw [am_run_eq]; simp [am_F, am_act, am_ex, am_stl, am_set2]
theorem rn_iinc4 {l0 l1 l2 l3 : Option Value} {ls : am_L} {w : Int32} {n : Int} : am_run d m ((.iinc 4 n, x, y, z) :: rest) (l0 :: l1 :: l2 :: l3 :: some (.int w) :: ls) stk M = am_run d m rest (l0 :: l1 :: l2 :: am_c1 l3 :: some (.int (w + iI n)) :: ls) stk M := by rw [am_run_eq]; simp [am_F, am_act, am_ex, am_set1, iI]
theorem rn_iload5 {l0 l1 l2 l3 l4 : Option Value} {ls : am_L} {w : Int32} : am_run d m ((.iload 5, x, y, z) :: rest) (l0 :: l1 :: l2 :: l3 :: l4 :: some (.int w) :: ls) stk M = am_run d m rest (l0 :: l1 :: l2 :: l3 :: l4 :: some (.int w) :: ls) (.int w :: stk) M := by rw [am_run_eq]; rfl
theorem rn_lload5 {l0 l1 l2 l3 l4 : Option Value} {ls : am_L} {w : Int64} : am_run d m ((.lload 5, x, y, z) :: rest) (l0 :: l1 :: l2 :: l3 :: l4 :: some (.long w) :: ls) stk M = am_run d m rest (l0 :: l1 :: l2 :: l3 :: l4 :: some (.long w) :: ls) (.long w :: stk) M := by rw [am_run_eq]; rfl
theorem rn_aload5 {l0 l1 l2 l3 l4 : Option Value} {ls : am_L} {w : Nat} : am_run d m ((.aload 5, x, y, z) :: rest) (l0 :: l1 :: l2 :: l3 :: l4 :: some (.ref w) :: ls) stk M = am_run d m rest (l0 :: l1 :: l2 :: l3 :: l4 :: some (.ref w) :: ls) (.ref w :: stk) M := by rw [am_run_eq]; rfl
theorem rn_istore5 {l0 l1 l2 l3 l4 : Option Value} {ls : am_L} {q : Option Value} {w : Int32} : am_run d m ((.istore 5, x, y, z) :: rest) (l0 :: l1 :: l2 :: l3 :: l4 :: q :: ls) (.int w :: stk) M = am_run d m rest (l0 :: l1 :: l2 :: l3 :: am_c1 l4 :: some (.int w) :: ls) stk M := by rw [am_run_eq]; simp [am_F, am_act, am_ex, am_sti, am_set1]
theorem rn_astore5 {l0 l1 l2 l3 l4 : Option Value} {ls : am_L} {q : Option Value} {w : Nat} : am_run d m ((.astore 5, x, y, z) :: rest) (l0 :: l1 :: l2 :: l3 :: l4 :: q :: ls) (.ref w :: stk) M = am_run d m rest (l0 :: l1 :: l2 :: l3 :: am_c1 l4 :: some (.ref w) :: ls) stk M := by rw [am_run_eq]; simp [am_F, am_act, am_ex, am_sta, am_set1]
theorem rn_lstore5 {l0 l1 l2 l3 l4 : Option Value} {ls : am_L} {q q1 : Option Value} {w : Int64} : am_run d m ((.lstore 5, x, y, z) :: rest) (l0 :: l1 :: l2 :: l3 :: l4 :: q :: q1 :: ls) (.long w :: stk) M = am_run d m rest (l0 :: l1 :: l2 :: l3 :: am_c1 l4 :: some (.long w) :: none :: ls) stk M := by rw [am_run_eq]; simp [am_F, am_act, am_ex, am_stl, am_set2]
theorem rn_iinc5 {l0 l1 l2 l3 l4 : Option Value} {ls : am_L} {w : Int32} {n : Int} : am_run d m ((.iinc 5 n, x, y, z) :: rest) (l0 :: l1 :: l2 :: l3 :: l4 :: some (.int w) :: ls) stk M = am_run d m rest (l0 :: l1 :: l2 :: l3 :: am_c1 l4 :: some (.int (w + iI n)) :: ls) stk M := by rw [am_run_eq]; simp [am_F, am_act, am_ex, am_set1, iI]
theorem rn_iload6 {l0 l1 l2 l3 l4 l5 : Option Value} {ls : am_L} {w : Int32} : am_run d m ((.iload 6, x, y, z) :: rest) (l0 :: l1 :: l2 :: l3 :: l4 :: l5 :: some (.int w) :: ls) stk M = am_run d m rest (l0 :: l1 :: l2 :: l3 :: l4 :: l5 :: some (.int w) :: ls) (.int w :: stk) M := by rw [am_run_eq]; rfl
theorem rn_lload6 {l0 l1 l2 l3 l4 l5 : Option Value} {ls : am_L} {w : Int64} : am_run d m ((.lload 6, x, y, z) :: rest) (l0 :: l1 :: l2 :: l3 :: l4 :: l5 :: some (.long w) :: ls) stk M = am_run d m rest (l0 :: l1 :: l2 :: l3 :: l4 :: l5 :: some (.long w) :: ls) (.long w :: stk) M := by rw [am_run_eq]; rfl
theorem rn_aload6 {l0 l1 l2 l3 l4 l5 : Option Value} {ls : am_L} {w : Nat} : am_run d m ((.aload 6, x, y, z) :: rest) (l0 :: l1 :: l2 :: l3 :: l4 :: l5 :: some (.ref w) :: ls) stk M = am_run d m rest (l0 :: l1 :: l2 :: l3 :: l4 :: l5 :: some (.ref w) :: ls) (.ref w :: stk) M := by rw [am_run_eq]; rfl
theorem rn_istore6 {l0 l1 l2 l3 l4 l5 : Option Value} {ls : am_L} {q : Option Value} {w : Int32} : am_run d m ((.istore 6, x, y, z) :: rest) (l0 :: l1 :: l2 :: l3 :: l4 :: l5 :: q :: ls) (.int w :: stk) M = am_run d m rest (l0 :: l1 :: l2 :: l3 :: l4 :: am_c1 l5 :: some (.int w) :: ls) stk M := by rw [am_run_eq]; simp [am_F, am_act, am_ex, am_sti, am_set1]
theorem rn_astore6 {l0 l1 l2 l3 l4 l5 : Option Value} {ls : am_L} {q : Option Value} {w : Nat} : am_run d m ((.astore 6, x, y, z) :: rest) (l0 :: l1 :: l2 :: l3 :: l4 :: l5 :: q :: ls) (.ref w :: stk) M = am_run d m rest (l0 :: l1 :: l2 :: l3 :: l4 :: am_c1 l5 :: some (.ref w) :: ls) stk M := by rw [am_run_eq]; simp [am_F, am_act, am_ex, am_sta, am_set1]
theorem rn_lstore6 {l0 l1 l2 l3 l4 l5 : Option Value} {ls : am_L} {q q1 : Option Value} {w : Int64} : am_run d m ((.lstore 6, x, y, z) :: rest) (l0 :: l1 :: l2 :: l3 :: l4 :: l5 :: q :: q1 :: ls) (.long w :: stk) M = am_run d m rest (l0 :: l1 :: l2 :: l3 :: l4 :: am_c1 l5 :: some (.long w) :: none :: ls) stk M := by rw [am_run_eq]; simp [am_F, am_act, am_ex, am_stl, am_set2]
theorem rn_iinc6 {l0 l1 l2 l3 l4 l5 : Option Value} {ls : am_L} {w : Int32} {n : Int} : am_run d m ((.iinc 6 n, x, y, z) :: rest) (l0 :: l1 :: l2 :: l3 :: l4 :: l5 :: some (.int w) :: ls) stk M = am_run d m rest (l0 :: l1 :: l2 :: l3 :: l4 :: am_c1 l5 :: some (.int (w + iI n)) :: ls) stk M := by rw [am_run_eq]; simp [am_F, am_act, am_ex, am_set1, iI]
theorem rn_iload7 {l0 l1 l2 l3 l4 l5 l6 : Option Value} {ls : am_L} {w : Int32} : am_run d m ((.iload 7, x, y, z) :: rest) (l0 :: l1 :: l2 :: l3 :: l4 :: l5 :: l6 :: some (.int w) :: ls) stk M = am_run d m rest (l0 :: l1 :: l2 :: l3 :: l4 :: l5 :: l6 :: some (.int w) :: ls) (.int w :: stk) M := by rw [am_run_eq]; rfl
theorem rn_aload7 {l0 l1 l2 l3 l4 l5 l6 : Option Value} {ls : am_L} {w : Nat} : am_run d m ((.aload 7, x, y, z) :: rest) (l0 :: l1 :: l2 :: l3 :: l4 :: l5 :: l6 :: some (.ref w) :: ls) stk M = am_run d m rest (l0 :: l1 :: l2 :: l3 :: l4 :: l5 :: l6 :: some (.ref w) :: ls) (.ref w :: stk) M := by rw [am_run_eq]; rfl
theorem rn_istore7 {l0 l1 l2 l3 l4 l5 l6 : Option Value} {ls : am_L} {q : Option Value} {w : Int32} : am_run d m ((.istore 7, x, y, z) :: rest) (l0 :: l1 :: l2 :: l3 :: l4 :: l5 :: l6 :: q :: ls) (.int w :: stk) M = am_run d m rest (l0 :: l1 :: l2 :: l3 :: l4 :: l5 :: am_c1 l6 :: some (.int w) :: ls) stk M := by rw [am_run_eq]; simp [am_F, am_act, am_ex, am_sti, am_set1]
theorem rn_astore7 {l0 l1 l2 l3 l4 l5 l6 : Option Value} {ls : am_L} {q : Option Value} {w : Nat} : am_run d m ((.astore 7, x, y, z) :: rest) (l0 :: l1 :: l2 :: l3 :: l4 :: l5 :: l6 :: q :: ls) (.ref w :: stk) M = am_run d m rest (l0 :: l1 :: l2 :: l3 :: l4 :: l5 :: am_c1 l6 :: some (.ref w) :: ls) stk M := by rw [am_run_eq]; simp [am_F, am_act, am_ex, am_sta, am_set1]
theorem rn_iinc7 {l0 l1 l2 l3 l4 l5 l6 : Option Value} {ls : am_L} {w : Int32} {n : Int} : am_run d m ((.iinc 7 n, x, y, z) :: rest) (l0 :: l1 :: l2 :: l3 :: l4 :: l5 :: l6 :: some (.int w) :: ls) stk M = am_run d m rest (l0 :: l1 :: l2 :: l3 :: l4 :: l5 :: am_c1 l6 :: some (.int (w + iI n)) :: ls) stk M := by rw [am_run_eq]; simp [am_F, am_act, am_ex, am_set1, iI]
theorem rn_iload8 {l0 l1 l2 l3 l4 l5 l6 l7 : Option Value} {ls : am_L} {w : Int32} : am_run d m ((.iload 8, x, y, z) :: rest) (l0 :: l1 :: l2 :: l3 :: l4 :: l5 :: l6 :: l7 :: some (.int w) :: ls) stk M = am_run d m rest (l0 :: l1 :: l2 :: l3 :: l4 :: l5 :: l6 :: l7 :: some (.int w) :: ls) (.int w :: stk) M := by rw [am_run_eq]; rfl
theorem rn_aload8 {l0 l1 l2 l3 l4 l5 l6 l7 : Option Value} {ls : am_L} {w : Nat} : am_run d m ((.aload 8, x, y, z) :: rest) (l0 :: l1 :: l2 :: l3 :: l4 :: l5 :: l6 :: l7 :: some (.ref w) :: ls) stk M = am_run d m rest (l0 :: l1 :: l2 :: l3 :: l4 :: l5 :: l6 :: l7 :: some (.ref w) :: ls) (.ref w :: stk) M := by rw [am_run_eq]; rfl
theorem rn_istore8 {l0 l1 l2 l3 l4 l5 l6 l7 : Option Value} {ls : am_L} {q : Option Value} {w : Int32} : am_run d m ((.istore 8, x, y, z) :: rest) (l0 :: l1 :: l2 :: l3 :: l4 :: l5 :: l6 :: l7 :: q :: ls) (.int w :: stk) M = am_run d m rest (l0 :: l1 :: l2 :: l3 :: l4 :: l5 :: l6 :: am_c1 l7 :: some (.int w) :: ls) stk M := by rw [am_run_eq]; simp [am_F, am_act, am_ex, am_sti, am_set1]
theorem rn_astore8 {l0 l1 l2 l3 l4 l5 l6 l7 : Option Value} {ls : am_L} {q : Option Value} {w : Nat} : am_run d m ((.astore 8, x, y, z) :: rest) (l0 :: l1 :: l2 :: l3 :: l4 :: l5 :: l6 :: l7 :: q :: ls) (.ref w :: stk) M = am_run d m rest (l0 :: l1 :: l2 :: l3 :: l4 :: l5 :: l6 :: am_c1 l7 :: some (.ref w) :: ls) stk M := by rw [am_run_eq]; simp [am_F, am_act, am_ex, am_sta, am_set1]
theorem rn_iinc8 {l0 l1 l2 l3 l4 l5 l6 l7 : Option Value} {ls : am_L} {w : Int32} {n : Int} : am_run d m ((.iinc 8 n, x, y, z) :: rest) (l0 :: l1 :: l2 :: l3 :: l4 :: l5 :: l6 :: l7 :: some (.int w) :: ls) stk M = am_run d m rest (l0 :: l1 :: l2 :: l3 :: l4 :: l5 :: l6 :: am_c1 l7 :: some (.int (w + iI n)) :: ls) stk M := by rw [am_run_eq]; simp [am_F, am_act, am_ex, am_set1, iI]
theorem rn_iload9 {l0 l1 l2 l3 l4 l5 l6 l7 l8 : Option Value} {ls : am_L} {w : Int32} : am_run d m ((.iload 9, x, y, z) :: rest) (l0 :: l1 :: l2 :: l3 :: l4 :: l5 :: l6 :: l7 :: l8 :: some (.int w) :: ls) stk M = am_run d m rest (l0 :: l1 :: l2 :: l3 :: l4 :: l5 :: l6 :: l7 :: l8 :: some (.int w) :: ls) (.int w :: stk) M := by rw [am_run_eq]; rfl
theorem rn_aload9 {l0 l1 l2 l3 l4 l5 l6 l7 l8 : Option Value} {ls : am_L} {w : Nat} : am_run d m ((.aload 9, x, y, z) :: rest) (l0 :: l1 :: l2 :: l3 :: l4 :: l5 :: l6 :: l7 :: l8 :: some (.ref w) :: ls) stk M = am_run d m rest (l0 :: l1 :: l2 :: l3 :: l4 :: l5 :: l6 :: l7 :: l8 :: some (.ref w) :: ls) (.ref w :: stk) M := by rw [am_run_eq]; rfl
theorem rn_istore9 {l0 l1 l2 l3 l4 l5 l6 l7 l8 : Option Value} {ls : am_L} {q : Option Value} {w : Int32} : am_run d m ((.istore 9, x, y, z) :: rest) (l0 :: l1 :: l2 :: l3 :: l4 :: l5 :: l6 :: l7 :: l8 :: q :: ls) (.int w :: stk) M = am_run d m rest (l0 :: l1 :: l2 :: l3 :: l4 :: l5 :: l6 :: l7 :: am_c1 l8 :: some (.int w) :: ls) stk M := by rw [am_run_eq]; simp [am_F, am_act, am_ex, am_sti, am_set1]
theorem rn_astore9 {l0 l1 l2 l3 l4 l5 l6 l7 l8 : Option Value} {ls : am_L} {q : Option Value} {w : Nat} : am_run d m ((.astore 9, x, y, z) :: rest) (l0 :: l1 :: l2 :: l3 :: l4 :: l5 :: l6 :: l7 :: l8 :: q :: ls) (.ref w :: stk) M = am_run d m rest (l0 :: l1 :: l2 :: l3 :: l4 :: l5 :: l6 :: l7 :: am_c1 l8 :: some (.ref w) :: ls) stk M := by rw [am_run_eq]; simp [am_F, am_act, am_ex, am_sta, am_set1]
theorem rn_iinc9 {l0 l1 l2 l3 l4 l5 l6 l7 l8 : Option Value} {ls : am_L} {w : Int32} {n : Int} : am_run d m ((.iinc 9 n, x, y, z) :: rest) (l0 :: l1 :: l2 :: l3 :: l4 :: l5 :: l6 :: l7 :: l8 :: some (.int w) :: ls) stk M = am_run d m rest (l0 :: l1 :: l2 :: l3 :: l4 :: l5 :: l6 :: l7 :: am_c1 l8 :: some (.int (w + iI n)) :: ls) stk M := by rw [am_run_eq]; simp [am_F, am_act, am_ex, am_set1, iI]
theorem rn_iadd {a b : Int32} : am_run d m ((.iadd, x, y, z) :: rest) loc (.int b :: .int a :: stk) M = am_run d m rest loc (.int (a + b) :: stk) M := by rw [am_run_eq]; rfl
theorem rn_isub {a b : Int32} : am_run d m ((.isub, x, y, z) :: rest) loc (.int b :: .int a :: stk) M = am_run d m rest loc (.int (a - b) :: stk) M := by rw [am_run_eq]; rfl
theorem rn_imul {a b : Int32} : am_run d m ((.imul, x, y, z) :: rest) loc (.int b :: .int a :: stk) M = am_run d m rest loc (.int (a * b) :: stk) M := by rw [am_run_eq]; rfl
theorem rn_iand {a b : Int32} : am_run d m ((.iand, x, y, z) :: rest) loc (.int b :: .int a :: stk) M = am_run d m rest loc (.int (a &&& b) :: stk) M := by rw [am_run_eq]; rfl
theorem rn_ior {a b : Int32} : am_run d m ((.ior, x, y, z) :: rest) loc (.int b :: .int a :: stk) M = am_run d m rest loc (.int (a ||| b) :: stk) M := by rw [am_run_eq]; rfl
theorem rn_ixor {a b : Int32} : am_run d m ((.ixor, x, y, z) :: rest) loc (.int b :: .int a :: stk) M = am_run d m rest loc (.int (a ^^^ b) :: stk) M := by rw [am_run_eq]; rfl
theorem rn_ishl {a b : Int32} : am_run d m ((.ishl, x, y, z) :: rest) loc (.int b :: .int a :: stk) M = am_run d m rest loc (.int (am_shl a b) :: stk) M := by rw [am_run_eq]; rfl
theorem rn_ishr {a b : Int32} : am_run d m ((.ishr, x, y, z) :: rest) loc (.int b :: .int a :: stk) M = am_run d m rest loc (.int (am_shr a b) :: stk) M := by rw [am_run_eq]; rfl
theorem rn_iushr {a b : Int32} : am_run d m ((.iushr, x, y, z) :: rest) loc (.int b :: .int a :: stk) M = am_run d m rest loc (.int (am_ushr a b) :: stk) M := by rw [am_run_eq]; rfl
theorem rn_idiv {a b : Int32} : am_run d m ((.idiv, x, y, z) :: rest) loc (.int b :: .int a :: stk) M = (if b = 0 then none else am_run d m rest loc (.int (a / b) :: stk) M) := by
  rw [am_run_eq]
  by_cases h : b = 0 <;> simp [am_F, am_act, am_ex, h]
theorem rn_irem {a b : Int32} : am_run d m ((.irem, x, y, z) :: rest) loc (.int b :: .int a :: stk) M = (if b = 0 then none else am_run d m rest loc (.int (am_rem a b) :: stk) M) := by
  rw [am_run_eq]
  by_cases h : b = 0 <;> simp [am_F, am_act, am_ex, h]
theorem rn_ineg {a : Int32} : am_run d m ((.ineg, x, y, z) :: rest) loc (.int a :: stk) M = am_run d m rest loc (.int (-a) :: stk) M := by rw [am_run_eq]; rfl
theorem rn_ladd {a b : Int64} : am_run d m ((.ladd, x, y, z) :: rest) loc (.long b :: .long a :: stk) M = am_run d m rest loc (.long (a + b) :: stk) M := by rw [am_run_eq]; rfl
theorem rn_lsub {a b : Int64} : am_run d m ((.lsub, x, y, z) :: rest) loc (.long b :: .long a :: stk) M = am_run d m rest loc (.long (a - b) :: stk) M := by rw [am_run_eq]; rfl
theorem rn_lmul {a b : Int64} : am_run d m ((.lmul, x, y, z) :: rest) loc (.long b :: .long a :: stk) M = am_run d m rest loc (.long (a * b) :: stk) M := by rw [am_run_eq]; rfl
theorem rn_lor {a b : Int64} : am_run d m ((.lor, x, y, z) :: rest) loc (.long b :: .long a :: stk) M = am_run d m rest loc (.long (a ||| b) :: stk) M := by rw [am_run_eq]; rfl
theorem rn_ldiv {a b : Int64} : am_run d m ((.ldiv, x, y, z) :: rest) loc (.long b :: .long a :: stk) M = (if b = 0 then none else am_run d m rest loc (.long (a / b) :: stk) M) := by
  rw [am_run_eq]
  by_cases h : b = 0 <;> simp [am_F, am_act, am_ex, h]
theorem rn_lrem {a b : Int64} : am_run d m ((.lrem, x, y, z) :: rest) loc (.long b :: .long a :: stk) M = (if b = 0 then none else am_run d m rest loc (.long (am_lrem a b) :: stk) M) := by
  rw [am_run_eq]
  by_cases h : b = 0 <;> simp [am_F, am_act, am_ex, h]
theorem rn_lneg {a : Int64} : am_run d m ((.lneg, x, y, z) :: rest) loc (.long a :: stk) M = am_run d m rest loc (.long (-a) :: stk) M := by rw [am_run_eq]; rfl
theorem rn_lshl {a : Int64} {b : Int32} : am_run d m ((.lshl, x, y, z) :: rest) loc (.int b :: .long a :: stk) M = am_run d m rest loc (.long (am_lshl a b) :: stk) M := by rw [am_run_eq]; rfl
theorem rn_lshr {a : Int64} {b : Int32} : am_run d m ((.lshr, x, y, z) :: rest) loc (.int b :: .long a :: stk) M = am_run d m rest loc (.long (am_lshr a b) :: stk) M := by rw [am_run_eq]; rfl
theorem rn_i2l {a : Int32} : am_run d m ((.i2l, x, y, z) :: rest) loc (.int a :: stk) M = am_run d m rest loc (.long a.toInt64 :: stk) M := by rw [am_run_eq]; rfl
theorem rn_l2i {a : Int64} : am_run d m ((.l2i, x, y, z) :: rest) loc (.long a :: stk) M = am_run d m rest loc (.int a.toInt32 :: stk) M := by rw [am_run_eq]; rfl
theorem rn_i2c {a : Int32} : am_run d m ((.i2c, x, y, z) :: rest) loc (.int a :: stk) M = am_run d m rest loc (.int (am_ic a) :: stk) M := by rw [am_run_eq]; rfl
theorem rn_lcmp {a b : Int64} : am_run d m ((.lcmp, x, y, z) :: rest) loc (.long b :: .long a :: stk) M = am_run d m rest loc (.int (lg_cmp a b) :: stk) M := by rw [am_run_eq]; rfl
theorem rn_dupi {a : Int32} : am_run d m ((.dup, x, y, z) :: rest) loc (.int a :: stk) M = am_run d m rest loc (.int a :: .int a :: stk) M := by rw [am_run_eq]; rfl
theorem rn_dupa {a : Nat} : am_run d m ((.dup, x, y, z) :: rest) loc (.ref a :: stk) M = am_run d m rest loc (.ref a :: .ref a :: stk) M := by rw [am_run_eq]; rfl
theorem rn_popi {a : Int32} : am_run d m ((.pop, x, y, z) :: rest) loc (.int a :: stk) M = am_run d m rest loc stk M := by rw [am_run_eq]; rfl
theorem rn_popa {a : Nat} : am_run d m ((.pop, x, y, z) :: rest) loc (.ref a :: stk) M = am_run d m rest loc stk M := by rw [am_run_eq]; rfl
theorem rn_dup2 {a : Int32} {b : Nat} : am_run d m ((.dup2, x, y, z) :: rest) loc (.int a :: .ref b :: stk) M = am_run d m rest loc (.int a :: .ref b :: .int a :: .ref b :: stk) M := by rw [am_run_eq]; rfl
theorem rn_iald {a : Nat} {j : Int32} : am_run d m ((.iaload, x, y, z) :: rest) loc (.int j :: .ref a :: stk) (L, T, S, u, v, r) = (if am_in (S a) 0 j ∨ am_in (S a) 5 j then am_run d m rest loc (.int (u a j.toNatClampNeg) :: stk) (L, T, S, u, v, r) else none) := by
  rw [am_run_eq]
  by_cases h : am_in (S a) 0 j ∨ am_in (S a) 5 j
  · rw [if_pos h]; simp only [am_F, am_act, am_ex, if_pos h, Option.bind]; try rfl
  · rw [if_neg h]; simp only [am_F, am_act, am_ex, if_neg h, Option.bind]
theorem rn_lald {a : Nat} {j : Int32} : am_run d m ((.laload, x, y, z) :: rest) loc (.int j :: .ref a :: stk) (L, T, S, u, v, r) = (if am_in (S a) 1 j then am_run d m rest loc (.long (v a j.toNatClampNeg) :: stk) (L, T, S, u, v, r) else none) := by
  rw [am_run_eq]
  by_cases h : am_in (S a) 1 j
  · rw [if_pos h]; simp only [am_F, am_act, am_ex, if_pos h, Option.bind]; try rfl
  · rw [if_neg h]; simp only [am_F, am_act, am_ex, if_neg h, Option.bind]
theorem rn_bald {a : Nat} {j : Int32} : am_run d m ((.baload, x, y, z) :: rest) loc (.int j :: .ref a :: stk) (L, T, S, u, v, r) = (if am_in (S a) 2 j then am_run d m rest loc (.int (u a j.toNatClampNeg) :: stk) (L, T, S, u, v, r) else none) := by
  rw [am_run_eq]
  by_cases h : am_in (S a) 2 j
  · rw [if_pos h]; simp only [am_F, am_act, am_ex, if_pos h, Option.bind]; try rfl
  · rw [if_neg h]; simp only [am_F, am_act, am_ex, if_neg h, Option.bind]
theorem rn_iast {a : Nat} {j w : Int32} : am_run d m ((.iastore, x, y, z) :: rest) loc (.int w :: .int j :: .ref a :: stk) (L, T, S, u, v, r) = (if am_in (S a) 0 j then am_run d m rest loc stk (L, T, S, am_up u a j.toNatClampNeg w, v, r) else none) := by
  rw [am_run_eq]
  by_cases h : am_in (S a) 0 j
  · rw [if_pos h]; simp only [am_F, am_act, am_ex, if_pos h, Option.bind]; try rfl
  · rw [if_neg h]; simp only [am_F, am_act, am_ex, if_neg h, Option.bind]
theorem rn_last {a : Nat} {j : Int32} {w : Int64} : am_run d m ((.lastore, x, y, z) :: rest) loc (.long w :: .int j :: .ref a :: stk) (L, T, S, u, v, r) = (if am_in (S a) 1 j then am_run d m rest loc stk (L, T, S, u, am_up v a j.toNatClampNeg w, r) else none) := by
  rw [am_run_eq]
  by_cases h : am_in (S a) 1 j
  · rw [if_pos h]; simp only [am_F, am_act, am_ex, if_pos h, Option.bind]; try rfl
  · rw [if_neg h]; simp only [am_F, am_act, am_ex, if_neg h, Option.bind]
theorem rn_bast {a : Nat} {j w : Int32} : am_run d m ((.bastore, x, y, z) :: rest) loc (.int w :: .int j :: .ref a :: stk) (L, T, S, u, v, r) = (if am_in (S a) 2 j ∧ (w = 0 ∨ w = 1) then am_run d m rest loc stk (L, T, S, am_up u a j.toNatClampNeg w, v, r) else none) := by
  rw [am_run_eq]
  by_cases h : am_in (S a) 2 j ∧ (w = 0 ∨ w = 1)
  · rw [if_pos h]; simp only [am_F, am_act, am_ex, if_pos h, Option.bind]; try rfl
  · rw [if_neg h]; simp only [am_F, am_act, am_ex, if_neg h, Option.bind]
theorem rn_aast {a q : Nat} {j : Int32} : am_run d m ((.aastore, x, y, z) :: rest) loc (.ref q :: .int j :: .ref a :: stk) (L, T, S, u, v, r) = (if (am_in (S a) 3 j ∧ S q = (18, 0)) ∨ (am_in (S a) 4 j ∧ S q = (17, 0)) then am_run d m rest loc stk (L, T, S, u, v, am_up r a j.toNatClampNeg (some q)) else none) := by
  rw [am_run_eq]
  by_cases h : (am_in (S a) 3 j ∧ S q = (18, 0)) ∨ (am_in (S a) 4 j ∧ S q = (17, 0))
  · rw [if_pos h]; simp only [am_F, am_act, am_ex, if_pos h, Option.bind]; try rfl
  · rw [if_neg h]; simp only [am_F, am_act, am_ex, if_neg h, Option.bind]
theorem rn_alen {a : Nat} : am_run d m ((.arraylength, x, y, z) :: rest) loc (.ref a :: stk) (L, T, S, u, v, r) = (if (S a).1 < 6 then am_run d m rest loc (.int (iI ((S a).2 : Int)) :: stk) (L, T, S, u, v, r) else none) := by
  rw [am_run_eq]
  by_cases h : (S a).1 < 6
  · rw [if_pos h]; simp only [am_F, am_act, am_ex, if_pos h, Option.bind]; try rfl
  · rw [if_neg h]; simp only [am_F, am_act, am_ex, if_neg h, Option.bind]
theorem rn_geti {a k : Nat} : am_run d m ((.getfield k, x, y, 0) :: rest) loc (.ref a :: stk) (L, T, S, u, v, r) = (if S a = (x, 0) then am_run d m rest loc (.int (u a y) :: stk) (L, T, S, u, v, r) else none) := by
  rw [am_run_eq]
  by_cases h : S a = (x, 0)
  · rw [if_pos h]; simp only [am_F, am_act, am_ex, if_pos h, Option.bind, if_true]; try rfl
  · rw [if_neg h]; simp only [am_F, am_act, am_ex, if_neg h, Option.bind]
theorem rn_getl {a k : Nat} : am_run d m ((.getfield k, x, y, 1) :: rest) loc (.ref a :: stk) (L, T, S, u, v, r) = (if S a = (x, 0) then am_run d m rest loc (.long (v a y) :: stk) (L, T, S, u, v, r) else none) := by
  rw [am_run_eq]
  by_cases h : S a = (x, 0)
  · rw [if_pos h]; simp only [am_F, am_act, am_ex, if_pos h, Option.bind, if_true, show ¬ ((1 : Int) = 0) by decide, if_false]; try rfl
  · rw [if_neg h]; simp only [am_F, am_act, am_ex, if_neg h, Option.bind]
theorem rn_geta {a k : Nat} : am_run d m ((.getfield k, x, y, 3) :: rest) loc (.ref a :: stk) (L, T, S, u, v, r) = (if S a = (x, 0) then (match r a y with | some q => am_run d m rest loc (.ref q :: stk) (L, T, S, u, v, r) | none => none) else none) := by
  rw [am_run_eq]
  by_cases h : S a = (x, 0)
  · rw [if_pos h]
    cases hr : r a y <;> simp [am_F, am_act, am_ex, h, hr]
  · rw [if_neg h]; simp [am_F, am_act, am_ex, h]
theorem rn_aald {a : Nat} {j : Int32} : am_run d m ((.aaload, x, y, z) :: rest) loc (.int j :: .ref a :: stk) (L, T, S, u, v, r) = (if am_in (S a) 3 j ∨ am_in (S a) 4 j then (match r a j.toNatClampNeg with | some q => am_run d m rest loc (.ref q :: stk) (L, T, S, u, v, r) | none => none) else none) := by
  rw [am_run_eq]
  by_cases h : am_in (S a) 3 j ∨ am_in (S a) 4 j
  · rw [if_pos h]
    cases hr : r a j.toNatClampNeg <;> simp only [am_F, am_act, am_ex, if_pos h, hr, Option.bind]
  · rw [if_neg h]; simp only [am_F, am_act, am_ex, if_neg h, Option.bind]
theorem rn_puti {a k : Nat} {w : Int32} : am_run d m ((.putfield k, x, y, 0) :: rest) loc (.int w :: .ref a :: stk) (L, T, S, u, v, r) = (if S a = (x, 0) then am_run d m rest loc stk (L, T, S, am_up u a y w, v, r) else none) := by
  rw [am_run_eq]
  by_cases h : S a = (x, 0) <;> simp [am_F, am_act, am_ex, h]
theorem rn_putz {a k : Nat} {w : Int32} : am_run d m ((.putfield k, x, y, 2) :: rest) loc (.int w :: .ref a :: stk) (L, T, S, u, v, r) = (if S a = (x, 0) ∧ (w = 0 ∨ w = 1) then am_run d m rest loc stk (L, T, S, am_up u a y w, v, r) else none) := by
  rw [am_run_eq]
  by_cases h : S a = (x, 0) <;> by_cases h2 : w = 0 ∨ w = 1 <;> simp [am_F, am_act, am_ex, h, h2]
theorem rn_putl {a k : Nat} {w : Int64} : am_run d m ((.putfield k, x, y, 1) :: rest) loc (.long w :: .ref a :: stk) (L, T, S, u, v, r) = (if S a = (x, 0) then am_run d m rest loc stk (L, T, S, u, am_up v a y w, r) else none) := by
  rw [am_run_eq]
  by_cases h : S a = (x, 0) <;> simp [am_F, am_act, am_ex, h]
theorem rn_puta {a k q : Nat} : am_run d m ((.putfield k, x, y, 3) :: rest) loc (.ref q :: .ref a :: stk) (L, T, S, u, v, r) = (if S a = (x, 0) then am_run d m rest loc stk (L, T, S, u, v, am_up r a y (some q)) else none) := by
  rw [am_run_eq]
  by_cases h : S a = (x, 0) <;> simp [am_F, am_act, am_ex, h]
theorem rn_new {k : Nat} : am_run d m ((.new k, x, y, z) :: rest) loc stk (L, T, S, u, v, r) = (if L < 900000 then am_run d m rest loc (.ref L :: stk) (L + 1, T + y, am_sh S L (x, 0), am_row u L (fun _ => 0), am_row v L (fun _ => 0), am_row r L (fun _ => none)) else none) := by
  rw [am_run_eq]
  by_cases h : L < 900000
  · rw [if_pos h]; simp only [am_F, am_act, am_ex, if_pos h, Option.bind]; try rfl
  · rw [if_neg h]; simp only [am_F, am_act, am_ex, if_neg h, Option.bind]
theorem rn_newa {t : ArrayType} {n : Int32} : am_run d m ((.newarray t, x, y, z) :: rest) loc (.int n :: stk) (L, T, S, u, v, r) = (if ¬ n < 0 ∧ n.toNatClampNeg ≤ 100000 ∧ L < 900000 then am_run d m rest loc (.ref L :: stk) (L + 1, T + n.toNatClampNeg, am_sh S L (x, n.toNatClampNeg), am_row u L (fun _ => 0), am_row v L (fun _ => 0), am_row r L (fun _ => none)) else none) := by
  rw [am_run_eq]
  by_cases h : ¬ n < 0 ∧ n.toNatClampNeg ≤ 100000 ∧ L < 900000
  · rw [if_pos h]; simp only [am_F, am_act, am_ex, if_pos h, Option.bind]; try rfl
  · rw [if_neg h]; simp only [am_F, am_act, am_ex, if_neg h, Option.bind]
theorem rn_anew {k : Nat} {n : Int32} : am_run d m ((.anewarray k, x, y, z) :: rest) loc (.int n :: stk) (L, T, S, u, v, r) = (if ¬ n < 0 ∧ n.toNatClampNeg ≤ 100000 ∧ L < 900000 then am_run d m rest loc (.ref L :: stk) (L + 1, T + n.toNatClampNeg, am_sh S L (x, n.toNatClampNeg), am_row u L (fun _ => 0), am_row v L (fun _ => 0), am_row r L (fun _ => none)) else none) := by
  rw [am_run_eq]
  by_cases h : ¬ n < 0 ∧ n.toNatClampNeg ≤ 100000 ∧ L < 900000
  · rw [if_pos h]; simp only [am_F, am_act, am_ex, if_pos h, Option.bind]; try rfl
  · rw [if_neg h]; simp only [am_F, am_act, am_ex, if_neg h, Option.bind]
theorem rn_min {k : Nat} {a b : Int32} : am_run d m ((.invokestatic k, 900, y, z) :: rest) loc (.int b :: .int a :: stk) (L, T, S, u, v, r) = (if am_cs stk ≤ 8 then am_run d m rest loc (.int (if b < a then b else a) :: stk) (L, T, S, u, v, r) else none) := by
  rw [am_run_eq]
  by_cases h : am_cs stk ≤ 8
  · rw [if_pos h]; simp only [am_F, am_act, am_ex, if_neg (show ¬ (900 : Nat) < 900 by decide), if_true, if_pos h, Option.bind]; try rfl
  · rw [if_neg h]; simp only [am_F, am_act, am_ex, if_neg (show ¬ (900 : Nat) < 900 by decide), if_true, if_neg h, Option.bind]
theorem rn_max {k : Nat} {a b : Int32} : am_run d m ((.invokestatic k, 901, y, z) :: rest) loc (.int b :: .int a :: stk) (L, T, S, u, v, r) = (if am_cs stk ≤ 8 then am_run d m rest loc (.int (if a < b then b else a) :: stk) (L, T, S, u, v, r) else none) := by
  rw [am_run_eq]
  by_cases h : am_cs stk ≤ 8
  · rw [if_pos h]; simp only [am_F, am_act, am_ex, if_neg (show ¬ (901 : Nat) < 900 by decide), if_neg (show ¬ (901 : Nat) = 900 by decide), if_true, if_pos h, Option.bind]; try rfl
  · rw [if_neg h]; simp only [am_F, am_act, am_ex, if_neg (show ¬ (901 : Nat) < 900 by decide), if_neg (show ¬ (901 : Nat) = 900 by decide), if_true, if_neg h, Option.bind]
theorem rn_copy {k a a0 : Nat} {n dp sp : Int32} : am_run d m ((.invokestatic k, 902, y, z) :: rest) loc (.int n :: .int dp :: .ref a :: .int sp :: .ref a0 :: stk) (L, T, S, u, v, r) = (if ((S a).1 = 0 ∧ (S a0).1 = 0 ∧ ¬ sp < 0 ∧ ¬ dp < 0 ∧ ¬ n < 0 ∧ sp.toNatClampNeg + n.toNatClampNeg ≤ (S a0).2 ∧ dp.toNatClampNeg + n.toNatClampNeg ≤ (S a).2) ∧ am_cs stk ≤ 8 then am_run d m rest loc stk (L, T, S, am_row u a (va_cpy (u a0) (u a) sp.toNatClampNeg dp.toNatClampNeg n.toNatClampNeg), v, r) else none) := by
  rw [am_run_eq]
  by_cases h : ((S a).1 = 0 ∧ (S a0).1 = 0 ∧ ¬ sp < 0 ∧ ¬ dp < 0 ∧ ¬ n < 0 ∧ sp.toNatClampNeg + n.toNatClampNeg ≤ (S a0).2 ∧ dp.toNatClampNeg + n.toNatClampNeg ≤ (S a).2) ∧ am_cs stk ≤ 8
  · rw [if_pos h]; simp only [am_F, am_act, am_ex, if_neg (show ¬ (902 : Nat) < 900 by decide), if_neg (show ¬ (902 : Nat) = 900 by decide), if_neg (show ¬ (902 : Nat) = 901 by decide), if_true, if_pos h, Option.bind]; try rfl
  · rw [if_neg h]; simp only [am_F, am_act, am_ex, if_neg (show ¬ (902 : Nat) < 900 by decide), if_neg (show ¬ (902 : Nat) = 900 by decide), if_neg (show ¬ (902 : Nat) = 901 by decide), if_true, if_neg h, Option.bind]
theorem rn_slen {k a : Nat} {j : Int32} : am_run d m ((.invokevirtual k, 910, y, z) :: rest) loc (.ref a :: stk) (L, T, S, u, v, r) = (if (S a).1 = 7 ∧ am_cs stk ≤ 8 then am_run d m rest loc (.int (iI ((S a).2 : Int)) :: stk) (L, T, S, u, v, r) else none) := by
  rw [am_run_eq]
  by_cases h : (S a).1 = 7 ∧ am_cs stk ≤ 8
  · rw [if_pos h]; simp only [am_F, am_act, am_ex, if_neg (show ¬ (910 : Nat) < 900 by decide), if_true, if_pos h, Option.bind]; try rfl
  · rw [if_neg h]; simp only [am_F, am_act, am_ex, if_neg (show ¬ (910 : Nat) < 900 by decide), if_true, if_neg h, Option.bind]
theorem rn_chat {k a : Nat} {j : Int32} : am_run d m ((.invokevirtual k, 911, y, z) :: rest) loc (.int j :: .ref a :: stk) (L, T, S, u, v, r) = (if am_in (S a) 7 j ∧ am_cs stk ≤ 8 then am_run d m rest loc (.int (u a j.toNatClampNeg) :: stk) (L, T, S, u, v, r) else none) := by
  rw [am_run_eq]
  by_cases h : am_in (S a) 7 j ∧ am_cs stk ≤ 8
  · rw [if_pos h]; simp only [am_F, am_act, am_ex, if_neg (show ¬ (911 : Nat) < 900 by decide), if_neg (show ¬ (911 : Nat) = 910 by decide), if_true, if_pos h, Option.bind]; try rfl
  · rw [if_neg h]; simp only [am_F, am_act, am_ex, if_neg (show ¬ (911 : Nat) < 900 by decide), if_neg (show ¬ (911 : Nat) = 910 by decide), if_true, if_neg h, Option.bind]
theorem rn_indx {k a : Nat} {j : Int32} : am_run d m ((.invokevirtual k, 912, y, z) :: rest) loc (.int j :: .ref a :: stk) (L, T, S, u, v, r) = (if (S a).1 = 7 ∧ am_cs stk ≤ 8 then am_run d m rest loc (.int (am_ix (u a) j (S a).2 0) :: stk) (L, T, S, u, v, r) else none) := by
  rw [am_run_eq]
  by_cases h : (S a).1 = 7 ∧ am_cs stk ≤ 8
  · rw [if_pos h]; simp only [am_F, am_act, am_ex, if_neg (show ¬ (912 : Nat) < 900 by decide), if_neg (show ¬ (912 : Nat) = 910 by decide), if_neg (show ¬ (912 : Nat) = 911 by decide), if_true, if_pos h, Option.bind]; try rfl
  · rw [if_neg h]; simp only [am_F, am_act, am_ex, if_neg (show ¬ (912 : Nat) < 900 by decide), if_neg (show ¬ (912 : Nat) = 910 by decide), if_neg (show ¬ (912 : Nat) = 911 by decide), if_true, if_neg h, Option.bind]
theorem rn_objI {k a : Nat} : am_run d m ((.invokespecial k, 950, y, z) :: rest) loc (.ref a :: stk) (L, T, S, u, v, r) = (if am_cs stk ≤ 8 then am_run d m rest loc stk (L, T, S, u, v, r) else none) := by
  rw [am_run_eq]
  by_cases h : am_cs stk ≤ 8
  · rw [if_pos h]; simp only [am_F, am_act, am_ex, if_neg (show ¬ (950 : Nat) < 900 by decide), if_true, if_pos h, Option.bind]; try rfl
  · rw [if_neg h]; simp only [am_F, am_act, am_ex, if_neg (show ¬ (950 : Nat) < 900 by decide), if_true, if_neg h, Option.bind]
theorem rn_nop : am_run d m ((.nop, x, y, z) :: rest) loc stk M = am_run d m (am_B m x) loc stk M := by rw [am_run_eq]; rfl
theorem rn_goto (i : Int) : am_run d m ((.goto i, x, y, z) :: rest) loc stk M = am_run d m (am_B m x) loc stk M := by rw [am_run_eq]; rfl
theorem rn_ifeq {a : Int32} {i : Int} : am_run d m ((.ifCond .eq i, x, y, z) :: rest) loc (.int a :: stk) M = (if a = 0 then am_run d m (am_B m x) loc stk M else am_run d m rest loc stk M) := by
  rw [am_run_eq]
  by_cases h : a = 0 <;> simp [am_F, am_act, am_if0, h]
theorem rn_ifne {a : Int32} {i : Int} : am_run d m ((.ifCond .ne i, x, y, z) :: rest) loc (.int a :: stk) M = (if ¬ a = 0 then am_run d m (am_B m x) loc stk M else am_run d m rest loc stk M) := by
  rw [am_run_eq]
  by_cases h : ¬ a = 0 <;> simp [am_F, am_act, am_if0, h]
theorem rn_iflt {a : Int32} {i : Int} : am_run d m ((.ifCond .lt i, x, y, z) :: rest) loc (.int a :: stk) M = (if a < 0 then am_run d m (am_B m x) loc stk M else am_run d m rest loc stk M) := by
  rw [am_run_eq]
  by_cases h : a < 0 <;> simp [am_F, am_act, am_if0, h]
theorem rn_ifge {a : Int32} {i : Int} : am_run d m ((.ifCond .ge i, x, y, z) :: rest) loc (.int a :: stk) M = (if 0 ≤ a then am_run d m (am_B m x) loc stk M else am_run d m rest loc stk M) := by
  rw [am_run_eq]
  by_cases h : 0 ≤ a <;> simp [am_F, am_act, am_if0, h]
theorem rn_ifgt {a : Int32} {i : Int} : am_run d m ((.ifCond .gt i, x, y, z) :: rest) loc (.int a :: stk) M = (if 0 < a then am_run d m (am_B m x) loc stk M else am_run d m rest loc stk M) := by
  rw [am_run_eq]
  by_cases h : 0 < a <;> simp [am_F, am_act, am_if0, h]
theorem rn_ifle {a : Int32} {i : Int} : am_run d m ((.ifCond .le i, x, y, z) :: rest) loc (.int a :: stk) M = (if a ≤ 0 then am_run d m (am_B m x) loc stk M else am_run d m rest loc stk M) := by
  rw [am_run_eq]
  by_cases h : a ≤ 0 <;> simp [am_F, am_act, am_if0, h]
theorem rn_iceq {a b : Int32} {i : Int} : am_run d m ((.if_icmp .eq i, x, y, z) :: rest) loc (.int b :: .int a :: stk) M = (if a = b then am_run d m (am_B m x) loc stk M else am_run d m rest loc stk M) := by
  rw [am_run_eq]
  by_cases h : a = b <;> simp [am_F, am_act, am_if2, h]
theorem rn_icne {a b : Int32} {i : Int} : am_run d m ((.if_icmp .ne i, x, y, z) :: rest) loc (.int b :: .int a :: stk) M = (if ¬ a = b then am_run d m (am_B m x) loc stk M else am_run d m rest loc stk M) := by
  rw [am_run_eq]
  by_cases h : ¬ a = b <;> simp [am_F, am_act, am_if2, h]
theorem rn_iclt {a b : Int32} {i : Int} : am_run d m ((.if_icmp .lt i, x, y, z) :: rest) loc (.int b :: .int a :: stk) M = (if a < b then am_run d m (am_B m x) loc stk M else am_run d m rest loc stk M) := by
  rw [am_run_eq]
  by_cases h : a < b <;> simp [am_F, am_act, am_if2, h]
theorem rn_icge {a b : Int32} {i : Int} : am_run d m ((.if_icmp .ge i, x, y, z) :: rest) loc (.int b :: .int a :: stk) M = (if b ≤ a then am_run d m (am_B m x) loc stk M else am_run d m rest loc stk M) := by
  rw [am_run_eq]
  by_cases h : b ≤ a <;> simp [am_F, am_act, am_if2, h]
theorem rn_icgt {a b : Int32} {i : Int} : am_run d m ((.if_icmp .gt i, x, y, z) :: rest) loc (.int b :: .int a :: stk) M = (if b < a then am_run d m (am_B m x) loc stk M else am_run d m rest loc stk M) := by
  rw [am_run_eq]
  by_cases h : b < a <;> simp [am_F, am_act, am_if2, h]
theorem rn_icle {a b : Int32} {i : Int} : am_run d m ((.if_icmp .le i, x, y, z) :: rest) loc (.int b :: .int a :: stk) M = (if a ≤ b then am_run d m (am_B m x) loc stk M else am_run d m rest loc stk M) := by
  rw [am_run_eq]
  by_cases h : a ≤ b <;> simp [am_F, am_act, am_if2, h]
theorem rn_tsw {d0 lo hi : Int} {offs : Array Int} {a : Int32} : am_run d m ((.tableswitch d0 lo hi offs, x, y, z) :: rest) loc (.int a :: stk) M = am_run d m (am_B m (am_swt (am_sw m y) x a.toInt)) loc stk M := by rw [am_run_eq]; rfl
theorem rn_lsw {d0 : Int} {offs : Array (Int × Int)} {a : Int32} : am_run d m ((.lookupswitch d0 offs, x, y, z) :: rest) loc (.int a :: stk) M = am_run d m (am_B m (am_swt (am_sw m y) x a.toInt)) loc stk M := by rw [am_run_eq]; rfl
theorem rn_iret {a : Int32} : am_run d m ((.ireturn, x, 0, z) :: rest) loc [.int a] M = some (some (.int a), M) := by rw [am_run_eq]; rfl
theorem rn_zret {a : Int32} : am_run d m ((.ireturn, x, 1, z) :: rest) loc [.int a] M = (if a = 0 ∨ a = 1 then some (some (.int a), M) else none) := by
  rw [am_run_eq]
  by_cases h0 : a = 0 <;> by_cases h1 : a = 1 <;> simp [am_F, am_act, am_rk, h0, h1]
theorem rn_lret {a : Int64} : am_run d m ((.lreturn, x, y, z) :: rest) loc [.long a] M = some (some (.long a), M) := by rw [am_run_eq]; rfl
theorem rn_aret {a : Nat} : am_run d m ((.areturn, x, y, z) :: rest) loc [.ref a] M = some (some (.ref a), M) := by rw [am_run_eq]; rfl
theorem rn_vret : am_run d m ((.return_, x, y, z) :: rest) loc [] M = some (none, M) := by rw [am_run_eq]; rfl
theorem rn_cs0 {k c : Nat} (hc : c < 900) : am_run (d + 1) m ((.invokestatic k, c, 0, z) :: rest) loc (stk) M = (if am_cs stk ≤ 8 ∧ am_cs [] ≤ am_mx c then (am_call d c [] M).bind (fun w => am_run (d + 1) m rest loc (w.1.toList ++ stk) w.2) else none) := by
  rw [am_run_eq]
  simp only [am_F, am_act, if_pos hc, am_cl]
  by_cases h : am_cs stk ≤ 8 <;> by_cases h3 : am_cs [] ≤ am_mx c <;> simp [am_call, h, h3]
theorem rn_cs1 {k c : Nat} {v1 : Value} (hc : c < 900) : am_run (d + 1) m ((.invokestatic k, c, 1, z) :: rest) loc (v1 :: stk) M = (if am_cs stk ≤ 8 ∧ am_cs [v1] ≤ am_mx c then (am_call d c [v1] M).bind (fun w => am_run (d + 1) m rest loc (w.1.toList ++ stk) w.2) else none) := by
  rw [am_run_eq]
  simp only [am_F, am_act, if_pos hc, am_cl]
  by_cases h : am_cs stk ≤ 8 <;> by_cases h3 : am_cs [v1] ≤ am_mx c <;> simp [am_call, h, h3]
theorem rn_cs2 {k c : Nat} {v1 v2 : Value} (hc : c < 900) : am_run (d + 1) m ((.invokestatic k, c, 2, z) :: rest) loc (v2 :: v1 :: stk) M = (if am_cs stk ≤ 8 ∧ am_cs [v1, v2] ≤ am_mx c then (am_call d c [v1, v2] M).bind (fun w => am_run (d + 1) m rest loc (w.1.toList ++ stk) w.2) else none) := by
  rw [am_run_eq]
  simp only [am_F, am_act, if_pos hc, am_cl]
  by_cases h : am_cs stk ≤ 8 <;> by_cases h3 : am_cs [v1, v2] ≤ am_mx c <;> simp [am_call, h, h3]
theorem rn_cs3 {k c : Nat} {v1 v2 v3 : Value} (hc : c < 900) : am_run (d + 1) m ((.invokestatic k, c, 3, z) :: rest) loc (v3 :: v2 :: v1 :: stk) M = (if am_cs stk ≤ 8 ∧ am_cs [v1, v2, v3] ≤ am_mx c then (am_call d c [v1, v2, v3] M).bind (fun w => am_run (d + 1) m rest loc (w.1.toList ++ stk) w.2) else none) := by
  rw [am_run_eq]
  simp only [am_F, am_act, if_pos hc, am_cl]
  by_cases h : am_cs stk ≤ 8 <;> by_cases h3 : am_cs [v1, v2, v3] ≤ am_mx c <;> simp [am_call, h, h3]
theorem rn_cs4 {k c : Nat} {v1 v2 v3 v4 : Value} (hc : c < 900) : am_run (d + 1) m ((.invokestatic k, c, 4, z) :: rest) loc (v4 :: v3 :: v2 :: v1 :: stk) M = (if am_cs stk ≤ 8 ∧ am_cs [v1, v2, v3, v4] ≤ am_mx c then (am_call d c [v1, v2, v3, v4] M).bind (fun w => am_run (d + 1) m rest loc (w.1.toList ++ stk) w.2) else none) := by
  rw [am_run_eq]
  simp only [am_F, am_act, if_pos hc, am_cl]
  by_cases h : am_cs stk ≤ 8 <;> by_cases h3 : am_cs [v1, v2, v3, v4] ≤ am_mx c <;> simp [am_call, h, h3]
theorem rn_cs5 {k c : Nat} {v1 v2 v3 v4 v5 : Value} (hc : c < 900) : am_run (d + 1) m ((.invokestatic k, c, 5, z) :: rest) loc (v5 :: v4 :: v3 :: v2 :: v1 :: stk) M = (if am_cs stk ≤ 8 ∧ am_cs [v1, v2, v3, v4, v5] ≤ am_mx c then (am_call d c [v1, v2, v3, v4, v5] M).bind (fun w => am_run (d + 1) m rest loc (w.1.toList ++ stk) w.2) else none) := by
  rw [am_run_eq]
  simp only [am_F, am_act, if_pos hc, am_cl]
  by_cases h : am_cs stk ≤ 8 <;> by_cases h3 : am_cs [v1, v2, v3, v4, v5] ≤ am_mx c <;> simp [am_call, h, h3]
theorem rn_cs6 {k c : Nat} {v1 v2 v3 v4 v5 v6 : Value} (hc : c < 900) : am_run (d + 1) m ((.invokestatic k, c, 6, z) :: rest) loc (v6 :: v5 :: v4 :: v3 :: v2 :: v1 :: stk) M = (if am_cs stk ≤ 8 ∧ am_cs [v1, v2, v3, v4, v5, v6] ≤ am_mx c then (am_call d c [v1, v2, v3, v4, v5, v6] M).bind (fun w => am_run (d + 1) m rest loc (w.1.toList ++ stk) w.2) else none) := by
  rw [am_run_eq]
  simp only [am_F, am_act, if_pos hc, am_cl]
  by_cases h : am_cs stk ≤ 8 <;> by_cases h3 : am_cs [v1, v2, v3, v4, v5, v6] ≤ am_mx c <;> simp [am_call, h, h3]
theorem rn_cs7 {k c : Nat} {v1 v2 v3 v4 v5 v6 v7 : Value} (hc : c < 900) : am_run (d + 1) m ((.invokestatic k, c, 7, z) :: rest) loc (v7 :: v6 :: v5 :: v4 :: v3 :: v2 :: v1 :: stk) M = (if am_cs stk ≤ 8 ∧ am_cs [v1, v2, v3, v4, v5, v6, v7] ≤ am_mx c then (am_call d c [v1, v2, v3, v4, v5, v6, v7] M).bind (fun w => am_run (d + 1) m rest loc (w.1.toList ++ stk) w.2) else none) := by
  rw [am_run_eq]
  simp only [am_F, am_act, if_pos hc, am_cl]
  by_cases h : am_cs stk ≤ 8 <;> by_cases h3 : am_cs [v1, v2, v3, v4, v5, v6, v7] ≤ am_mx c <;> simp [am_call, h, h3]
theorem rn_cv1 {k c a : Nat} (hc : c < 900) : am_run (d + 1) m ((.invokevirtual k, c, 1, z) :: rest) loc (.ref a :: stk) (L, T, S, u, v, r) = (if S a = (z.toNat, 0) ∧ am_cs stk ≤ 8 ∧ am_cs [.ref a] ≤ am_mx c then (am_call d c [.ref a] (L, T, S, u, v, r)).bind (fun w => am_run (d + 1) m rest loc (w.1.toList ++ stk) w.2) else none) := by
  rw [am_run_eq]
  simp only [am_F, am_act, if_pos hc, am_cl]
  by_cases h : S a = (z.toNat, 0) <;> by_cases h2 : am_cs stk ≤ 8 <;> by_cases h3 : am_cs [.ref a] ≤ am_mx c <;> simp [am_call, h, h2, h3]
theorem rn_ci1 {k c a : Nat} (hc : c < 900) : am_run (d + 1) m ((.invokespecial k, c, 1, z) :: rest) loc (.ref a :: stk) (L, T, S, u, v, r) = (if S a = (z.toNat, 0) ∧ am_cs stk ≤ 8 ∧ am_cs [.ref a] ≤ am_mx c then (am_call d c [.ref a] (L, T, S, u, v, r)).bind (fun w => am_run (d + 1) m rest loc (w.1.toList ++ stk) w.2) else none) := by
  rw [am_run_eq]
  simp only [am_F, am_act, if_pos hc, am_cl]
  by_cases h : S a = (z.toNat, 0) <;> by_cases h2 : am_cs stk ≤ 8 <;> by_cases h3 : am_cs [.ref a] ≤ am_mx c <;> simp [am_call, h, h2, h3]
theorem rn_cv2 {k c a : Nat} {v1 : Value} (hc : c < 900) : am_run (d + 1) m ((.invokevirtual k, c, 2, z) :: rest) loc (v1 :: .ref a :: stk) (L, T, S, u, v, r) = (if S a = (z.toNat, 0) ∧ am_cs stk ≤ 8 ∧ am_cs [.ref a, v1] ≤ am_mx c then (am_call d c [.ref a, v1] (L, T, S, u, v, r)).bind (fun w => am_run (d + 1) m rest loc (w.1.toList ++ stk) w.2) else none) := by
  rw [am_run_eq]
  simp only [am_F, am_act, if_pos hc, am_cl]
  by_cases h : S a = (z.toNat, 0) <;> by_cases h2 : am_cs stk ≤ 8 <;> by_cases h3 : am_cs [.ref a, v1] ≤ am_mx c <;> simp [am_call, h, h2, h3]
theorem rn_ci2 {k c a : Nat} {v1 : Value} (hc : c < 900) : am_run (d + 1) m ((.invokespecial k, c, 2, z) :: rest) loc (v1 :: .ref a :: stk) (L, T, S, u, v, r) = (if S a = (z.toNat, 0) ∧ am_cs stk ≤ 8 ∧ am_cs [.ref a, v1] ≤ am_mx c then (am_call d c [.ref a, v1] (L, T, S, u, v, r)).bind (fun w => am_run (d + 1) m rest loc (w.1.toList ++ stk) w.2) else none) := by
  rw [am_run_eq]
  simp only [am_F, am_act, if_pos hc, am_cl]
  by_cases h : S a = (z.toNat, 0) <;> by_cases h2 : am_cs stk ≤ 8 <;> by_cases h3 : am_cs [.ref a, v1] ≤ am_mx c <;> simp [am_call, h, h2, h3]
theorem rn_cv3 {k c a : Nat} {v1 v2 : Value} (hc : c < 900) : am_run (d + 1) m ((.invokevirtual k, c, 3, z) :: rest) loc (v2 :: v1 :: .ref a :: stk) (L, T, S, u, v, r) = (if S a = (z.toNat, 0) ∧ am_cs stk ≤ 8 ∧ am_cs [.ref a, v1, v2] ≤ am_mx c then (am_call d c [.ref a, v1, v2] (L, T, S, u, v, r)).bind (fun w => am_run (d + 1) m rest loc (w.1.toList ++ stk) w.2) else none) := by
  rw [am_run_eq]
  simp only [am_F, am_act, if_pos hc, am_cl]
  by_cases h : S a = (z.toNat, 0) <;> by_cases h2 : am_cs stk ≤ 8 <;> by_cases h3 : am_cs [.ref a, v1, v2] ≤ am_mx c <;> simp [am_call, h, h2, h3]
theorem rn_ci3 {k c a : Nat} {v1 v2 : Value} (hc : c < 900) : am_run (d + 1) m ((.invokespecial k, c, 3, z) :: rest) loc (v2 :: v1 :: .ref a :: stk) (L, T, S, u, v, r) = (if S a = (z.toNat, 0) ∧ am_cs stk ≤ 8 ∧ am_cs [.ref a, v1, v2] ≤ am_mx c then (am_call d c [.ref a, v1, v2] (L, T, S, u, v, r)).bind (fun w => am_run (d + 1) m rest loc (w.1.toList ++ stk) w.2) else none) := by
  rw [am_run_eq]
  simp only [am_F, am_act, if_pos hc, am_cl]
  by_cases h : S a = (z.toNat, 0) <;> by_cases h2 : am_cs stk ≤ 8 <;> by_cases h3 : am_cs [.ref a, v1, v2] ≤ am_mx c <;> simp [am_call, h, h2, h3]
theorem rn_cv4 {k c a : Nat} {v1 v2 v3 : Value} (hc : c < 900) : am_run (d + 1) m ((.invokevirtual k, c, 4, z) :: rest) loc (v3 :: v2 :: v1 :: .ref a :: stk) (L, T, S, u, v, r) = (if S a = (z.toNat, 0) ∧ am_cs stk ≤ 8 ∧ am_cs [.ref a, v1, v2, v3] ≤ am_mx c then (am_call d c [.ref a, v1, v2, v3] (L, T, S, u, v, r)).bind (fun w => am_run (d + 1) m rest loc (w.1.toList ++ stk) w.2) else none) := by
  rw [am_run_eq]
  simp only [am_F, am_act, if_pos hc, am_cl]
  by_cases h : S a = (z.toNat, 0) <;> by_cases h2 : am_cs stk ≤ 8 <;> by_cases h3 : am_cs [.ref a, v1, v2, v3] ≤ am_mx c <;> simp [am_call, h, h2, h3]
theorem rn_cv5 {k c a : Nat} {v1 v2 v3 v4 : Value} (hc : c < 900) : am_run (d + 1) m ((.invokevirtual k, c, 5, z) :: rest) loc (v4 :: v3 :: v2 :: v1 :: .ref a :: stk) (L, T, S, u, v, r) = (if S a = (z.toNat, 0) ∧ am_cs stk ≤ 8 ∧ am_cs [.ref a, v1, v2, v3, v4] ≤ am_mx c then (am_call d c [.ref a, v1, v2, v3, v4] (L, T, S, u, v, r)).bind (fun w => am_run (d + 1) m rest loc (w.1.toList ++ stk) w.2) else none) := by
  rw [am_run_eq]
  simp only [am_F, am_act, if_pos hc, am_cl]
  by_cases h : S a = (z.toNat, 0) <;> by_cases h2 : am_cs stk ≤ 8 <;> by_cases h3 : am_cs [.ref a, v1, v2, v3, v4] ≤ am_mx c <;> simp [am_call, h, h2, h3]
theorem rn_cv6 {k c a : Nat} {v1 v2 v3 v4 v5 : Value} (hc : c < 900) : am_run (d + 1) m ((.invokevirtual k, c, 6, z) :: rest) loc (v5 :: v4 :: v3 :: v2 :: v1 :: .ref a :: stk) (L, T, S, u, v, r) = (if S a = (z.toNat, 0) ∧ am_cs stk ≤ 8 ∧ am_cs [.ref a, v1, v2, v3, v4, v5] ≤ am_mx c then (am_call d c [.ref a, v1, v2, v3, v4, v5] (L, T, S, u, v, r)).bind (fun w => am_run (d + 1) m rest loc (w.1.toList ++ stk) w.2) else none) := by
  rw [am_run_eq]
  simp only [am_F, am_act, if_pos hc, am_cl]
  by_cases h : S a = (z.toNat, 0) <;> by_cases h2 : am_cs stk ≤ 8 <;> by_cases h3 : am_cs [.ref a, v1, v2, v3, v4, v5] ≤ am_mx c <;> simp [am_call, h, h2, h3]
theorem rn_cv7 {k c a : Nat} {v1 v2 v3 v4 v5 v6 : Value} (hc : c < 900) : am_run (d + 1) m ((.invokevirtual k, c, 7, z) :: rest) loc (v6 :: v5 :: v4 :: v3 :: v2 :: v1 :: .ref a :: stk) (L, T, S, u, v, r) = (if S a = (z.toNat, 0) ∧ am_cs stk ≤ 8 ∧ am_cs [.ref a, v1, v2, v3, v4, v5, v6] ≤ am_mx c then (am_call d c [.ref a, v1, v2, v3, v4, v5, v6] (L, T, S, u, v, r)).bind (fun w => am_run (d + 1) m rest loc (w.1.toList ++ stk) w.2) else none) := by
  rw [am_run_eq]
  simp only [am_F, am_act, if_pos hc, am_cl]
  by_cases h : S a = (z.toNat, 0) <;> by_cases h2 : am_cs stk ≤ 8 <;> by_cases h3 : am_cs [.ref a, v1, v2, v3, v4, v5, v6] ≤ am_mx c <;> simp [am_call, h, h2, h3]
theorem cs_n : am_cs [] = 0 := rfl
theorem cs_i {w : Int32} : am_cs (.int w :: stk) = 1 + am_cs stk := rfl
theorem cs_a {w : Nat} : am_cs (.ref w :: stk) = 1 + am_cs stk := rfl
theorem cs_l {w : Int64} : am_cs (.long w :: stk) = 2 + am_cs stk := rfl
theorem rc_i {w : Int32} : am_c1 (some (.int w)) = some (.int w) := rfl
theorem rc_a {w : Nat} : am_c1 (some (.ref w)) = some (.ref w) := rfl
theorem rc_l {w : Int64} : am_c1 (some (.long w)) = none := rfl
theorem rc_n : am_c1 none = none := rfl
end RN
