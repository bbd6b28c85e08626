/-! the abstract machine over whole numbers -/
theorem iL_add {a b : Int} : iL a + iL b = iL (a + b) := (Int64.ofInt_add a b).symm
theorem iL_sub {a b : Int} : iL a - iL b = iL (a - b) := (Int64.ofInt_sub a b).symm
theorem iL_mul {a b : Int} : iL a * iL b = iL (a * b) := (Int64.ofInt_mul a b).symm
theorem iL_neg {a : Int} : - iL a = iL (- a) := (Int64.ofInt_neg a).symm
theorem iL_toInt {a : Int} (h1 : -9223372036854775808 ≤ a) (h2 : a ≤ 9223372036854775807) : (iL a).toInt = a := by
  unfold iL
  rw [Int64.toInt_ofInt, Int.bmod_eq_of_le] <;> simp [Int64.size] <;> omega
theorem iL_lt {a b : Int} (h1 : -9223372036854775808 ≤ a) (h2 : a ≤ 9223372036854775807) (h3 : -9223372036854775808 ≤ b) (h4 : b ≤ 9223372036854775807) : (iL a < iL b) = (a < b) := by
  rw [Int64.lt_iff_toInt_lt, iL_toInt h1 h2, iL_toInt h3 h4]
theorem iL_eq {a b : Int} (h1 : -9223372036854775808 ≤ a) (h2 : a ≤ 9223372036854775807) (h3 : -9223372036854775808 ≤ b) (h4 : b ≤ 9223372036854775807) : (iL a = iL b) = (a = b) := by
  rw [← Int64.toInt_inj, iL_toInt h1 h2, iL_toInt h3 h4]
theorem iL_0 : (0 : Int64) = iL 0 := rfl
theorem iL_eq0 {a : Int} (h1 : -9223372036854775808 ≤ a) (h2 : a ≤ 9223372036854775807) : (iL a = 0) = (a = 0) := by rw [iL_0, iL_eq h1 h2 (by decide) (by decide)]
theorem iL_div {a b : Int} (h1 : -9223372036854775808 ≤ a) (h2 : a ≤ 9223372036854775807) (h3 : -9223372036854775808 ≤ b) (h4 : b ≤ 9223372036854775807) : iL a / iL b = iL (a.tdiv b) := by
  unfold iL
  rw [Int64.ofInt_tdiv] <;> first | exact h1 | exact h2 | exact h3 | exact h4
theorem iL_rem {a b : Int} (h1 : -9223372036854775808 ≤ a) (h2 : a ≤ 9223372036854775807) (h3 : -9223372036854775808 ≤ b) (h4 : b ≤ 9223372036854775807) : am_lrem (iL a) (iL b) = iL (a.tmod b) := by
  unfold am_lrem
  rw [iL_div h1 h2 h3 h4, iL_mul, iL_sub, Int.tmod_def, Int.mul_comm]
theorem iI_i2l {a : Int} (h1 : -2147483648 ≤ a) (h2 : a ≤ 2147483647) : (iI a).toInt64 = iL a := by
  rw [← Int64.toInt_inj, Int32.toInt_toInt64, iI_toInt h1 h2, iL_toInt (by omega) (by omega)]
theorem iL_l2i {a : Int} : (iL a).toInt32 = iI a := by
  unfold iL iI
  rw [← Int32.toInt_inj, Int64.toInt_toInt32, Int64.toInt_ofInt, Int32.toInt_ofInt]
  simp [Int32.size, Int64.size]
  exact Int.bmod_bmod_of_dvd (by decide)
def icmp (a b : Int) : Int := if b < a then 1 else if a = b then 0 else -1
theorem iL_cmp {a b : Int} (h1 : -9223372036854775808 ≤ a) (h2 : a ≤ 9223372036854775807) (h3 : -9223372036854775808 ≤ b) (h4 : b ≤ 9223372036854775807) : lg_cmp (iL a) (iL b) = iI (icmp a b) := by
  unfold lg_cmp icmp
  have e1 := iL_lt h3 h4 h1 h2
  have e2 := iL_eq h1 h2 h3 h4
  by_cases g1 : b < a
  · have g : iL a > iL b := by show iL b < iL a; rw [e1]; exact g1
    rw [if_pos g, if_pos g1]; rfl
  · have g : ¬ iL a > iL b := by show ¬ iL b < iL a; rw [e1]; exact g1
    rw [if_neg g, if_neg g1]
    by_cases g2 : a = b
    · rw [if_pos (by rw [g2]), if_pos g2]; rfl
    · rw [if_neg (by rw [e2]; exact g2), if_neg g2]; rfl
theorem am_wl_ix {w : Nat → Int → Int} {a : Nat} {e : Int} (h1 : 0 ≤ e) (h2 : e ≤ 2147483647) : am_wl w a (iI e).toNatClampNeg = iL (w a e) := by
  rw [iI_nat h1 h2]; unfold am_wl; rw [Int.toNat_of_nonneg h1]
theorem am_wl_upk {w : Nat → Int → Int} {a k : Nat} {z : Int} : am_up (am_wl w) a k (iL z) = am_wl (upI w a (k : Int) z) := by
  funext a' k'
  unfold am_up am_wl upI
  by_cases h : a' = a ∧ k' = k
  · rw [if_pos h, if_pos ⟨h.1, by rw [h.2]⟩]
  · rw [if_neg h, if_neg (fun q => h ⟨q.1, by omega⟩)]
theorem am_wl_up {w : Nat → Int → Int} {a : Nat} {e z : Int} (h1 : 0 ≤ e) (h2 : e ≤ 2147483647) : am_up (am_wl w) a (iI e).toNatClampNeg (iL z) = am_wl (upI w a e z) := by
  rw [iI_nat h1 h2, am_wl_upk, Int.toNat_of_nonneg h1]
section RW
variable {d m x y a k : Nat} {z : Int} {rest : List am_op} {loc : am_L} {stk : List Value} {L T : Nat} {S : Nat → Nat × Nat} {w wl : Nat → Int → Int} {u : Nat → Nat → Int32} {v : Nat → Nat → Int64} {r : Nat → Nat → Option Nat} {e q : Int}
theorem rw_iald (h1 : 0 ≤ e) (h2 : e ≤ 2147483647) : am_run d m ((.iaload, x, y, z) :: rest) loc (.int (iI e) :: .ref a :: stk) (L, T, S, am_w w, v, r) = (if am_in (S a) 0 (iI e) ∨ am_in (S a) 5 (iI e) then am_run d m rest loc (.int (iI (w a e)) :: stk) (L, T, S, am_w w, v, r) else none) := by rw [rn_iald, am_w_ix h1 h2]
theorem rw_bald (h1 : 0 ≤ e) (h2 : e ≤ 2147483647) : am_run d m ((.baload, x, y, z) :: rest) loc (.int (iI e) :: .ref a :: stk) (L, T, S, am_w w, v, r) = (if am_in (S a) 2 (iI e) then am_run d m rest loc (.int (iI (w a e)) :: stk) (L, T, S, am_w w, v, r) else none) := by rw [rn_bald, am_w_ix h1 h2]
theorem rw_lald (h1 : 0 ≤ e) (h2 : e ≤ 2147483647) : am_run d m ((.laload, x, y, z) :: rest) loc (.int (iI e) :: .ref a :: stk) (L, T, S, u, am_wl wl, r) = (if am_in (S a) 1 (iI e) then am_run d m rest loc (.long (iL (wl a e)) :: stk) (L, T, S, u, am_wl wl, r) else none) := by rw [rn_lald, am_wl_ix h1 h2]
theorem rw_iast (h1 : 0 ≤ e) (h2 : e ≤ 2147483647) : am_run d m ((.iastore, x, y, z) :: rest) loc (.int (iI q) :: .int (iI e) :: .ref a :: stk) (L, T, S, am_w w, v, r) = (if am_in (S a) 0 (iI e) then am_run d m rest loc stk (L, T, S, am_w (upI w a e q), v, r) else none) := by rw [rn_iast, am_w_up h1 h2]
theorem rw_bast (h1 : 0 ≤ e) (h2 : e ≤ 2147483647) : am_run d m ((.bastore, x, y, z) :: rest) loc (.int (iI q) :: .int (iI e) :: .ref a :: stk) (L, T, S, am_w w, v, r) = (if am_in (S a) 2 (iI e) ∧ (iI q = 0 ∨ iI q = 1) then am_run d m rest loc stk (L, T, S, am_w (upI w a e q), v, r) else none) := by rw [rn_bast, am_w_up h1 h2]
theorem rw_last (h1 : 0 ≤ e) (h2 : e ≤ 2147483647) : am_run d m ((.lastore, x, y, z) :: rest) loc (.long (iL q) :: .int (iI e) :: .ref a :: stk) (L, T, S, u, am_wl wl, r) = (if am_in (S a) 1 (iI e) then am_run d m rest loc stk (L, T, S, u, am_wl (upI wl a e q), r) else none) := by rw [rn_last, am_wl_up h1 h2]
theorem rw_geti : am_run d m ((.getfield k, x, y, 0) :: rest) loc (.ref a :: stk) (L, T, S, am_w w, v, r) = (if S a = (x, 0) then am_run d m rest loc (.int (iI (w a (y : Int))) :: stk) (L, T, S, am_w w, v, r) else none) := rn_geti
theorem rw_getl : am_run d m ((.getfield k, x, y, 1) :: rest) loc (.ref a :: stk) (L, T, S, u, am_wl wl, r) = (if S a = (x, 0) then am_run d m rest loc (.long (iL (wl a (y : Int))) :: stk) (L, T, S, u, am_wl wl, r) else none) := rn_getl
theorem rw_puti : am_run d m ((.putfield k, x, y, 0) :: rest) loc (.int (iI q) :: .ref a :: stk) (L, T, S, am_w w, v, r) = (if S a = (x, 0) then am_run d m rest loc stk (L, T, S, am_w (upI w a (y : Int) q), v, r) else none) := by rw [rn_puti, am_w_upk]
theorem rw_putz : am_run d m ((.putfield k, x, y, 2) :: rest) loc (.int (iI q) :: .ref a :: stk) (L, T, S, am_w w, v, r) = (if S a = (x, 0) ∧ (iI q = 0 ∨ iI q = 1) then am_run d m rest loc stk (L, T, S, am_w (upI w a (y : Int) q), v, r) else none) := by rw [rn_putz, am_w_upk]
theorem rw_putl : am_run d m ((.putfield k, x, y, 1) :: rest) loc (.long (iL q) :: .ref a :: stk) (L, T, S, u, am_wl wl, r) = (if S a = (x, 0) then am_run d m rest loc stk (L, T, S, u, am_wl (upI wl a (y : Int) q), r) else none) := by rw [rn_putl, am_wl_upk]
end RW
theorem loop_up {α : Type} (f : Nat → α) (n : Nat) (h : ∀ k, k < n → f k = f (k + 1)) : f 0 = f n := by
  induction n with
  | zero => rfl
  | succ n ih => exact (ih (fun k hk => h k (by omega))).trans (h n (by omega))
theorem nc_0 : ((0 : Nat) : Int) = 0 := rfl
theorem nc_1 : ((1 : Nat) : Int) = 1 := rfl
theorem nc_2 : ((2 : Nat) : Int) = 2 := rfl
theorem nc_3 : ((3 : Nat) : Int) = 3 := rfl
theorem nc_4 : ((4 : Nat) : Int) = 4 := rfl
theorem nc_5 : ((5 : Nat) : Int) = 5 := rfl
theorem nc_6 : ((6 : Nat) : Int) = 6 := rfl
theorem nc_7 : ((7 : Nat) : Int) = 7 := rfl
theorem nc_8 : ((8 : Nat) : Int) = 8 := rfl
theorem nc_9 : ((9 : Nat) : Int) = 9 := rfl
theorem nc_10 : ((10 : Nat) : Int) = 10 := rfl
theorem nc_11 : ((11 : Nat) : Int) = 11 := rfl
theorem nc_12 : ((12 : Nat) : Int) = 12 := rfl
theorem nc_13 : ((13 : Nat) : Int) = 13 := rfl
theorem nc_14 : ((14 : Nat) : Int) = 14 := rfl
theorem nc_15 : ((15 : Nat) : Int) = 15 := rfl
theorem nc_16 : ((16 : Nat) : Int) = 16 := rfl
theorem nc_17 : ((17 : Nat) : Int) = 17 := rfl
theorem nc_18 : ((18 : Nat) : Int) = 18 := rfl
theorem nc_19 : ((19 : Nat) : Int) = 19 := rfl
theorem nc_20 : ((20 : Nat) : Int) = 20 := rfl
theorem nc_21 : ((21 : Nat) : Int) = 21 := rfl
theorem nc_22 : ((22 : Nat) : Int) = 22 := rfl
theorem nc_23 : ((23 : Nat) : Int) = 23 := rfl
theorem nc_24 : ((24 : Nat) : Int) = 24 := rfl
theorem nc_25 : ((25 : Nat) : Int) = 25 := rfl
theorem nc_26 : ((26 : Nat) : Int) = 26 := rfl
theorem nc_27 : ((27 : Nat) : Int) = 27 := rfl
theorem nc_28 : ((28 : Nat) : Int) = 28 := rfl
theorem nc_29 : ((29 : Nat) : Int) = 29 := rfl
theorem nc_30 : ((30 : Nat) : Int) = 30 := rfl
theorem nc_31 : ((31 : Nat) : Int) = 31 := rfl
theorem nc_32 : ((32 : Nat) : Int) = 32 := rfl
theorem nc_33 : ((33 : Nat) : Int) = 33 := rfl
theorem nc_34 : ((34 : Nat) : Int) = 34 := rfl
theorem nc_35 : ((35 : Nat) : Int) = 35 := rfl
theorem nc_36 : ((36 : Nat) : Int) = 36 := rfl
theorem nc_40 : ((40 : Nat) : Int) = 40 := rfl
theorem nc_48 : ((48 : Nat) : Int) = 48 := rfl
theorem nc_100 : ((100 : Nat) : Int) = 100 := rfl
theorem nc_256 : ((256 : Nat) : Int) = 256 := rfl
theorem nc_300 : ((300 : Nat) : Int) = 300 := rfl
theorem nc_304 : ((304 : Nat) : Int) = 304 := rfl
