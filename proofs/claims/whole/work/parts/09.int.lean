theorem iI_add {a b : Int} : iI a + iI b = iI (a + b) := (Int32.ofInt_add a b).symm
theorem iI_sub {a b : Int} : iI a - iI b = iI (a - b) := (Int32.ofInt_sub a b).symm
theorem iI_mul {a b : Int} : iI a * iI b = iI (a * b) := (Int32.ofInt_mul a b).symm
theorem iI_neg {a : Int} : - iI a = iI (- a) := (Int32.ofInt_neg a).symm
theorem iI_toInt {a : Int} (h1 : -2147483648 ≤ a) (h2 : a ≤ 2147483647) : (iI a).toInt = a := by
  unfold iI
  rw [Int32.toInt_ofInt, Int.bmod_eq_of_le] <;> simp [Int32.size] <;> omega
theorem iI_of (x : Int32) : iI x.toInt = x := by unfold iI; simp
theorem iI_lt {a b : Int} (h1 : -2147483648 ≤ a) (h2 : a ≤ 2147483647) (h3 : -2147483648 ≤ b) (h4 : b ≤ 2147483647) : (iI a < iI b) = (a < b) := by
  rw [Int32.lt_iff_toInt_lt, iI_toInt h1 h2, iI_toInt h3 h4]
theorem iI_le {a b : Int} (h1 : -2147483648 ≤ a) (h2 : a ≤ 2147483647) (h3 : -2147483648 ≤ b) (h4 : b ≤ 2147483647) : (iI a ≤ iI b) = (a ≤ b) := by
  rw [Int32.le_iff_toInt_le, iI_toInt h1 h2, iI_toInt h3 h4]
theorem iI_eq {a b : Int} (h1 : -2147483648 ≤ a) (h2 : a ≤ 2147483647) (h3 : -2147483648 ≤ b) (h4 : b ≤ 2147483647) : (iI a = iI b) = (a = b) := by
  rw [← Int32.toInt_inj, iI_toInt h1 h2, iI_toInt h3 h4]
theorem iI_0 : (0 : Int32) = iI 0 := rfl
theorem iI_1 : (1 : Int32) = iI 1 := rfl
theorem iI_lt0 {a : Int} (h1 : -2147483648 ≤ a) (h2 : a ≤ 2147483647) : (iI a < 0) = (a < 0) := by rw [iI_0, iI_lt h1 h2 (by decide) (by decide)]
theorem iI_le0 {a : Int} (h1 : -2147483648 ≤ a) (h2 : a ≤ 2147483647) : (iI a ≤ 0) = (a ≤ 0) := by rw [iI_0, iI_le h1 h2 (by decide) (by decide)]
theorem iI_0lt {a : Int} (h1 : -2147483648 ≤ a) (h2 : a ≤ 2147483647) : (0 < iI a) = (0 < a) := by rw [iI_0, iI_lt (by decide) (by decide) h1 h2]
theorem iI_0le {a : Int} (h1 : -2147483648 ≤ a) (h2 : a ≤ 2147483647) : (0 ≤ iI a) = (0 ≤ a) := by rw [iI_0, iI_le (by decide) (by decide) h1 h2]
theorem iI_eq0 {a : Int} (h1 : -2147483648 ≤ a) (h2 : a ≤ 2147483647) : (iI a = 0) = (a = 0) := by rw [iI_0, iI_eq h1 h2 (by decide) (by decide)]
theorem iI_eq1 {a : Int} (h1 : -2147483648 ≤ a) (h2 : a ≤ 2147483647) : (iI a = 1) = (a = 1) := by rw [iI_1, iI_eq h1 h2 (by decide) (by decide)]
theorem iI_nat {a : Int} (h1 : 0 ≤ a) (h2 : a ≤ 2147483647) : (iI a).toNatClampNeg = a.toNat := by
  show (iI a).toInt.toNat = a.toNat
  rw [iI_toInt (by omega) h2]
theorem iI_div {a b : Int} (h1 : -2147483648 ≤ a) (h2 : a ≤ 2147483647) (h3 : -2147483648 ≤ b) (h4 : b ≤ 2147483647) : iI a / iI b = iI (a.tdiv b) := by
  unfold iI
  rw [Int32.ofInt_tdiv] <;> first | exact h1 | exact h2 | exact h3 | exact h4
theorem iI_rem {a b : Int} (h1 : -2147483648 ≤ a) (h2 : a ≤ 2147483647) (h3 : -2147483648 ≤ b) (h4 : b ≤ 2147483647) : am_rem (iI a) (iI b) = iI (a.tmod b) := by
  unfold am_rem
  rw [iI_div h1 h2 h3 h4, iI_mul, iI_sub, Int.tmod_def, Int.mul_comm]
theorem am_in_ok {t n : Nat} {e : Int} (h1 : 0 ≤ e) (h2 : e < (n : Int)) (h3 : (n : Int) ≤ 2147483647) : am_in (t, n) t (iI e) = True := by
  refine eq_true ⟨rfl, ?_, ?_⟩
  · rw [iI_lt0 (by omega) (by omega)]; omega
  · rw [iI_nat h1 (by omega)]; show e.toNat < n; omega
theorem am_in_no {t t' n : Nat} {e : Int} (h : t ≠ t') : am_in (t, n) t' (iI e) = False := eq_false (fun q => h q.1)
/-- ints of the memory as whole numbers -/
def am_w (w : Nat → Int → Int) : Nat → Nat → Int32 := fun a k => iI (w a (k : Int))
def am_wl (w : Nat → Int → Int) : Nat → Nat → Int64 := fun a k => iL (w a (k : Int))
def upI (w : Nat → Int → Int) (a : Nat) (e z : Int) : Nat → Int → Int := fun a' e' => if a' = a ∧ e' = e then z else w a' e'
theorem am_w_k {w : Nat → Int → Int} {a k : Nat} : am_w w a k = iI (w a (k : Int)) := rfl
theorem am_w_ix {w : Nat → Int → Int} {a : Nat} {e : Int} (h1 : 0 ≤ e) (h2 : e ≤ 2147483647) : am_w w a (iI e).toNatClampNeg = iI (w a e) := by
  rw [iI_nat h1 h2, am_w_k, Int.toNat_of_nonneg h1]
theorem am_w_upk {w : Nat → Int → Int} {a k : Nat} {z : Int} : am_up (am_w w) a k (iI z) = am_w (upI w a (k : Int) z) := by
  funext a' k'
  unfold am_up am_w upI
  by_cases h : a' = a ∧ k' = k
  · rw [if_pos h, if_pos ⟨h.1, by rw [h.2]⟩]
  · rw [if_neg h, if_neg (fun q => h ⟨q.1, by omega⟩)]
theorem am_w_up {w : Nat → Int → Int} {a : Nat} {e z : Int} (h1 : 0 ≤ e) (h2 : e ≤ 2147483647) : am_up (am_w w) a (iI e).toNatClampNeg (iI z) = am_w (upI w a e z) := by
  rw [iI_nat h1 h2, am_w_upk, Int.toNat_of_nonneg h1]
