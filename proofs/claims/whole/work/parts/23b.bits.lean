/-! sets as bits -/
def ior (a b : Int) : Int := ((a.toNat ||| b.toNat : Nat) : Int)
def iand (a b : Int) : Int := ((a.toNat &&& b.toNat : Nat) : Int)
def pw (s : Int) : Int := ((2 ^ s.toNat : Nat) : Int)
theorem iI_bv {a : Int} (h : 0 ≤ a) : (iI a).toBitVec = BitVec.ofNat 32 a.toNat := by
  unfold iI
  rw [Int32.toBitVec_ofInt]
  obtain ⟨k, rfl⟩ := Int.eq_ofNat_of_zero_le h
  rw [Int.toNat_natCast, BitVec.ofInt_natCast]
theorem iI_or {a b : Int} (ha : 0 ≤ a) (hb : 0 ≤ b) : iI a ||| iI b = iI (ior a b) := by
  apply Int32.toBitVec_inj.mp
  rw [Int32.toBitVec_or, iI_bv ha, iI_bv hb, iI_bv (by unfold ior; omega)]
  unfold ior
  rw [Int.toNat_natCast]
  apply BitVec.eq_of_toNat_eq
  simp [BitVec.toNat_or, Nat.or_mod_two_pow]
theorem iI_and {a b : Int} (ha : 0 ≤ a) (hb : 0 ≤ b) : iI a &&& iI b = iI (iand a b) := by
  apply Int32.toBitVec_inj.mp
  rw [Int32.toBitVec_and, iI_bv ha, iI_bv hb, iI_bv (by unfold iand; omega)]
  unfold iand
  rw [Int.toNat_natCast]
  apply BitVec.eq_of_toNat_eq
  simp [BitVec.toNat_and, Nat.and_mod_two_pow]
theorem ior_0 {a b : Int} : 0 ≤ ior a b := by unfold ior; omega
theorem iand_0 {a b : Int} : 0 ≤ iand a b := by unfold iand; omega
theorem pw_0 {s : Int} : 1 ≤ pw s := by unfold pw; have := Nat.one_le_two_pow (n := s.toNat); omega
theorem ior_lt {a b : Int} {k : Nat} (ha : a < ((2 ^ k : Nat) : Int)) (hb : b < ((2 ^ k : Nat) : Int)) : ior a b < ((2 ^ k : Nat) : Int) := by
  have hp : 0 < 2 ^ k := Nat.two_pow_pos k
  have h1 : a.toNat < 2 ^ k := by omega
  have h2 : b.toNat < 2 ^ k := by omega
  have := Nat.or_lt_two_pow h1 h2
  unfold ior
  omega
theorem iand_le {a b : Int} (ha : 0 ≤ a) : iand a b ≤ a := by
  have := Nat.and_le_left (n := a.toNat) (m := b.toNat)
  unfold iand
  omega
theorem pw_lt {s : Int} {k : Nat} (h0 : 0 ≤ s) (h : s < (k : Int)) : pw s < ((2 ^ k : Nat) : Int) := by
  unfold pw
  have : 2 ^ s.toNat < 2 ^ k := Nat.pow_lt_pow_right (by decide) (by omega)
  omega
theorem iI_shl_c : ∀ s : Fin 31, am_shl (iI 1) (iI (s.val : Int)) = iI ((2 ^ s.val : Nat) : Int) := by decide +kernel
theorem iI_shl {s : Int} (h0 : 0 ≤ s) (h : s < 31) : am_shl (iI 1) (iI s) = iI (pw s) := by
  have := iI_shl_c ⟨s.toNat, by omega⟩
  dsimp only at this
  rw [Int.toNat_of_nonneg h0] at this
  exact this
/-- the set of those below k that have p -/
def ibit (p : Int → Bool) : Nat → Int
  | 0 => 0
  | k + 1 => if p k then ior (ibit p k) (pw k) else ibit p k
theorem ibit_bd (p : Int → Bool) : ∀ k : Nat, 0 ≤ ibit p k ∧ ibit p k < ((2 ^ k : Nat) : Int)
  | 0 => by simp [ibit]
  | k + 1 => by
    have h := ibit_bd p k
    have h2 : (2 ^ k : Nat) ≤ 2 ^ (k + 1) := Nat.pow_le_pow_right (by decide) (by omega)
    unfold ibit
    split
    · refine ⟨ior_0, ior_lt (by omega) (pw_lt (by omega) (by omega))⟩
    · exact ⟨h.1, by omega⟩
theorem ibit_congr {p q : Int → Bool} : ∀ k : Nat, (∀ j : Nat, j < k → p j = q j) → ibit p k = ibit q k
  | 0, _ => rfl
  | k + 1, h => by unfold ibit; rw [ibit_congr k (fun j hj => h j (by omega)), h k (by omega)]
theorem ior_bit {a b : Int} {j : Nat} : (ior a b).toNat.testBit j = (a.toNat.testBit j || b.toNat.testBit j) := by unfold ior; rw [Int.toNat_natCast, Nat.testBit_or]
theorem iand_bit {a b : Int} {j : Nat} : (iand a b).toNat.testBit j = (a.toNat.testBit j && b.toNat.testBit j) := by unfold iand; rw [Int.toNat_natCast, Nat.testBit_and]
theorem pw_bit {s : Int} {j : Nat} : (pw s).toNat.testBit j = decide (s.toNat = j) := by unfold pw; rw [Int.toNat_natCast, Nat.testBit_two_pow]
theorem ibit_bit (p : Int → Bool) (j : Nat) : ∀ k : Nat, (ibit p k).toNat.testBit j = (decide (j < k) && p j)
  | 0 => by simp [ibit]
  | k + 1 => by
    have ih := ibit_bit p j k
    unfold ibit
    by_cases hj : j = k
    · subst hj
      split
      · rename_i h; rw [ior_bit, pw_bit, ih]; simp [h]
      · rename_i h; rw [ih]; simp [h]
    · have e : decide (j < k + 1) = decide (j < k) := by rw [decide_eq_decide]; omega
      rw [e]
      split
      · rw [ior_bit, pw_bit, ih]; simp; intro h; omega
      · exact ih
theorem bit_ext {a b : Int} (ha : 0 ≤ a) (hb : 0 ≤ b) (h : ∀ j, a.toNat.testBit j = b.toNat.testBit j) : a = b := by
  have := Nat.eq_of_testBit_eq h
  omega
/-- (a & 2^j) = 2^j just when the bit is there; and 0 when not -/
theorem iand_pw {a s : Int} : iand a (pw s) = if a.toNat.testBit s.toNat then pw s else 0 := by
  refine bit_ext iand_0 (by split; exact Int.le_trans (by decide) pw_0; decide) (fun j => ?_)
  rw [iand_bit, pw_bit]
  by_cases hj : s.toNat = j
  · subst hj
    split
    · rename_i h; rw [h, pw_bit]; simp
    · rename_i h; simp at h; rw [h]; simp
  · split
    · rw [pw_bit]; simp [hj]
    · simp [hj]
