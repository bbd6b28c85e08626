/-! ints moved from row to row -/
def cpI (w : Nat → Int → Int) (a0 a : Nat) (sp dp n : Int) : Nat → Int → Int := fun a' e => if a' = a ∧ dp ≤ e ∧ e < dp + n then w a0 (sp + (e - dp)) else w a' e
abbrev am_cp (q : Nat × Nat) (p n : Int) : Prop := q.1 = 0 ∧ p + n ≤ (q.2 : Int)
theorem am_cp_ok {N : Nat} {p n : Int} (h : p + n ≤ (N : Int)) : am_cp (0, N) p n = True := eq_true ⟨rfl, h⟩
theorem am_cp_w {w : Nat → Int → Int} {a0 a : Nat} {sp dp n : Int} (h1 : 0 ≤ sp) (h2 : 0 ≤ dp) (h3 : 0 ≤ n) : am_row (am_w w) a (va_cpy (am_w w a0) (am_w w a) sp.toNat dp.toNat n.toNat) = am_w (cpI w a0 a sp dp n) := by
  funext a' k
  unfold am_row am_w cpI va_cpy
  by_cases e : a' = a
  · subst e
    rw [if_pos rfl]
    dsimp only
    by_cases e2 : dp ≤ (k : Int) ∧ (k : Int) < dp + n
    · rw [if_pos (by omega), if_pos ⟨rfl, e2⟩]
      congr 2
      omega
    · rw [if_neg (by omega), if_neg (fun q => e2 q.2)]
  · rw [if_neg e, if_neg (fun q => e q.1)]
section CP
variable {d m y L T a a0 k : Nat} {z : Int} {S : Nat → Nat × Nat} {w : Nat → Int → Int} {v : Nat → Nat → Int64} {r : Nat → Nat → Option Nat} {loc : List (Option Value)} {stk : List Value} {rest : List am_op}
theorem rw_copy {sp dp n : Int} (h1 : 0 ≤ sp) (h2 : sp ≤ 1000000) (h3 : 0 ≤ dp) (h4 : dp ≤ 1000000) (h5 : 0 ≤ n) (h6 : n ≤ 1000000) : am_run d m ((.invokestatic k, 902, y, z) :: rest) loc (.int (iI n) :: .int (iI dp) :: .ref a :: .int (iI sp) :: .ref a0 :: stk) (L, T, S, am_w w, v, r) = (if (am_cp (S a) dp n ∧ am_cp (S a0) sp n) ∧ am_cs stk ≤ 8 then am_run d m rest loc stk (L, T, S, am_w (cpI w a0 a sp dp n), v, r) else none) := by
  rw [rn_copy, iI_nat h1 (by omega), iI_nat h3 (by omega), iI_nat h5 (by omega), am_cp_w h1 h3 h5]
  have e1 : ¬ iI sp < 0 := by rw [iI_lt0 (by omega) (by omega)]; omega
  have e2 : ¬ iI dp < 0 := by rw [iI_lt0 (by omega) (by omega)]; omega
  have e3 : ¬ iI n < 0 := by rw [iI_lt0 (by omega) (by omega)]; omega
  have e4 : (((S a).1 = 0 ∧ (S a0).1 = 0 ∧ ¬ iI sp < 0 ∧ ¬ iI dp < 0 ∧ ¬ iI n < 0 ∧ sp.toNat + n.toNat ≤ (S a0).2 ∧ dp.toNat + n.toNat ≤ (S a).2) ∧ am_cs stk ≤ 8) = ((am_cp (S a) dp n ∧ am_cp (S a0) sp n) ∧ am_cs stk ≤ 8) := by
    unfold am_cp
    refine propext ⟨fun ⟨⟨q1, q2, _, _, _, q3, q4⟩, q5⟩ => ⟨⟨⟨q1, by omega⟩, q2, by omega⟩, q5⟩, fun ⟨⟨⟨q1, q2⟩, q3, q4⟩, q5⟩ => ⟨⟨q1, q3, e1, e2, e3, by omega, by omega⟩, q5⟩⟩
  by_cases q : (am_cp (S a) dp n ∧ am_cp (S a0) sp n) ∧ am_cs stk ≤ 8
  · rw [if_pos q, if_pos (e4 ▸ q)]
  · rw [if_neg q, if_neg (e4 ▸ q)]
end CP
theorem cpI_n {w : Nat → Int → Int} {a0 a a' : Nat} {sp dp n e : Int} (h : a' ≠ a) : cpI w a0 a sp dp n a' e = w a' e := by unfold cpI; rw [if_neg (fun q => h q.1)]
theorem cpI_c {w : Nat → Int → Int} {a0 a a' : Nat} {sp dp n : Int} (h : a' ≠ a) : cpI w a0 a sp dp n a' = w a' := by funext e; exact cpI_n h
theorem cpI_s {w : Nat → Int → Int} {a0 a : Nat} {sp dp n e : Int} (h1 : dp ≤ e) (h2 : e < dp + n) : cpI w a0 a sp dp n a e = w a0 (sp + (e - dp)) := by unfold cpI; rw [if_pos ⟨rfl, h1, h2⟩]
theorem cpI_z {w : Nat → Int → Int} {a0 a : Nat} {n e : Int} (h1 : 0 ≤ e) (h2 : e < n) : cpI w a0 a 0 0 n a e = w a0 e := by rw [cpI_s h1 (by omega), Int.zero_add, Int.sub_zero]
