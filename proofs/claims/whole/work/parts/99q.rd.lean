/-- all that the class reads of a sum, by how much is left -/
def CAll (p : Bts) (z : Int) (o f : Nat) : Prop := ∀ (i : Nat) (op : Int), 0 ≤ op → op ≤ 8 → i ≤ 300 →
  (8 * (301 - i) + 1 ≤ f → CCall p z o 304 false (dpN 0 op) i op (pP p z f 0 i op V0 B0)) ∧
  (8 * (301 - i) + 2 ≤ f → CCall p z o 300 false (dpN 1 op) i op (pP p z f 1 i op V0 B0)) ∧
  (8 * (301 - i) + 1 ≤ f → ∀ V B, CL2 p z o i op V (pP p z f 2 i op V B)) ∧
  (8 * (301 - i) + 3 ≤ f → CCall p z o 281 false (dpN 3 op) i op (pP p z f 3 i op V0 B0)) ∧
  (8 * (301 - i) + 1 ≤ f → ∀ V B, CL4 p z o i op V (pP p z f 4 i op V B)) ∧
  (8 * (301 - i) + 4 ≤ f → CCall p z o 326 true (dpN 5 op) i op (pP p z f 5 i op V0 B0)) ∧
  (8 * (301 - i) + 5 ≤ f → CCall p z o 325 true (dpN 6 op) i op (pP p z f 6 i op V0 B0)) ∧
  (8 * (301 - i) + 1 ≤ f → ∀ V B, CL7 p z o i op B (pP p z f 7 i op V B)) ∧
  (8 * (301 - i) + 6 ≤ f → CCall p z o 321 true (dpN 8 op) i op (pP p z f 8 i op V0 B0)) ∧
  (8 * (301 - i) + 1 ≤ f → ∀ V B, CL9 p z o i op B (pP p z f 9 i op V B))
section RD7
variable {p : Bts} {z op : Int} {o j : Nat} {V : LEnv → Int} {B : LEnv → Bool} {a : PO}
theorem CL2.far (h : 300 < j) : CL2 p z o j op V a := fun d L T n v w0 w s i cnt jj hd HS hz c0 c1 => by
  have : j ≤ 300 := (HS.2.2.2 rfl).1.2.2.2.2
  omega
theorem CL4.far (h : 300 < j) : CL4 p z o j op V a := fun d L T n v w0 w s i cnt jj hd HS hz c0 c1 => by
  have : j ≤ 300 := (HS.2.2.2 rfl).1.2.2.2.2
  omega
theorem CL7.far (h : 300 < j) : CL7 p z o j op B a := fun d L T n v w0 w s i cnt hd HS hz c0 c1 => by
  have : j ≤ 300 := (HS.2.2.2 rfl).1.2.2.2.2
  omega
theorem CL9.far (h : 300 < j) : CL9 p z o j op B a := fun d L T n v w0 w s i cnt hd HS hz c0 c1 => by
  have : j ≤ 300 := (HS.2.2.2 rfl).1.2.2.2.2
  omega
theorem c_all (O : TpOk p) (ha : ScrC o) (hz1 : z = 0 ∨ z = 1) : ∀ f, CAll p z o f
  | 0 => fun i op h0 h8 hi => ⟨fun h => by omega, fun h => by omega, fun h => by omega, fun h => by omega, fun h => by omega, fun h => by omega, fun h => by omega, fun h => by omega, fun h => by omega, fun h => by omega⟩
  | f + 1 => by
    have ih := c_all O ha hz1 f
    intro i op h0 h8 hi
    refine ⟨fun h => ?_, fun h => ?_, fun h V B => ?_, fun h => ?_, fun h V B => ?_, fun h => ?_, fun h => ?_, fun h V B => ?_, fun h => ?_, fun h V B => ?_⟩
    · exact cc_one (R := pP p z f) O ha hz1 h0 h8 (fun g1 g2 => (ih (i + 1) (op + 1) (by omega) (by omega) (by omega)).1 (by omega)) (fun g1 g2 => (ih (i + 1) (op + 1) (by omega) (by omega) (by omega)).2.2.2.1 (by omega)) (fun g1 g2 => cc_choice (R := pP p z f) O ha (by omega) (by omega) ((ih (i + 1) (op + 1) (by omega) (by omega) (by omega)).2.2.2.2.2.2.2.2.1 (by omega)) (fun j g3 g4 => (ih j (op + 1) (by omega) (by omega) g4).2.2.2.1 (by omega)))
    · exact cc_readProduct (R := pP p z f) O ha h0 h8 ((ih i op h0 h8 hi).1 (by omega)) (fun j2 W g => if g2 : j2 ≤ 300 then (ih j2 op h0 h8 g2).2.2.1 (by omega) W _ else CL2.far (by omega))
    · exact cl_2 (R := pP p z f) O ha h0 h8 (fun g => (ih (i + 1) op h0 h8 (by omega)).1 (by omega)) (fun j2 W g => if g2 : j2 ≤ 300 then (ih j2 op h0 h8 g2).2.2.1 (by omega) W _ else CL2.far (by omega))
    · exact cc_readSum (R := pP p z f) O ha h0 h8 ((ih i op h0 h8 hi).2.1 (by omega)) (fun j2 W g => if g2 : j2 ≤ 300 then (ih j2 op h0 h8 g2).2.2.2.2.1 (by omega) W _ else CL4.far (by omega))
    · exact cl_4 (R := pP p z f) O ha h0 h8 (fun g => (ih (i + 1) op h0 h8 (by omega)).2.1 (by omega)) (fun j2 W g => if g2 : j2 ≤ 300 then (ih j2 op h0 h8 g2).2.2.2.2.1 (by omega) W _ else CL4.far (by omega))
    · exact cc_readAsk (R := pP p z f) O ha h0 h8 (fun g1 g2 => (ih (i + 1) (op + 1) (by omega) (by omega) (by omega)).2.2.2.2.2.1 (by omega)) (fun j g3 g4 => (ih j op h0 h8 g4).2.2.2.1 (by omega))
    · exact cc_readBoth (R := pP p z f) O ha h0 h8 ((ih i op h0 h8 hi).2.2.2.2.2.1 (by omega)) (fun j2 W g => if g2 : j2 ≤ 300 then (ih j2 op h0 h8 g2).2.2.2.2.2.2.2.1 (by omega) _ W else CL7.far (by omega))
    · exact cl_7 (R := pP p z f) O ha h0 h8 (fun g => (ih (i + 1) op h0 h8 (by omega)).2.2.2.2.2.1 (by omega)) (fun j2 W g => if g2 : j2 ≤ 300 then (ih j2 op h0 h8 g2).2.2.2.2.2.2.2.1 (by omega) _ W else CL7.far (by omega))
    · exact cc_readEither (R := pP p z f) O ha h0 h8 ((ih i op h0 h8 hi).2.2.2.2.2.2.1 (by omega)) (fun j2 W g => if g2 : j2 ≤ 300 then (ih j2 op h0 h8 g2).2.2.2.2.2.2.2.2.2 (by omega) _ W else CL9.far (by omega))
    · exact cl_9 (R := pP p z f) O ha h0 h8 (fun g => (ih (i + 1) op h0 h8 (by omega)).2.2.2.2.2.2.1 (by omega)) (fun j2 W g => if g2 : j2 ≤ 300 then (ih j2 op h0 h8 g2).2.2.2.2.2.2.2.2.2 (by omega) _ W else CL9.far (by omega))
/-- a sum, as a text's law wants it -/
theorem c_sum (O : TpOk p) (ha : ScrC o) (hz1 : z = 0 ∨ z = 1) {i : Nat} (hi : i ≤ 300) : CCall p z o 281 false (dpN 3 0) i 0 (pP p z 3000 3 i 0 V0 B0) := (c_all O ha hz1 3000 i 0 (by decide) (by decide) hi).2.2.2.1 (by omega)
end RD7
