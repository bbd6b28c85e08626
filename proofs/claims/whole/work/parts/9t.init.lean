/-! what the constructors make: the rows as they end, and which of their places are set by now -/
def tbC (a : Nat) : Bool := decide (a = 2) || decide (a = 172) || decide (a = 341) || (decide (21 ≤ a) && decide (a < 171) && decide ((a - 21) % 5 = 0)) || (decide (191 ≤ a) && decide (a < 341) && decide ((a - 191) % 5 = 0))
def W0 (a : Nat) (k : Int) : Int :=
  if tbC a = true then (if k = 7 then 461 else 0)
  else if a = 1 ∨ a = 171 then (if k = 6 then -1 else 0)
  else if a = 12 ∨ a = 182 then (if k = 0 then 6 else 0)
  else if a = 14 ∨ a = 16 ∨ a = 184 ∨ a = 186 then (if k = 0 then 8 else 0)
  else if a = 18 ∨ a = 188 then (if 0 ≤ k ∧ k < 8 then k else 0)
  else if a = 352 then (if k = 2 then 39 else if k = 5 ∨ k = 6 then -1 else 0)
  else if a = 393 then (if k = 5 ∨ k = 6 then -1 else if k = 23 then 1 else 0)
  else if a = 394 ∨ a = 395 then (if k = 8 then 461 else if k = 2 then -1 else if 65 ≤ k ∧ k < 71 then -1 else if 135 ≤ k ∧ k < 143 then k - 135 else 0)
  else 0
abbrev Msk : Type := Nat → Int → Bool
def gN (G : Msk) (l : Nat) : Msk := fun a k => if a = l then false else G a k
def gU (G : Msk) (a : Nat) (k : Int) : Msk := fun a' k' => if a' = a ∧ k' = k then true else G a' k'
def wG (G : Msk) (z : Nat → Int → Int) : Nat → Int → Int := fun a k => if a < 407 then (if G a k = true then W0 a k else 0) else z a k
def rG (G : Msk) : Nat → Nat → Option Nat := fun a k => if G a (k : Int) = true then R0 353 a k else none
def SM (n l : Nat) : Nat → Nat × Nat := fun a => if a < l ∨ 407 ≤ a then S0 n a else (999, 0)
def wl0 : Nat → Int → Int := fun _ _ => 0
section IN
variable {d m L T n l a y x q : Nat} {G : Msk} {z w : Nat → Int → Int} {k t : Nat} {zz e v1 : Int} {loc : am_L} {stk : List Value} {rest : List am_op} {v : Nat → Nat → Int64} {u : Nat → Nat → Int32} {r : Nat → Nat → Option Nat}
theorem S0_lt (h : a < 407) : S0 n a = shl.getD a (999, 0) := by unfold S0; rw [if_pos h]
theorem SM_lt (h : a < l) (h2 : l ≤ 407) : SM n l a = shl.getD a (999, 0) := by unfold SM; rw [if_pos (Or.inl h), S0_lt (by omega)]
theorem SM_all : SM n 407 = S0 n := by
  funext a
  unfold SM
  by_cases h : a < 407
  · rw [if_pos (Or.inl h)]
  · rw [if_pos (Or.inr (by omega))]
theorem SM_sh {p : Nat × Nat} (h : l < 407) (h2 : shl.getD l (999, 0) = p) : am_sh (SM n l) l p = SM n (l + 1) := by
  funext a
  unfold am_sh
  by_cases c : a = l
  · rw [if_pos c, c, SM_lt (by omega) (by omega), h2]
  · rw [if_neg c]
    unfold SM
    by_cases g : a < l ∨ 407 ≤ a
    · rw [if_pos g, if_pos (by omega)]
    · rw [if_neg g, if_neg (by omega)]
theorem gN_o {i : Nat} {j : Int} (h : i ≠ l) : gN G l i j = G i j := if_neg h
theorem gN_s {j : Int} : gN G l l j = false := if_pos rfl
theorem gU_s {j : Int} : gU G a j a j = true := if_pos ⟨rfl, rfl⟩
theorem gU_1 {i : Nat} {j j2 : Int} (h : i ≠ a) : gU G a j i j2 = G i j2 := if_neg (fun g => h g.1)
theorem gU_2 {i : Nat} {j j2 : Int} (h : j2 ≠ j) : gU G a j i j2 = G i j2 := if_neg (fun g => h g.2)
theorem row_w (h : l < 407) : am_row (am_w (wG G z)) l (fun _ => 0) = am_w (wG (gN G l) z) := by
  funext a k
  show (if a = l then fun _ => (0 : Int32) else am_w (wG G z) a) k = iI (wG (gN G l) z a (k : Int))
  by_cases c : a = l
  · rw [if_pos c, c]
    unfold wG
    rw [if_pos h, gN_s, if_neg (by decide)]
    rfl
  · rw [if_neg c]
    show iI (wG G z a (k : Int)) = _
    unfold wG
    rw [gN_o c]
theorem row_l : am_row (am_wl wl0) l (fun _ => 0) = am_wl wl0 := by
  funext a k
  show (if a = l then fun _ => (0 : Int64) else am_wl wl0 a) k = iL 0
  by_cases c : a = l
  · rw [if_pos c]; rfl
  · rw [if_neg c]; rfl
theorem row_r : am_row (rG G) l (fun _ => none) = rG (gN G l) := by
  funext a k
  show (if a = l then fun _ => none else rG G a) k = _
  by_cases c : a = l
  · rw [if_pos c, c]
    unfold rG
    rw [gN_s, if_neg (by decide)]
  · rw [if_neg c]
    unfold rG
    rw [gN_o c]
theorem put_w {j : Int} (ha : a < 407) (hv : W0 a j = e) : upI (wG G z) a j e = wG (gU G a j) z := by
  funext i k
  by_cases c : i = a ∧ k = j
  · obtain ⟨rfl, rfl⟩ := c
    rw [upI_s]
    unfold wG
    rw [if_pos ha, gU_s, if_pos rfl, hv]
  · have e1 : upI (wG G z) a j e i k = wG G z i k := by unfold upI; rw [if_neg c]
    rw [e1]
    unfold wG gU
    rw [if_neg c]
theorem put_wr {j : Int} (hr : R0 353 a j.toNat = none) : rG (gU G a j) = rG G := by
  funext i k
  unfold rG
  by_cases c : i = a ∧ (k : Int) = j
  · obtain ⟨rfl, rfl⟩ := c
    rw [Int.toNat_natCast] at hr
    rw [hr, ite_self, ite_self]
  · unfold gU
    rw [if_neg c]
theorem put_r (hv : R0 353 a y = some q) : am_up (rG G) a y (some q) = rG (gU G a (y : Int)) := by
  funext i k
  show (if i = a ∧ k = y then some q else if G i (k : Int) = true then R0 353 i k else none) = (if gU G a (y : Int) i (k : Int) = true then R0 353 i k else none)
  by_cases c : i = a ∧ k = y
  · obtain ⟨rfl, rfl⟩ := c
    rw [if_pos ⟨rfl, rfl⟩, gU_s, if_pos rfl, hv]
  · rw [if_neg c]
    have e1 : gU G a (y : Int) i (k : Int) = G i (k : Int) := if_neg (fun g => c ⟨g.1, by have := g.2; omega⟩)
    rw [e1]
theorem put_rw {j : Int} (hw : W0 a j = 0) : wG (gU G a j) z = wG G z := by
  funext i k
  unfold wG gU
  by_cases c : i = a ∧ k = j
  · obtain ⟨rfl, rfl⟩ := c
    rw [hw, ite_self, ite_self]
  · rw [if_neg c]
/-- the memory while it is made -/
theorem gn_new (h1 : l < 407) (h2 : shl.getD l (999, 0) = (x, 0)) : am_run d m ((.new k, x, y, zz) :: rest) loc stk (l, T, SM n l, am_w (wG G z), am_wl wl0, rG G) = am_run d m rest loc (.ref l :: stk) (l + 1, T + y, SM n (l + 1), am_w (wG (gN G l) z), am_wl wl0, rG (gN G l)) := by
  rw [rn_new, if_pos (by omega), SM_sh h1 h2, row_w h1, row_l, row_r]
theorem gn_newa {ty : ArrayType} (h1 : l < 407) (e0 : 0 ≤ e) (e1 : e ≤ 100000) (h2 : shl.getD l (999, 0) = (x, e.toNat)) : am_run d m ((.newarray ty, x, y, zz) :: rest) loc (.int (iI e) :: stk) (l, T, SM n l, am_w (wG G z), am_wl wl0, rG G) = am_run d m rest loc (.ref l :: stk) (l + 1, T + e.toNat, SM n (l + 1), am_w (wG (gN G l) z), am_wl wl0, rG (gN G l)) := by
  have c : (iI e).toNatClampNeg = e.toNat := iI_nat e0 (by omega)
  rw [rn_newa, if_pos ⟨by rw [iI_lt0 (by omega) (by omega)]; omega, by rw [c]; omega, by omega⟩, c, SM_sh h1 h2, row_w h1, row_l, row_r]
theorem gn_anew (h1 : l < 407) (e0 : 0 ≤ e) (e1 : e ≤ 100000) (h2 : shl.getD l (999, 0) = (x, e.toNat)) : am_run d m ((.anewarray k, x, y, zz) :: rest) loc (.int (iI e) :: stk) (l, T, SM n l, am_w (wG G z), am_wl wl0, rG G) = am_run d m rest loc (.ref l :: stk) (l + 1, T + e.toNat, SM n (l + 1), am_w (wG (gN G l) z), am_wl wl0, rG (gN G l)) := by
  have c : (iI e).toNatClampNeg = e.toNat := iI_nat e0 (by omega)
  rw [rn_anew, if_pos ⟨by rw [iI_lt0 (by omega) (by omega)]; omega, by rw [c]; omega, by omega⟩, c, SM_sh h1 h2, row_w h1, row_l, row_r]
theorem gn_puti (ha : a < l) (hl : l ≤ 407) (hs : shl.getD a (999, 0) = (x, 0)) (hv : W0 a (y : Int) = e) (hr : R0 353 a y = none) : am_run d m ((.putfield k, x, y, 0) :: rest) loc (.int (iI e) :: .ref a :: stk) (l, T, SM n l, am_w (wG G z), am_wl wl0, rG G) = am_run d m rest loc stk (l, T, SM n l, am_w (wG (gU G a (y : Int)) z), am_wl wl0, rG (gU G a (y : Int))) := by
  rw [rw_puti, if_pos (by rw [SM_lt ha hl]; exact hs), put_w (by omega) hv, put_wr (by rw [Int.toNat_natCast]; exact hr)]
theorem gn_putz (ha : a < l) (hl : l ≤ 407) (hs : shl.getD a (999, 0) = (x, 0)) (h01 : e = 0 ∨ e = 1) (hv : W0 a (y : Int) = e) (hr : R0 353 a y = none) : am_run d m ((.putfield k, x, y, 2) :: rest) loc (.int (iI e) :: .ref a :: stk) (l, T, SM n l, am_w (wG G z), am_wl wl0, rG G) = am_run d m rest loc stk (l, T, SM n l, am_w (wG (gU G a (y : Int)) z), am_wl wl0, rG (gU G a (y : Int))) := by
  rw [rw_putz, if_pos ⟨by rw [SM_lt ha hl]; exact hs, by rcases h01 with rfl | rfl; exact Or.inl rfl; exact Or.inr rfl⟩, put_w (by omega) hv, put_wr (by rw [Int.toNat_natCast]; exact hr)]
theorem gn_puta (ha : a < l) (hl : l ≤ 407) (hs : shl.getD a (999, 0) = (x, 0)) (hv : R0 353 a y = some q) (hw : W0 a (y : Int) = 0) : am_run d m ((.putfield k, x, y, 3) :: rest) loc (.ref q :: .ref a :: stk) (l, T, SM n l, am_w (wG G z), am_wl wl0, rG G) = am_run d m rest loc stk (l, T, SM n l, am_w (wG (gU G a (y : Int)) z), am_wl wl0, rG (gU G a (y : Int))) := by
  rw [rn_puta, if_pos (by rw [SM_lt ha hl]; exact hs), put_r hv, put_rw hw]
theorem gn_rg (hg : G a (y : Int) = true) : rG G a y = R0 353 a y := if_pos hg
theorem gn_iast {j : Int} (ha : a < l) (hl : l ≤ 407) (hs : (shl.getD a (999, 0)).1 = 0) (j0 : 0 ≤ j) (j1 : j < ((shl.getD a (999, 0)).2 : Int)) (jm : (shl.getD a (999, 0)).2 ≤ 100000) (hv : W0 a j = e) (hr : R0 353 a j.toNat = none) : am_run d m ((.iastore, x, y, zz) :: rest) loc (.int (iI e) :: .int (iI j) :: .ref a :: stk) (l, T, SM n l, am_w (wG G z), am_wl wl0, rG G) = am_run d m rest loc stk (l, T, SM n l, am_w (wG (gU G a j) z), am_wl wl0, rG (gU G a j)) := by
  rw [rw_iast j0 (by omega), if_pos (by rw [SM_lt ha hl, show shl.getD a (999, 0) = (0, (shl.getD a (999, 0)).2) from Prod.ext hs rfl]; exact of_eq_true (am_in_ok j0 j1 (by omega))), put_w (by omega) hv, put_wr hr]
theorem gn_aast {j : Int} (ha : a < l) (hq : q < l) (hl : l ≤ 407) (hs : ((shl.getD a (999, 0)).1 = 3 ∧ shl.getD q (999, 0) = (18, 0)) ∨ ((shl.getD a (999, 0)).1 = 4 ∧ shl.getD q (999, 0) = (17, 0))) (j0 : 0 ≤ j) (j1 : j < ((shl.getD a (999, 0)).2 : Int)) (jm : (shl.getD a (999, 0)).2 ≤ 100000) (hv : R0 353 a j.toNat = some q) (hw : W0 a j = 0) : am_run d m ((.aastore, x, y, zz) :: rest) loc (.ref q :: .int (iI j) :: .ref a :: stk) (l, T, SM n l, am_w (wG G z), am_wl wl0, rG G) = am_run d m rest loc stk (l, T, SM n l, am_w (wG (gU G a j) z), am_wl wl0, rG (gU G a j)) := by
  have c : (iI j).toNatClampNeg = j.toNat := iI_nat j0 (by omega)
  have cj : ((j.toNat : Nat) : Int) = j := Int.toNat_of_nonneg j0
  have e1 := put_r (G := G) hv
  rw [cj] at e1
  rw [rn_aast, if_pos (by
    rw [SM_lt ha hl, SM_lt hq hl]
    rcases hs with ⟨h1, h2⟩ | ⟨h1, h2⟩
    · exact Or.inl ⟨by rw [show shl.getD a (999, 0) = (3, (shl.getD a (999, 0)).2) from Prod.ext h1 rfl]; exact of_eq_true (am_in_ok j0 j1 (by omega)), h2⟩
    · exact Or.inr ⟨by rw [show shl.getD a (999, 0) = (4, (shl.getD a (999, 0)).2) from Prod.ext h1 rfl]; exact of_eq_true (am_in_ok j0 j1 (by omega)), h2⟩), c, e1, put_rw hw]
end IN
