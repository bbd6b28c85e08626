/-! the language's sums, read from the tokens: a fault and its token, or the token behind and what it means -/
abbrev PO : Type := Int × Nat × (LEnv → Int) × (LEnv → Bool)
abbrev PR : Type := Nat → Nat → Int → (LEnv → Int) → (LEnv → Bool) → PO
def V0 : LEnv → Int := fun _ => 0
def B0 : LEnv → Bool := fun _ => false
def pF (c : Int) (i : Nat) : PO := (c, i, V0, B0)
def pV (j : Nat) (V : LEnv → Int) : PO := (0, j, V, B0)
def pB (j : Nat) (B : LEnv → Bool) : PO := (0, j, V0, B)
def pTake (p : Bts) (a : PO) (k : Int) : PO := if a.1 = 0 then (if tK p a.2.1 = k then (0, a.2.1 + 1, a.2.2) else pF 1 a.2.1) else a
def nmK (K : Int) : Int := if K = 7 then 0 else if K = 19 then 1 else if K = 20 then 2 else if K = 21 then 3 else if K = 22 then 4 else if K = 23 then 5 else if K = 2 then 6 else if K = 24 then 7 else -1
abbrev isNm (K : Int) : Prop := (19 ≤ K ∧ K ≤ 24) ∨ K = 7 ∨ K = 2
abbrev isCp (K : Int) : Prop := (31 ≤ K ∧ K ≤ 34) ∨ K = 36 ∨ K = 37
abbrev okN (z K : Int) : Prop := if z = 0 then ¬ (K = 2 ∨ K = 24) else ¬ K = 23
def pIf (p : Bts) (r : PR) (i : Nat) (op : Int) : PO :=
  if (pTake p (r 8 i op V0 B0) 13).1 = 0 then
    (if (pTake p (r 3 (pTake p (r 8 i op V0 B0) 13).2.1 op V0 B0) 14).1 = 0 then
      (if (pTake p (r 3 (pTake p (r 3 (pTake p (r 8 i op V0 B0) 13).2.1 op V0 B0) 14).2.1 op V0 B0) 15).1 = 0 then
        pV (pTake p (r 3 (pTake p (r 3 (pTake p (r 8 i op V0 B0) 13).2.1 op V0 B0) 14).2.1 op V0 B0) 15).2.1 (fun E => if (pTake p (r 8 i op V0 B0) 13).2.2.2 E = true then (pTake p (r 3 (pTake p (r 8 i op V0 B0) 13).2.1 op V0 B0) 14).2.2.1 E else (pTake p (r 3 (pTake p (r 3 (pTake p (r 8 i op V0 B0) 13).2.1 op V0 B0) 14).2.1 op V0 B0) 15).2.2.1 E)
      else pTake p (r 3 (pTake p (r 3 (pTake p (r 8 i op V0 B0) 13).2.1 op V0 B0) 14).2.1 op V0 B0) 15)
    else pTake p (r 3 (pTake p (r 8 i op V0 B0) 13).2.1 op V0 B0) 14)
  else pTake p (r 8 i op V0 B0) 13
def pOne (p : Bts) (z : Int) (r : PR) (i : Nat) (op : Int) : PO :=
  if tK p i = 38 then (if 9999 < (tN p i).1 then pF 2 i else pV (i + 1) (fun _ => (tN p i).1))
  else if isNm (tK p i) then (if okN z (tK p i) then pV (i + 1) (fun E => E.1 (nmK (tK p i))) else pF 5 i)
  else if ¬ (tK p i = 29 ∨ tK p i = 26 ∨ tK p i = 10 ∨ tK p i = 11 ∨ tK p i = 12) then pF 1 i
  else if 8 ≤ op then pF 3 i
  else if tK p i = 29 then pTake p (r 3 (i + 1) (op + 1) V0 B0) 30
  else if tK p i = 12 then pIf p r (i + 1) (op + 1)
  else if (r 0 (i + 1) (op + 1) V0 B0).1 = 0 then pV (r 0 (i + 1) (op + 1) V0 B0).2.1 (fun E => uno (if tK p i = 26 then 41 else tK p i) E ((r 0 (i + 1) (op + 1) V0 B0).2.2.1 E)) else r 0 (i + 1) (op + 1) V0 B0
/-- the first, then the loop behind it -/
def pThen (r : PR) (x y : Nat) (i : Nat) (op : Int) : PO := if (r x i op V0 B0).1 = 0 then r y (r x i op V0 B0).2.1 op (r x i op V0 B0).2.2.1 (r x i op V0 B0).2.2.2 else r x i op V0 B0
/-- the loop: signs of two numbers -/
def pTwo (p : Bts) (r : PR) (x y : Nat) (lo : Int) (i : Nat) (op : Int) (V : LEnv → Int) : PO :=
  if tK p i = lo ∨ tK p i = lo + 1 then (if (r x (i + 1) op V0 B0).1 = 0 then r y (r x (i + 1) op V0 B0).2.1 op (fun E => two (tK p i) (V E) ((r x (i + 1) op V0 B0).2.2.1 E)) B0 else r x (i + 1) op V0 B0) else pV i V
/-- the loop: and, or -/
def pJoin (p : Bts) (r : PR) (x y : Nat) (k : Int) (i : Nat) (op : Int) (B : LEnv → Bool) : PO :=
  if tK p i = k then (if (r x (i + 1) op V0 B0).1 = 0 then r y (r x (i + 1) op V0 B0).2.1 op V0 (fun E => if k = 17 then B E && (r x (i + 1) op V0 B0).2.2.2 E else B E || (r x (i + 1) op V0 B0).2.2.2 E) else r x (i + 1) op V0 B0) else pB i B
def pAsk (p : Bts) (r : PR) (i : Nat) (op : Int) : PO :=
  if tK p i = 18 then (if 8 ≤ op then pF 3 i else if (r 5 (i + 1) (op + 1) V0 B0).1 = 0 then pB (r 5 (i + 1) (op + 1) V0 B0).2.1 (fun E => !(r 5 (i + 1) (op + 1) V0 B0).2.2.2 E) else r 5 (i + 1) (op + 1) V0 B0)
  else if (r 3 i op V0 B0).1 = 0 then
    (if isCp (tK p (r 3 i op V0 B0).2.1) then
      (if (r 3 ((r 3 i op V0 B0).2.1 + 1) op V0 B0).1 = 0 then pB (r 3 ((r 3 i op V0 B0).2.1 + 1) op V0 B0).2.1 (fun E => cmpB (tK p (r 3 i op V0 B0).2.1) ((r 3 i op V0 B0).2.2.1 E) ((r 3 ((r 3 i op V0 B0).2.1 + 1) op V0 B0).2.2.1 E)) else r 3 ((r 3 i op V0 B0).2.1 + 1) op V0 B0)
    else pF 1 (r 3 i op V0 B0).2.1)
  else r 3 i op V0 B0
/-- 0 one, 1 product, 2 its loop, 3 sum, 4 its loop, 5 what is asked, 6 both, 7 its loop, 8 either, 9 its loop -/
def pSt (p : Bts) (z : Int) (r : PR) : PR := fun nt i op V B =>
  if nt = 0 then pOne p z r i op else if nt = 1 then pThen r 0 2 i op else if nt = 2 then pTwo p r 0 2 27 i op V
  else if nt = 3 then pThen r 1 4 i op else if nt = 4 then pTwo p r 1 4 25 i op V else if nt = 5 then pAsk p r i op
  else if nt = 6 then pThen r 5 7 i op else if nt = 7 then pJoin p r 5 7 17 i op B else if nt = 8 then pThen r 6 9 i op else pJoin p r 6 9 16 i op B
def pP (p : Bts) (z : Int) : Nat → PR
  | 0 => fun _ i _ _ _ => pF 9 i
  | f + 1 => pSt p z (pP p z f)
def rkN (nt : Nat) : Nat := if nt = 1 then 2 else if nt = 3 then 3 else if nt = 5 then 4 else if nt = 6 then 5 else if nt = 8 then 6 else 1
def dpN (nt : Nat) (op : Int) : Nat := 10 * (8 - op).toNat + (if nt = 0 then 4 else if nt ≤ 2 then 5 else if nt ≤ 4 then 6 else if nt = 5 then 7 else if nt ≤ 7 then 8 else 9)
/-- what the class's reading ends in -/
def CRes (z : Int) (p : Bts) (o : Nat) (i : Nat) (w w2 : Nat → Int → Int) (s : Int) (a : PO) (b : Bool) : Prop :=
  RdF w w2 a.1 (tst p a.2.1) ∧ Rd w w2 o s ∧ StcR w2 ∧ (a.1 = 0 → RdS w2 p a.2.1 o ∧ i < a.2.1 ∧ CSeg z (w2 (o + 1)) s (w2 o 1) (if b = true then fun E => bI (a.2.2.2 E = true) else a.2.2.1) ∧ w2 o 1 - s ≤ (a.2.1 : Int) - (i : Int))
/-- a call of the class reads as said -/
def CCall (p : Bts) (z : Int) (o : Nat) (m : Nat) (b : Bool) (D : Nat) (i : Nat) (op : Int) (a : PO) : Prop :=
  ∀ (d L T n : Nat) (v : Nat → Nat → Int64) (w : Nat → Int → Int), D ≤ d → RdS w p i o → w 352 4 = z → ∃ w2, am_call d m [.ref 352, .int (iI op)] (L, T, S0 n, am_w w, v, R0 o) = some (some (.int (iI (bI (a.1 = 0)))), (L, T, S0 n, am_w w2, v, R0 o)) ∧ CRes z p o i w w2 (w o 1) a b
