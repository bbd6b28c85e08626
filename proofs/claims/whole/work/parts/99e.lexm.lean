theorem iL_bv {a : Int} (h : 0 ≤ a) : (iL a).toBitVec = BitVec.ofNat 64 a.toNat := by
  unfold iL
  rw [Int64.toBitVec_ofInt]
  obtain ⟨k, rfl⟩ := Int.eq_ofNat_of_zero_le h
  rw [Int.toNat_natCast, BitVec.ofInt_natCast]
theorem iL_or {a b : Int} (ha : 0 ≤ a) (hb : 0 ≤ b) : iL a ||| iL b = iL (ior a b) := by
  apply Int64.toBitVec_inj.mp
  rw [Int64.toBitVec_or, iL_bv ha, iL_bv hb, iL_bv (by unfold ior; omega)]
  unfold ior
  rw [Int.toNat_natCast]
  apply BitVec.eq_of_toNat_eq
  simp [BitVec.toNat_or, Nat.or_mod_two_pow]
theorem ior_256 {a b : Int} (h0 : 0 ≤ a) (h1 : 0 ≤ b) (h2 : b < 256) : ior (256 * a) b = 256 * a + b := by
  unfold ior
  have := Nat.two_pow_add_eq_or_of_lt (i := 8) (b := b.toNat) (by omega) a.toNat
  rw [show (256 * a).toNat = 2 ^ 8 * a.toNat by omega, ← this]
  omega
theorem lm48 : (iI 48).toInt64 &&& 63 = 48 := by decide +kernel
theorem lm8 : (iI 8).toInt64 &&& 63 = 8 := by decide +kernel
theorem iL_shr48 {x : Int} (h0 : 0 ≤ x) (h1 : x ≤ 1152921504606846976) : am_lshr (iL x) (iI 48) = iL (x / 281474976710656) := by
  unfold am_lshr
  rw [lm48]
  refine Int64.toInt_inj.mp ?_
  rw [iL_toInt (by omega) (by omega), ← Int64.toInt_toBitVec, Int64.toBitVec_shiftRight]
  rw [show BitVec.smod (Int64.toBitVec 48) 64 = 48#64 from by decide +kernel, BitVec.sshiftRight_eq', BitVec.toInt_sshiftRight, Int64.toInt_toBitVec, iL_toInt (by omega) (by omega)]
  rw [show (48#64).toNat = 48 from rfl, Int.shiftRight_eq_div_pow]
  rfl
theorem iL_shl8 {x : Int} (h0 : 0 ≤ x) (h1 : x < 281474976710656) : am_lshl (iL x) (iI 8) = iL (256 * x) := by
  unfold am_lshl
  rw [lm8]
  refine Int64.toBitVec_inj.mp ?_
  rw [Int64.toBitVec_shiftLeft, show BitVec.smod (Int64.toBitVec 8) 64 = 8#64 from by decide +kernel, iL_bv h0, iL_bv (by omega)]
  refine BitVec.eq_of_toNat_eq ?_
  rw [BitVec.shiftLeft_eq', BitVec.toNat_shiftLeft, show (8#64).toNat = 8 from rfl, BitVec.toNat_ofNat, BitVec.toNat_ofNat, Nat.shiftLeft_eq]
  omega
/-- a word's letters in one number -/
def pkS (a b : Int) : Int := if 281474976710656 ≤ a then 1152921504606846976 else 256 * a + b
def pkP (f : Int → Int) (q : Int) : Nat → Int
  | 0 => 0
  | k + 1 => pkS (pkP f q k) (f (q + (k : Int)))
theorem pk_bd {f : Int → Int} {q : Int} : ∀ k : Nat, (∀ j : Nat, j < k → 1 ≤ f (q + (j : Int)) ∧ f (q + (j : Int)) ≤ 255) → 0 ≤ pkP f q k ∧ pkP f q k ≤ 1152921504606846976 ∧ (0 < k → 1 ≤ pkP f q k)
  | 0, _ => by show (0 : Int) ≤ 0 ∧ (0 : Int) ≤ 1152921504606846976 ∧ (0 < 0 → (1 : Int) ≤ 0); omega
  | k + 1, h => by
    have ih := pk_bd k (fun j hj => h j (by omega))
    have hk := h k (by omega)
    rw [pkP]
    unfold pkS
    split <;> omega
theorem pk_sm {f : Int → Int} {q : Int} : ∀ k : Nat, k ≤ 6 → (∀ j : Nat, j < k → 1 ≤ f (q + (j : Int)) ∧ f (q + (j : Int)) ≤ 255) → pkP f q k < ((256 ^ k : Nat) : Int)
  | 0, _, _ => by show (0 : Int) < ((256 ^ 0 : Nat) : Int); decide
  | k + 1, hk, h => by
    have ih := pk_sm k (by omega) (fun j hj => h j (by omega))
    have hj := h k (by omega)
    have b0 := pk_bd k (fun j hj => h j (by omega))
    have hp : (256 ^ k : Nat) ≤ 256 ^ 5 := Nat.pow_le_pow_right (by decide) (by omega)
    rw [pkP]
    unfold pkS
    have hp1 : ((256 ^ k : Nat) : Int) ≤ 1099511627776 := Int.ofNat_le.mpr hp
    rw [if_neg (by omega), Nat.pow_succ, Int.natCast_mul]
    have e : (((256 : Nat)) : Int) = 256 := rfl
    rw [e]
    omega
theorem pk_inj {f g : Int → Int} {q r : Int} : ∀ m : Nat, m ≤ 6 → ∀ k : Nat, (∀ j : Nat, j < k → 1 ≤ f (q + (j : Int)) ∧ f (q + (j : Int)) ≤ 255) → (∀ j : Nat, j < m → 1 ≤ g (r + (j : Int)) ∧ g (r + (j : Int)) ≤ 255) → pkP f q k = pkP g r m → k = m ∧ ∀ j : Nat, j < m → f (q + (j : Int)) = g (r + (j : Int))
  | 0, _, k, hf, hg, e => by
    have b := pk_bd k hf
    have e : pkP f q k = 0 := e
    exact ⟨by omega, fun j hj => absurd hj (by omega)⟩
  | m + 1, hm, k, hf, hg, e => by
    have hgm := hg m (by omega)
    have bs := pk_sm (f := g) (q := r) (m + 1) hm hg
    have bm := pk_sm (f := g) (q := r) m (by omega) (fun j hj => hg j (by omega))
    have bm0 := pk_bd (f := g) (q := r) m (fun j hj => hg j (by omega))
    have hp : (256 ^ (m + 1) : Nat) ≤ 256 ^ 6 := Nat.pow_le_pow_right (by decide) hm
    have hp2 : ((256 ^ (m + 1) : Nat) : Int) ≤ 281474976710656 := by have := Int.ofNat_le.mpr hp; exact this
    have hp3 : ((256 ^ m : Nat) : Int) ≤ 281474976710656 := Int.le_trans (Int.ofNat_le.mpr (Nat.pow_le_pow_right (by decide) (by omega : m ≤ m + 1))) hp2
    cases k with
    | zero =>
      have b := (pk_bd (f := g) (q := r) (m + 1) hg).2.2 (by omega)
      have e : (0 : Int) = pkP g r (m + 1) := e
      omega
    | succ k =>
      have hfk := hf k (by omega)
      have b0 := pk_bd (f := f) (q := q) k (fun j hj => hf j (by omega))
      have e1 : pkP f q (k + 1) = pkS (pkP f q k) (f (q + (k : Int))) := rfl
      have e2 : pkP g r (m + 1) = pkS (pkP g r m) (g (r + (m : Int))) := rfl
      unfold pkS at e1 e2
      rw [if_neg (by omega)] at e2
      by_cases c : 281474976710656 ≤ pkP f q k
      · rw [if_pos c] at e1; omega
      · rw [if_neg c] at e1
        obtain ⟨i1, i2⟩ := pk_inj m (by omega) k (fun j hj => hf j (by omega)) (fun j hj => hg j (by omega)) (by omega)
        refine ⟨by omega, fun j hj => ?_⟩
        by_cases g : j = m
        · subst i1; rw [g]; omega
        · exact i2 j (by omega)
/-- the words, packed -/
def cw (j : Nat) : Int := pkP (fun k => wdC j k.toNat) 0 (wdN j)
theorem wdM_iff {p : Bts} {q e : Int} {j : Nat} : ∀ k : Nat, wdM p q e j k = true ↔ ∀ i : Nat, i < k → q + (i : Int) < e ∧ p.2 (q + (i : Int)) = wdC j i
  | 0 => ⟨fun _ i h => absurd h (by omega), fun _ => rfl⟩
  | k + 1 => by
    rw [wdM, Bool.and_eq_true, Bool.and_eq_true, decide_eq_true_iff, decide_eq_true_iff, wdM_iff k]
    exact ⟨fun ⟨h1, h2, h3⟩ i hi => if g : i = k then by rw [g]; exact ⟨h2, h3⟩ else h1 i (by omega), fun h => ⟨fun i hi => h i (by omega), (h k (by omega)).1, (h k (by omega)).2⟩⟩
theorem wd_word {p : Bts} {q e : Int} {j : Nat} (hj : j < 25) (hq : q ≤ e) (hl : ∀ x, q ≤ x → x < e → isL (p.2 x) = true) : wdE p q e j = true ↔ pkP p.2 q (e - q).toNat = cw j := by
  obtain ⟨⟨c1, c2, c3, c4, c5⟩, c6⟩ := wd_c ⟨j, hj⟩
  dsimp only at c1 c2 c3 c4 c5 c6
  have hf : ∀ i : Nat, i < (e - q).toNat → 1 ≤ p.2 (q + (i : Int)) ∧ p.2 (q + (i : Int)) ≤ 255 := fun i hi => by
    have := hl (q + (i : Int)) (by omega) (by omega)
    unfold isL at this
    simp at this
    omega
  have hg : ∀ i : Nat, i < wdN j → 1 ≤ (fun k : Int => wdC j k.toNat) (0 + (i : Int)) ∧ (fun k : Int => wdC j k.toNat) (0 + (i : Int)) ≤ 255 := fun i hi => by
    obtain ⟨_, a2, a3⟩ := c6 ⟨i, by omega⟩ hi
    dsimp only at a2 a3 ⊢
    rw [Int.zero_add, Int.toNat_natCast]
    omega
  constructor
  · intro h
    unfold wdE at h
    rw [Bool.and_eq_true, decide_eq_true_iff, wdM_iff] at h
    obtain ⟨h1, h2⟩ := h
    have en : (e - q).toNat = wdN j := by omega
    rw [en]
    unfold cw
    have : ∀ k : Nat, k ≤ wdN j → pkP p.2 q k = pkP (fun k : Int => wdC j k.toNat) 0 k := by
      intro k
      induction k with
      | zero => intro _; rfl
      | succ k ih => intro hk; rw [pkP, pkP, ih (by omega), (h1 k (by omega)).2, Int.zero_add, Int.toNat_natCast]
    exact this _ (Nat.le_refl _)
  · intro h
    obtain ⟨i1, i2⟩ := pk_inj (wdN j) c4 (e - q).toNat hf hg h
    unfold wdE
    rw [Bool.and_eq_true, decide_eq_true_iff, wdM_iff]
    refine ⟨fun i hi => ⟨by omega, ?_⟩, by omega⟩
    rw [i2 i hi, Int.zero_add, Int.toNat_natCast]
theorem wdK_iff {p : Bts} {q e : Int} (hq : q ≤ e) (hl : ∀ x, q ≤ x → x < e → isL (p.2 x) = true) {j : Nat} (hj : j < 25) : wdK p q e 25 0 = (j : Int) ↔ pkP p.2 q (e - q).toNat = cw j := by
  have inj : ∀ a b : Fin 25, cw a.val = cw b.val → a = b := by decide +kernel
  have key : ∀ m k : Nat, k + m = 25 → k ≤ j → (wdK p q e m k = (j : Int) ↔ pkP p.2 q (e - q).toNat = cw j) := by
    intro m
    induction m with
    | zero => intro k h1 h2; omega
    | succ m ih =>
      intro k h1 h2
      rw [wdK]
      by_cases c : wdE p q e k = true
      · rw [if_pos c]
        have ck := (wd_word (by omega) hq hl).mp c
        constructor
        · intro h; rw [ck, show k = j by omega]
        · intro h
          have := inj ⟨k, by omega⟩ ⟨j, hj⟩ (ck.symm.trans h)
          have : k = j := by injection this
          omega
      · rw [if_neg c]
        by_cases g : k = j
        · subst g
          have n1 : ¬ pkP p.2 q (e - q).toNat = cw k := fun h => c ((wd_word hj hq hl).mpr h)
          constructor
          · intro h
            exfalso
            have : ∀ m k2 : Nat, k < k2 → wdK p q e m k2 ≠ (k : Int) := by
              intro m
              induction m with
              | zero => intro k2 _ h; have : (40 : Int) = (k : Int) := h; omega
              | succ m ih2 => intro k2 hk2; rw [wdK]; split; omega; exact ih2 (k2 + 1) (by omega)
            exact this m (k + 1) (by omega) h
          · intro h; exact absurd h n1
        · exact ih (k + 1) (by omega) (by omega)
  exact key 25 0 rfl (Nat.zero_le j)
