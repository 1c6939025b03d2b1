/-! sets of glasses, and what they cost: 1024 a glass, and the more the earlier it is -/
def cs : Nat → Nat → Nat
  | 0, _ => 0
  | k + 1, w => cs k w + if w.testBit k = true then 1024 + 2 ^ (9 - k) else 0
def cst (w : Nat) : Nat := cs 10 w
def rvk : Nat → Nat → Nat
  | 0, _ => 0
  | k + 1, w => w % 2 * 2 ^ k + rvk k (w / 2)
def lok : Nat → Nat → Nat
  | 0, _ => 0
  | k + 1, u => if u % 2 = 1 then 1 else 2 * lok k (u / 2)
theorem rvk_lt : ∀ (k w : Nat), rvk k w < 2 ^ k
  | 0, _ => by show (0 : Nat) < 1; decide
  | k + 1, w => by
    have h := rvk_lt k (w / 2)
    have h2 := Nat.mod_two_eq_zero_or_one w
    rw [rvk, Nat.pow_succ]
    rcases h2 with e | e <;> rw [e] <;> omega
theorem and_two {b c : Nat} : (b &&& 2 * c = 0) ↔ (b / 2 &&& c = 0) := by
  have h1 : (b &&& 2 * c) / 2 = b / 2 &&& c := by
    rw [Nat.and_div_two, Nat.mul_div_cancel_left c (by decide)]
  have h2 : (b &&& 2 * c) % 2 = 0 := by
    have := Nat.mod_two_eq_zero_or_one (b &&& 2 * c)
    rcases this with e | e
    · exact e
    · have := (Nat.and_mod_two_eq_one.mp e).2
      omega
  omega
theorem ahead_iff : ∀ (k a b : Nat), (b &&& lok k (a ^^^ b) = 0) ↔ ¬ rvk k a < rvk k b
  | 0, a, b => by simp [lok, rvk]
  | k + 1, a, b => by
    have ih := ahead_iff k (a / 2) (b / 2)
    have ha := rvk_lt k (a / 2)
    have hb := rvk_lt k (b / 2)
    have hx : (a ^^^ b) / 2 = a / 2 ^^^ b / 2 := Nat.xor_div_two
    have hm : (a ^^^ b) % 2 = 1 ↔ ¬ (a % 2 = 1 ↔ b % 2 = 1) := Nat.xor_mod_two_eq_one
    have a2 := Nat.mod_two_eq_zero_or_one a
    have b2 := Nat.mod_two_eq_zero_or_one b
    rw [lok, rvk, rvk]
    by_cases q : (a ^^^ b) % 2 = 1
    · rw [if_pos q, Nat.and_one_is_mod]
      have := hm.mp q
      rcases a2 with e | e <;> rcases b2 with e' | e' <;> rw [e, e'] <;> omega
    · rw [if_neg q, hx, and_two, ih]
      have : a % 2 = b % 2 := by
        have h3 : (a % 2 = 1 ↔ b % 2 = 1) := Classical.not_not.mp (fun h => q (hm.mpr h))
        omega
      rw [this]
      omega
theorem cst_lt : ∀ w, w < 1024 → cst w < 16384 := by decide +kernel
theorem cst_rv : ∀ w, w < 1024 → cst w % 1024 = rvk 10 w := by decide +kernel
theorem rv_rv : ∀ w, w < 1024 → rvk 10 (rvk 10 w) = w := by decide +kernel
theorem rv_bit : ∀ w, w < 1024 → ∀ g, g < 10 → (rvk 10 w).testBit g = w.testBit (9 - g) := by decide +kernel
theorem cst_inj {a b : Nat} (ha : a < 1024) (hb : b < 1024) (h : cst a = cst b) : a = b := by
  rw [← rv_rv a ha, ← rv_rv b hb, ← cst_rv a ha, ← cst_rv b hb, h]
theorem rv_lt (w : Nat) : rvk 10 w < 1024 := rvk_lt 10 w
def bcf (x : Int32) : Int32 := ((f_J6_bitCount_0f7a4 (0, fun _ => (0, 0), fun _ _ => false) x (fun _ _ => 0)).map Prod.fst).getD 0
theorem e_bc (κ : it_KK) (x : Int32) (S : it_SS) : f_J6_bitCount_0f7a4 κ x S = some (bcf x, S) := rfl
theorem bc_all : ∀ w, w < 1024 → bcf (nI w) = nI (cst w / 1024) := by decide +kernel
theorem lo_all : ∀ u, u < 1024 → nI u &&& -(nI u) = nI (lok 10 u) ∧ lok 10 u < 1024 := by decide +kernel
theorem nI_xor (a b : Nat) : nI a ^^^ nI b = nI (a ^^^ b) := by
  show Int32.ofBitVec (BitVec.ofNat 32 a) ^^^ Int32.ofBitVec (BitVec.ofNat 32 b) = Int32.ofBitVec (BitVec.ofNat 32 (a ^^^ b))
  rw [BitVec.ofNat_xor]
  rfl
theorem i_and_assoc (a b c : Int32) : (a &&& b) &&& c = a &&& (b &&& c) := Int32.toBitVec_inj.mp (BitVec.and_assoc _ _ _)
theorem e_isAhead {κ : it_KK} {S : it_SS} {a b : Nat} (ha : a < 1024) (hb : b < 1024) : f_X5_isAhead κ (nI a) (nI b) S = some (if cst a < cst b then 1 else 0, S) := by
  have ca := cst_lt a ha
  have cb := cst_lt b hb
  have ra := cst_rv a ha
  have rb := cst_rv b hb
  have hx : a ^^^ b < 1024 := Nat.xor_lt_two_pow (n := 10) ha hb
  have hl := lo_all (a ^^^ b) hx
  have hd : (nI (cst a / 1024) - nI (cst b / 1024)).toInt = ((cst a / 1024 : Nat) : Int) - ((cst b / 1024 : Nat) : Int) := pk_sub_toInt (by omega) (by omega)
  rw [f_X5_isAhead, e_bc, it_bi_some, e_bc, it_bi_some, bc_all a ha, bc_all b hb, nI_xor, i_and_assoc, hl.1, nI_and]
  have hz : (nI (cst a / 1024) - nI (cst b / 1024) = 0) ↔ cst a / 1024 = cst b / 1024 := by
    rw [← Int32.toInt_inj, hd, i_0]
    omega
  have hz2 : (0 ≤ nI (cst a / 1024) - nI (cst b / 1024)) ↔ cst b / 1024 ≤ cst a / 1024 := by
    rw [Int32.le_iff_toInt_le, hd, i_0]
    omega
  have hz3 : (nI (b &&& lok 10 (a ^^^ b)) = 0) ↔ ¬ rvk 10 a < rvk 10 b := by
    rw [← ahead_iff]
    have h1 : b &&& lok 10 (a ^^^ b) < 2 ^ 10 := Nat.and_lt_two_pow b hl.2
    exact nI_eq (b := 0) (by omega) (by decide)
  by_cases q1 : cst a / 1024 = cst b / 1024
  · rw [if_pos (hz.mpr q1)]
    by_cases q2 : rvk 10 a < rvk 10 b
    · rw [if_neg (fun h => hz3.mp h q2), if_pos (by omega)]
    · rw [if_pos (hz3.mpr q2), if_neg (by omega)]
  · rw [if_neg (fun h => q1 (hz.mp h))]
    by_cases q2 : cst b / 1024 ≤ cst a / 1024
    · rw [if_pos (hz2.mpr q2), if_neg (by omega)]
    · rw [if_neg (fun h => q2 (hz2.mp h)), if_pos (by omega)]
/-! sums over guests -/
def sZ : Nat → Nat → (Nat → Int) → Int
  | 0, _, _ => 0
  | k + 1, p, f => f p + sZ k (p + 1) f
theorem sZ_le {f g : Nat → Int} : ∀ (k p : Nat), (∀ i, p ≤ i → i < p + k → f i ≤ g i) → sZ k p f ≤ sZ k p g
  | 0, _, _ => Int.le_refl _
  | k + 1, p, h => by
    have h1 := h p (by omega) (by omega)
    have h2 := sZ_le (f := f) (g := g) k (p + 1) (fun i a b => h i (by omega) (by omega))
    rw [sZ, sZ]
    omega
theorem sZ_eq {f g : Nat → Int} (k p : Nat) (h : ∀ i, p ≤ i → i < p + k → f i = g i) : sZ k p f = sZ k p g := Int.le_antisymm (sZ_le k p (fun i a b => Int.le_of_eq (h i a b))) (sZ_le k p (fun i a b => Int.le_of_eq (h i a b).symm))
theorem sZ_lin {f g : Nat → Int} {c : Int} : ∀ (k p : Nat), sZ k p (fun i => c * f i + g i) = c * sZ k p f + sZ k p g
  | 0, _ => by simp [sZ]
  | k + 1, p => by
    have ih := sZ_lin (f := f) (g := g) (c := c) k (p + 1)
    rw [sZ, sZ, sZ, ih, Int.mul_add]
    omega
theorem sZ_one {f g : Nat → Int} {q : Nat} : ∀ (k p : Nat), p ≤ q → q < p + k → (∀ i, p ≤ i → i < p + k → i ≠ q → f i = g i) → sZ k p f - sZ k p g = f q - g q
  | 0, _, h1, h2, _ => by omega
  | k + 1, p, h1, h2, h => by
    rw [sZ, sZ]
    by_cases e : p = q
    · subst e
      have := sZ_eq (f := f) (g := g) k (p + 1) (fun i a b => h i (by omega) (by omega) (by omega))
      omega
    · have h3 := h p (by omega) (by omega) e
      have := sZ_one (f := f) (g := g) (q := q) k (p + 1) (by omega) (by omega) (fun i a b c => h i (by omega) (by omega) c)
      omega
theorem sZ_ind {q : Nat} {c : Int} : ∀ (k p : Nat), p ≤ q → q < p + k → sZ k p (fun i => if i = q then c else 0) = c
  | 0, _, h1, h2 => by omega
  | k + 1, p, h1, h2 => by
    rw [sZ]
    by_cases e : p = q
    · have : sZ k (p + 1) (fun i => if i = q then c else 0) = sZ k (p + 1) (fun _ => 0) := sZ_eq k (p + 1) (fun i a b => if_neg (by omega))
      have z : ∀ k p, sZ k p (fun _ => 0) = 0 := fun k => by
        induction k with
        | zero => exact fun _ => rfl
        | succ k ih => exact fun p => by rw [sZ, ih]; rfl
      rw [this, z, if_pos e]
      omega
    · rw [if_neg e, sZ_ind k (p + 1) (by omega) (by omega)]
      omega
theorem sZ_z : ∀ (k p : Nat), sZ k p (fun _ => 0) = 0
  | 0, _ => rfl
  | k + 1, p => by rw [sZ, sZ_z k (p + 1)]; rfl
