/-! tokens of a tape: b its bytes, n of them -/
def tk_sk (b : Nat → Nat) (n : Nat) : Nat → Nat → Nat
  | 0, i => i
  | k + 1, i => if i < n ∧ (b i = 32 ∨ b i = 10) then tk_sk b n k (i + 1) else i
def tk_rn (b : Nat → Nat) (n lo hi : Nat) : Nat → Nat → Nat
  | 0, i => i
  | k + 1, i => if i < n ∧ lo ≤ b i ∧ b i ≤ hi then tk_rn b n lo hi k (i + 1) else i
def tk_vl (b : Nat → Nat) (n : Nat) : Nat → Nat → Nat → Nat
  | 0, _, v => v
  | k + 1, i, v => if i < n ∧ 48 ≤ b i ∧ b i ≤ 57 then tk_vl b n k (i + 1) (v * 10 + (b i - 48)) else v
def wl : List (List Nat) := [[109, 101, 108, 116, 115], [102, 101, 101, 108, 115], [99, 104, 105, 108, 108, 115], [111, 114], [97, 110, 100], [110, 111, 116], [119, 101, 105, 103, 104, 116], [105, 99, 101], [99, 111, 108, 100], [109, 111, 111, 100], [100, 97, 121], [109, 111, 114, 101]]
def isw (b : Nat → Nat) (p e w : Nat) : Prop := e - p = (wl.getD w []).length ∧ ∀ j, j < e - p → b (p + j) = (wl.getD w []).getD j 0
def iswb (b : Nat → Nat) (p e w : Nat) : Bool := decide (e - p = (wl.getD w []).length) && (List.range (e - p)).all (fun j => b (p + j) == (wl.getD w []).getD j 0)
theorem iswb_iff {b : Nat → Nat} {p e w : Nat} : iswb b p e w = true ↔ isw b p e w := by
  simp only [iswb, isw, Bool.and_eq_true, decide_eq_true_eq, List.all_eq_true, List.mem_range, beq_iff_eq]
def tk_w (b : Nat → Nat) (p e : Nat) : Nat := ((List.range 12).find? (fun w => iswb b p e w)).getD 14
def sgn (c : Nat) : Bool := c == 40 || c == 41 || c == 59 || c == 43 || c == 45 || c == 42 || c == 60 || c == 61
def tk_p (b : Nat → Nat) (n i : Nat) : Nat := tk_sk b n n i
def tk_e (b : Nat → Nat) (n i : Nat) : Nat :=
  if n ≤ tk_p b n i then tk_p b n i
  else if 97 ≤ b (tk_p b n i) ∧ b (tk_p b n i) ≤ 122 then tk_rn b n 97 122 n (tk_p b n i)
  else if 48 ≤ b (tk_p b n i) ∧ b (tk_p b n i) ≤ 57 then tk_rn b n 48 57 n (tk_p b n i)
  else tk_p b n i + 1
def tk_t (b : Nat → Nat) (n i : Nat) : Nat :=
  if n ≤ tk_p b n i then 13
  else if 97 ≤ b (tk_p b n i) ∧ b (tk_p b n i) ≤ 122 then tk_w b (tk_p b n i) (tk_rn b n 97 122 n (tk_p b n i))
  else if 48 ≤ b (tk_p b n i) ∧ b (tk_p b n i) ≤ 57 then (if tk_rn b n 48 57 n (tk_p b n i) - tk_p b n i ≤ 4 then 12 else 14)
  else if sgn (b (tk_p b n i)) = true then b (tk_p b n i) else 14
def tk_v (b : Nat → Nat) (n i : Nat) : Nat := tk_vl b n n (tk_p b n i) 0
section TOKENS
variable {κ : it_KK} {S : it_SS} {b : Nat → Nat} {n : Nat}
theorem sk_ge : ∀ k i, i ≤ tk_sk b n k i
  | 0, _ => Nat.le_refl _
  | k + 1, i => by
    rw [tk_sk]
    split
    · exact Nat.le_trans (Nat.le_succ i) (sk_ge k (i + 1))
    · exact Nat.le_refl _
theorem sk_le : ∀ k i, i ≤ n → tk_sk b n k i ≤ n
  | 0, _, h => h
  | k + 1, i, h => by
    rw [tk_sk]
    split
    · rename_i q
      exact sk_le k (i + 1) q.1
    · exact h
theorem rn_ge {lo hi : Nat} : ∀ k i, i ≤ tk_rn b n lo hi k i
  | 0, _ => Nat.le_refl _
  | k + 1, i => by
    rw [tk_rn]
    split
    · exact Nat.le_trans (Nat.le_succ i) (rn_ge k (i + 1))
    · exact Nat.le_refl _
theorem rn_le {lo hi : Nat} : ∀ k i, i ≤ n → tk_rn b n lo hi k i ≤ n
  | 0, _, h => h
  | k + 1, i, h => by
    rw [tk_rn]
    split
    · rename_i q
      exact rn_le k (i + 1) q.1
    · exact h
theorem rn_gt {lo hi i : Nat} (h : i < n) (h1 : lo ≤ b i) (h2 : b i ≤ hi) : i + 1 ≤ tk_rn b n lo hi n i := by
  obtain ⟨m, hm⟩ : ∃ m, n = m + 1 := ⟨n - 1, by omega⟩
  have : tk_rn b n lo hi (m + 1) i = tk_rn b n lo hi m (i + 1) := by rw [tk_rn, if_pos ⟨h, h1, h2⟩]
  rw [← hm] at this
  rw [this]
  exact rn_ge m (i + 1)
theorem p_ge (i : Nat) : i ≤ tk_p b n i := sk_ge n i
theorem p_le {i : Nat} (h : i ≤ n) : tk_p b n i ≤ n := sk_le n i h
theorem e_le {i : Nat} (h : i ≤ n) : tk_e b n i ≤ n := by
  have hp := p_le (b := b) h
  rw [tk_e]
  split
  · exact hp
  · split
    · exact rn_le n _ hp
    · split
      · exact rn_le n _ hp
      · omega
theorem e_gt {i : Nat} (h : tk_p b n i < n) : i + 1 ≤ tk_e b n i := by
  have h1 := p_ge (b := b) (n := n) i
  rw [tk_e, if_neg (by omega)]
  split
  · rename_i q
    exact Nat.le_trans (by omega) (rn_gt h q.1 q.2)
  · split
    · rename_i q
      exact Nat.le_trans (by omega) (rn_gt h q.1 q.2)
    · omega
theorem w_of (b : Nat → Nat) (p e : Nat) : (tk_w b p e < 12 ∧ isw b p e (tk_w b p e)) ∨ (tk_w b p e = 14 ∧ ∀ w, w < 12 → ¬ isw b p e w) := by
  rw [tk_w]
  cases h : (List.range 12).find? (fun w => iswb b p e w) with
  | none =>
    refine Or.inr ⟨rfl, fun w hw q => ?_⟩
    have := List.find?_eq_none.mp h w (List.mem_range.mpr hw)
    exact this (iswb_iff.mpr q)
  | some w =>
    have h1 := List.find?_some h
    have h2 := List.mem_of_find?_eq_some h
    exact Or.inl ⟨List.mem_range.mp h2, iswb_iff.mp h1⟩
theorem wl_len : ∀ w, w < 12 → 2 ≤ (wl.getD w []).length ∧ (wl.getD w []).length ≤ 6 := by decide
theorem wl_inj : ∀ w, w < 12 → ∀ v, v < 12 → wl.getD w [] = wl.getD v [] → w = v := by decide
theorem isw_eq {p e w v : Nat} (hw : w < 12) (hv : v < 12) (h : isw b p e w) (h1 : isw b p e v) : w = v := by
  refine wl_inj w hw v hv (List.ext_getElem (h.1.symm.trans h1.1) (fun i a c => ?_))
  have e1 := h.2 i (by rw [h.1]; exact a)
  have e2 := h1.2 i (by rw [h.1]; exact a)
  have g : ∀ (l : List Nat) (h : i < l.length), l.getD i 0 = l[i] := fun l h => by
    rw [List.getD_eq_getElem?_getD, List.getElem?_eq_getElem h]
    rfl
  rw [e1, g _ a, g _ c] at e2
  exact e2
theorem w_un {p e t : Nat} (h : (t < 12 ∧ isw b p e t) ∨ (t = 14 ∧ ∀ w, w < 12 → ¬ isw b p e w)) : t = tk_w b p e := by
  rcases h with ⟨h1, h2⟩ | ⟨h1, h2⟩ <;> rcases w_of b p e with ⟨g1, g2⟩ | ⟨g1, g2⟩
  · exact isw_eq h1 g1 h2 g2
  · exact absurd h2 (g2 t h1)
  · exact absurd g2 (h2 _ g1)
  · rw [h1, g1]
theorem vl_lt : ∀ k i v, tk_vl b n k i v < (v + 1) * 10 ^ (tk_rn b n 48 57 k i - i)
  | 0, i, v => by
    rw [tk_vl, tk_rn, Nat.sub_self, Nat.pow_zero]
    omega
  | k + 1, i, v => by
    rw [tk_vl, tk_rn]
    by_cases h : i < n ∧ 48 ≤ b i ∧ b i ≤ 57
    · rw [if_pos h, if_pos h]
      have ih := vl_lt k (i + 1) (v * 10 + (b i - 48))
      have hg := rn_ge (b := b) (n := n) (lo := 48) (hi := 57) k (i + 1)
      rw [show tk_rn b n 48 57 k (i + 1) - i = (tk_rn b n 48 57 k (i + 1) - (i + 1)) + 1 by omega, Nat.pow_succ]
      refine Nat.lt_of_lt_of_le ih ?_
      rw [Nat.mul_comm (10 ^ _) 10, ← Nat.mul_assoc]
      exact Nat.mul_le_mul_right _ (by omega)
    · rw [if_neg h, if_neg h, Nat.sub_self, Nat.pow_zero]
      omega
theorem t_cases (i : Nat) : (tk_t b n i = 13 ∧ n ≤ tk_p b n i) ∨ (tk_p b n i < n ∧ (tk_t b n i < 12 ∨ tk_t b n i = 14 ∨ (tk_t b n i = 12 ∧ tk_v b n i < 10000) ∨ sgn (tk_t b n i) = true)) := by
  rw [tk_t]
  by_cases h : n ≤ tk_p b n i
  · rw [if_pos h]
    exact Or.inl ⟨rfl, h⟩
  · rw [if_neg h]
    refine Or.inr ⟨by omega, ?_⟩
    by_cases h1 : 97 ≤ b (tk_p b n i) ∧ b (tk_p b n i) ≤ 122
    · rw [if_pos h1]
      rcases w_of b (tk_p b n i) (tk_rn b n 97 122 n (tk_p b n i)) with g | g
      · exact Or.inl g.1
      · exact Or.inr (Or.inl g.1)
    · rw [if_neg h1]
      by_cases h2 : 48 ≤ b (tk_p b n i) ∧ b (tk_p b n i) ≤ 57
      · rw [if_pos h2]
        by_cases h3 : tk_rn b n 48 57 n (tk_p b n i) - tk_p b n i ≤ 4
        · rw [if_pos h3]
          refine Or.inr (Or.inr (Or.inl ⟨rfl, ?_⟩))
          have h4 := vl_lt (b := b) (n := n) n (tk_p b n i) 0
          refine Nat.lt_of_lt_of_le h4 ?_
          rw [Nat.zero_add, Nat.one_mul]
          exact Nat.le_trans (Nat.pow_le_pow_right (by decide) h3) (by decide)
        · rw [if_neg h3]
          exact Or.inr (Or.inl rfl)
      · rw [if_neg h2]
        by_cases h3 : sgn (b (tk_p b n i)) = true
        · rw [if_pos h3]
          exact Or.inr (Or.inr (Or.inr h3))
        · rw [if_neg h3]
          exact Or.inr (Or.inl rfl)
theorem t_lt (i : Nat) : tk_t b n i < 62 := by
  rcases t_cases (b := b) (n := n) i with h | ⟨-, h | h | h | h⟩
  · omega
  · omega
  · omega
  · omega
  · simp only [sgn, Bool.or_eq_true, beq_iff_eq] at h
    omega
/-! one behind the other -/
def tq (b : Nat → Nat) (n : Nat) : Nat → Nat
  | 0 => 0
  | i + 1 => tk_e b n (tq b n i)
theorem tq_le : ∀ i, tq b n i ≤ n
  | 0 => Nat.zero_le _
  | i + 1 => e_le (tq_le i)
theorem tq_gt {i : Nat} (h : tk_t b n (tq b n i) ≠ 13) : tq b n i + 1 ≤ tq b n (i + 1) := by
  rcases t_cases (b := b) (n := n) (tq b n i) with ⟨h1, -⟩ | ⟨h1, -⟩
  · exact absurd h1 h
  · exact e_gt h1
def tT (b : Nat → Nat) (n i : Nat) : Nat := tk_t b n (tq b n i)
def tV (b : Nat → Nat) (n i : Nat) : Nat := tk_v b n (tq b n i)
def tP (b : Nat → Nat) (n i : Nat) : Nat := tk_p b n (tq b n i)
/-! the class's reading of a token -/
theorem nE {a m : Nat} (ha : a < 2 ^ 31) (hm : m < 2 ^ 31) : nI a = nI m ↔ a = m := nI_eq ha hm
theorem e_isLetter {c : Nat} (hc : c < 256) : f_X3_isLetter κ (nI c) S = some (if 97 ≤ c ∧ c ≤ 122 then 1 else 0, S) := by
  rw [f_X3_isLetter]
  by_cases h1 : c < 97
  · rw [if_pos (show nI c < 97 from nI_lt h1 (by decide)), if_neg (by omega)]
  · rw [if_neg (show ¬ nI c < 97 from nI_nlt (b := 97) (by omega) (by omega))]
    by_cases h2 : 122 < c
    · rw [if_pos (show 122 < nI c from nI_lt h2 (by omega)), if_neg (by omega)]
    · rw [if_neg (show ¬ 122 < nI c from nI_nlt (a := 122) (by omega) (by decide)), if_pos (by omega)]
theorem e_isDigit {c : Nat} (hc : c < 256) : f_X3_isDigit κ (nI c) S = some (if 48 ≤ c ∧ c ≤ 57 then 1 else 0, S) := by
  rw [f_X3_isDigit]
  by_cases h1 : c < 48
  · rw [if_pos (show nI c < 48 from nI_lt h1 (by decide)), if_neg (by omega)]
  · rw [if_neg (show ¬ nI c < 48 from nI_nlt (b := 48) (by omega) (by omega))]
    by_cases h2 : 57 < c
    · rw [if_pos (show 57 < nI c from nI_lt h2 (by omega)), if_neg (by omega)]
    · rw [if_neg (show ¬ 57 < nI c from nI_nlt (a := 57) (by omega) (by decide)), if_pos (by omega)]
/-- bytes of the tape in a row -/
def byts (b : Nat → Nat) (n : Nat) (f : Nat → Int32) : Prop := n ≤ 160 ∧ ∀ j, j < n → f j = nI (b j) ∧ b j < 256
theorem e_sk_x {kont : it_SS → Option (Unit × it_SS)} : ∀ (k i f : Nat) (S : it_SS), n ≤ i + k → i ≤ n → k < f → byts b n (S 6) → S 5 1 = nI n → S 5 2 = nI i → ∃ S', lp_X3_next_0 κ kont f S = kont S' ∧ (∀ c, c ≠ 5 → S' c = S c) ∧ (∀ j, j ≠ 2 → S' 5 j = S 5 j) ∧ S' 5 2 = nI (tk_sk b n k i) := by
  intro k
  induction k with
  | zero =>
    intro i f S h0 hi hf hb h1 h2
    obtain ⟨f, rfl⟩ : ∃ q, f = q + 1 := ⟨f - 1, by omega⟩
    obtain rfl : i = n := by omega
    exact ⟨S, by rw [lp_X3_next_0, h1, h2, if_pos (Int32.le_refl _)], fun _ _ => rfl, fun _ _ => rfl, h2⟩
  | succ k ih =>
    intro i f S h0 hi hf hb h1 h2
    obtain ⟨f, rfl⟩ : ∃ q, f = q + 1 := ⟨f - 1, by omega⟩
    have hn := hb.1
    rw [lp_X3_next_0, tk_sk, h1, h2]
    by_cases hin : i < n
    · have hbi := hb.2 i hin
      have more : (b i = 32 ∨ b i = 10) → ∃ S', lp_X3_next_0 κ kont f (it_up S 5 2 (nI (i + 1))) = kont S' ∧ (∀ c, c ≠ 5 → S' c = S c) ∧ (∀ j, j ≠ 2 → S' 5 j = S 5 j) ∧ S' 5 2 = nI (tk_sk b n k (i + 1)) := fun _ => by
        obtain ⟨S', a1, a2, a3, a4⟩ := ih (i + 1) f (it_up S 5 2 (nI (i + 1))) (by omega) hin (by omega) (by rw [it_up_ne (by decide)]; exact hb) (by rw [it_up_eq, upd, if_neg (by decide)]; exact h1) (by rw [it_up_eq, upd, if_pos rfl])
        exact ⟨S', a1, fun c hc => (a2 c hc).trans (it_up_ne hc), fun j hj => by rw [a3 j hj, it_up_eq, upd, if_neg hj], a4⟩
      rw [if_neg (nI_ge hin (by omega)), if_pos (bd_nI (show i < 160 by omega) (by decide)), nI_clamp (by omega), hbi.1, nI_1]
      by_cases q1 : b i = 32
      · rw [if_pos (show nI (b i) = 32 from congrArg nI q1), if_pos ⟨hin, Or.inl q1⟩]
        exact more (Or.inl q1)
      · rw [if_neg (show ¬ nI (b i) = 32 from fun q => q1 ((nE (m := 32) (by omega) (by decide)).mp q))]
        by_cases q2 : b i = 10
        · rw [if_pos (show nI (b i) = 10 from congrArg nI q2), if_pos ⟨hin, Or.inr q2⟩]
          exact more (Or.inr q2)
        · rw [if_neg (show ¬ nI (b i) = 10 from fun q => q2 ((nE (m := 10) (by omega) (by decide)).mp q)), if_neg (fun q => q.2.elim q1 q2)]
          exact ⟨S, rfl, fun _ _ => rfl, fun _ _ => rfl, h2⟩
    · obtain rfl : i = n := by omega
      rw [if_pos (Int32.le_refl _), if_neg (fun q => hin q.1)]
      exact ⟨S, rfl, fun _ _ => rfl, fun _ _ => rfl, h2⟩
theorem e_lt_x {kont : it_SS → Option (Unit × it_SS)} : ∀ (k i f : Nat) (S : it_SS), n ≤ i + k → i ≤ n → k < f → byts b n (S 6) → S 5 1 = nI n → S 5 2 = nI i → ∃ S', lp_X3_nextWord_0 κ kont f S = kont S' ∧ (∀ c, c ≠ 5 → S' c = S c) ∧ (∀ j, j ≠ 2 → S' 5 j = S 5 j) ∧ S' 5 2 = nI (tk_rn b n 97 122 k i) := by
  intro k
  induction k with
  | zero =>
    intro i f S h0 hi hf hb h1 h2
    obtain ⟨f, rfl⟩ : ∃ q, f = q + 1 := ⟨f - 1, by omega⟩
    obtain rfl : i = n := by omega
    exact ⟨S, by rw [lp_X3_nextWord_0, h1, h2, if_pos (Int32.le_refl _)], fun _ _ => rfl, fun _ _ => rfl, h2⟩
  | succ k ih =>
    intro i f S h0 hi hf hb h1 h2
    obtain ⟨f, rfl⟩ : ∃ q, f = q + 1 := ⟨f - 1, by omega⟩
    have hn := hb.1
    rw [lp_X3_nextWord_0, tk_rn, h1, h2]
    by_cases hin : i < n
    · have hbi := hb.2 i hin
      rw [if_neg (nI_ge hin (by omega)), if_pos (bd_nI (show i < 160 by omega) (by decide)), nI_clamp (by omega), hbi.1, e_isLetter hbi.2, it_bi_some]
      by_cases q : 97 ≤ b i ∧ b i ≤ 122
      · rw [if_pos q, if_neg (by decide), if_pos ⟨hin, q⟩, h2, nI_1]
        obtain ⟨S', a1, a2, a3, a4⟩ := ih (i + 1) f (it_up S 5 2 (nI (i + 1))) (by omega) hin (by omega) (by rw [it_up_ne (by decide)]; exact hb) (by rw [it_up_eq, upd, if_neg (by decide)]; exact h1) (by rw [it_up_eq, upd, if_pos rfl])
        exact ⟨S', a1, fun c hc => (a2 c hc).trans (it_up_ne hc), fun j hj => by rw [a3 j hj, it_up_eq, upd, if_neg hj], a4⟩
      · rw [if_neg q, if_pos rfl, if_neg (fun c => q c.2)]
        exact ⟨S, rfl, fun _ _ => rfl, fun _ _ => rfl, h2⟩
    · obtain rfl : i = n := by omega
      rw [if_pos (Int32.le_refl _), if_neg (fun q => hin q.1)]
      exact ⟨S, rfl, fun _ _ => rfl, fun _ _ => rfl, h2⟩
theorem nI_dg {v c : Nat} (h : 48 ≤ c) : nI v * 10 + nI c - 48 = nI (v * 10 + (c - 48)) := by
  rw [show (10 : Int32) = nI 10 from rfl, pk_mul, nI_add, show (48 : Int32) = nI 48 from rfl, pk_sub (by omega)]
  exact congrArg nI (by omega)
theorem e_dg_x {kont : it_SS → Option (Unit × it_SS)} : ∀ (k i v f : Nat) (S : it_SS), n ≤ i + k → i ≤ n → k < f → byts b n (S 6) → S 5 1 = nI n → S 5 2 = nI i → S 5 4 = nI v → ∃ S', lp_X3_nextNumber_5 κ kont f S = kont S' ∧ (∀ c, c ≠ 5 → S' c = S c) ∧ (∀ j, j ≠ 2 → j ≠ 4 → S' 5 j = S 5 j) ∧ S' 5 2 = nI (tk_rn b n 48 57 k i) ∧ S' 5 4 = nI (tk_vl b n k i v) := by
  intro k
  induction k with
  | zero =>
    intro i v f S h0 hi hf hb h1 h2 h4
    obtain ⟨f, rfl⟩ : ∃ q, f = q + 1 := ⟨f - 1, by omega⟩
    obtain rfl : i = n := by omega
    exact ⟨S, by rw [lp_X3_nextNumber_5, h1, h2, if_pos (Int32.le_refl _)], fun _ _ => rfl, fun _ _ _ => rfl, h2, h4⟩
  | succ k ih =>
    intro i v f S h0 hi hf hb h1 h2 h4
    obtain ⟨f, rfl⟩ : ∃ q, f = q + 1 := ⟨f - 1, by omega⟩
    have hn := hb.1
    rw [lp_X3_nextNumber_5, tk_rn, tk_vl, h1, h2]
    by_cases hin : i < n
    · have hbi := hb.2 i hin
      rw [if_neg (nI_ge hin (by omega)), if_pos (bd_nI (show i < 160 by omega) (by decide)), nI_clamp (by omega), hbi.1, e_isDigit hbi.2, it_bi_some]
      by_cases q : 48 ≤ b i ∧ b i ≤ 57
      · rw [if_pos q, if_neg (by decide), if_pos (show i < n ∧ 48 ≤ b i ∧ b i ≤ 57 from ⟨hin, q⟩), if_pos (show i < n ∧ 48 ≤ b i ∧ b i ≤ 57 from ⟨hin, q⟩), h2, if_pos (bd_nI (show i < 160 by omega) (by decide)), nI_clamp (by omega), hbi.1, h4, nI_dg q.1, it_up_eq, upd, if_neg (by decide), h2, nI_1]
        obtain ⟨S', a1, a2, a3, a4, a5⟩ := ih (i + 1) (v * 10 + (b i - 48)) f (it_up (it_up S 5 4 (nI (v * 10 + (b i - 48)))) 5 2 (nI (i + 1))) (by omega) hin (by omega) (by rw [it_up_ne (by decide), it_up_ne (by decide)]; exact hb) (by rw [it_up_eq, upd, if_neg (by decide), it_up_eq, upd, if_neg (by decide)]; exact h1) (by rw [it_up_eq, upd, if_pos rfl]) (by rw [it_up_eq, upd, if_neg (by decide), it_up_eq, upd, if_pos rfl])
        exact ⟨S', a1, fun c hc => by rw [a2 c hc, it_up_ne hc, it_up_ne hc], fun j hj hj4 => by rw [a3 j hj hj4, it_up_eq, upd, if_neg hj, it_up_eq, upd, if_neg hj4], a4, a5⟩
      · rw [if_neg q, if_pos rfl, if_neg (fun c => q c.2), if_neg (fun c => q c.2)]
        exact ⟨S, rfl, fun _ _ => rfl, fun _ _ _ => rfl, h2, h4⟩
    · obtain rfl : i = n := by omega
      rw [if_pos (Int32.le_refl _), if_neg (fun q => hin q.1), if_neg (fun q => hin q.1)]
      exact ⟨S, rfl, fun _ _ => rfl, fun _ _ _ => rfl, h2, h4⟩
/-! words of the class -/
def wlc : List Nat := wl.flatten
def wat : List Nat := [0, 5, 10, 16, 18, 21, 24, 30, 33, 37, 41, 44, 48]
theorem wat_e : ∀ w, w < 13 → it_wordAt.getD w 0 = nI (wat.getD w 0) := by decide +kernel
theorem wat_len : ∀ w, w < 12 → wat.getD (w + 1) 0 = wat.getD w 0 + (wl.getD w []).length ∧ wat.getD (w + 1) 0 ≤ 48 := by decide +kernel
theorem wlc_at : ∀ w, w < 12 → ∀ j, j < 6 → j < (wl.getD w []).length → wlc.getD (wat.getD w 0 + j) 0 = (wl.getD w []).getD j 0 := by decide +kernel
theorem wlc_lt : ∀ j, j < 48 → wlc.getD j 0 < 256 := by decide +kernel
theorem ch_e : ∀ j, j < 48 → (((it_bytes.getD 1 []).getD j 0 &&& 255).toUInt32 % 65536).toInt32 = nI (wlc.getD j 0) ∧ it_bc (nI (wlc.getD j 0)) = true := by decide +kernel
theorem e_charAt {j : Nat} (hj : j < 48) : f_J0_charAt_5068e κ 1 (nI j) S = some (nI (wlc.getD j 0), S) := by
  have h := ch_e j hj
  rw [f_J0_charAt_5068e, f_J0_isLatin1_aae02, it_bi_some, if_neg (by decide), f_J1_charAt_3b067, f_J0_checkIndex_df160, if_neg (show ¬ nI j < 0 from nI_pos (by omega)), if_pos (show nI j < Int32.ofNat (it_lens.getD 1 0) from nI_lt hj (by decide)), it_bi_some, if_pos (show it_bd (nI j) (it_lens.getD 1 0) = true from bd_nI hj (by decide)), nI_clamp (by omega), h.1, if_pos h.2, it_bi_some, if_pos h.2]
theorem e_isWord_loop {p e w : Nat} {x1 : Int32} (hw : w < 12) (he : e - p = (wl.getD w []).length) (hpe : p ≤ e) (hen : e ≤ n) (hb : byts b n (S 6)) (h2 : S 5 2 = nI e) (h5 : S 5 5 = nI p) : ∀ (k i f : Nat), i + k = e - p → k < f → (∀ j, j < i → b (p + j) = (wl.getD w []).getD j 0) → ∃ r : Int32, lp_X3_isWord_31 κ x1 (fun S9 => some (1, S9)) f (nI (wat.getD w 0)) (nI i) S = some (r, S) ∧ ((r = 1 ∧ isw b p e w) ∨ (r = 0 ∧ ¬ isw b p e w)) := by
  have hn := hb.1
  have hl := wl_len w hw
  have hat := wat_len w hw
  have hse : nI e - nI p = nI (e - p) := pk_sub hpe
  intro k
  induction k with
  | zero =>
    intro i f hi hf hj
    obtain ⟨f, rfl⟩ : ∃ q, f = q + 1 := ⟨f - 1, by omega⟩
    obtain rfl : i = e - p := by omega
    exact ⟨1, by rw [lp_X3_isWord_31, h2, h5, hse, if_pos (Int32.le_refl _)], Or.inl ⟨rfl, he, hj⟩⟩
  | succ k ih =>
    intro i f hi hf hj
    obtain ⟨f, rfl⟩ : ∃ q, f = q + 1 := ⟨f - 1, by omega⟩
    have hbi := hb.2 (p + i) (by omega)
    rw [lp_X3_isWord_31, h2, h5, hse, if_neg (nI_ge (by omega) (by omega)), nI_add, if_pos (bd_nI (show p + i < 160 by omega) (by decide)), nI_add, e_charAt (by omega), it_bi_some, nI_clamp (by omega), hbi.1, wlc_at w hw i (by omega) (by omega)]
    have hlt := wlc_lt (wat.getD w 0 + i) (by omega)
    rw [wlc_at w hw i (by omega) (by omega)] at hlt
    by_cases q : b (p + i) = (wl.getD w []).getD i 0
    · rw [if_pos (congrArg nI q), nI_1]
      exact ih (i + 1) f (by omega) (by omega) (fun j h => by
        by_cases e' : j = i
        · rw [e']; exact q
        · exact hj j (by omega))
    · rw [if_neg (fun c => q ((nE (by omega) (by omega)).mp c))]
      exact ⟨0, rfl, Or.inr ⟨rfl, fun c => q (c.2 i (by omega))⟩⟩
theorem e_isWord {p e w : Nat} (hw : w < 12) (hpe : p ≤ e) (hen : e ≤ n) (hb : byts b n (S 6)) (h2 : S 5 2 = nI e) (h5 : S 5 5 = nI p) : ∃ r : Int32, f_X3_isWord κ (nI w) S = some (r, S) ∧ ((r = 1 ∧ isw b p e w) ∨ (r = 0 ∧ ¬ isw b p e w)) := by
  have hn := hb.1
  have hat := wat_len w hw
  have hl := wl_len w hw
  have hse : nI e - nI p = nI (e - p) := pk_sub hpe
  have e3 : nI (wat.getD (w + 1) 0) - nI (wat.getD w 0) = nI (wl.getD w []).length := (pk_sub (by omega)).trans (congrArg nI (by omega))
  rw [f_X3_isWord, nI_1, if_pos (bd_nI (show w < 13 by omega) (by decide)), if_pos (bd_nI (show w + 1 < 13 by omega) (by decide)), nI_clamp (show w < 2 ^ 31 by omega), nI_clamp (show w + 1 < 2 ^ 31 by omega), wat_e w (by omega), wat_e (w + 1) (by omega), h2, h5, hse, e3]
  by_cases q : e - p = (wl.getD w []).length
  · rw [if_pos (congrArg nI q)]
    exact e_isWord_loop (κ := κ) hw q hpe hen hb h2 h5 (e - p) 0 it_FU (by omega) (by show e - p < 100000; omega) (fun j h => absurd h (Nat.not_lt_zero _))
  · rw [if_neg (fun c => q ((nE (by omega) (by omega)).mp c))]
    exact ⟨0, rfl, Or.inr ⟨rfl, fun c => q c.1⟩⟩
theorem e_words_loop {p e : Nat} {kont : it_SS → Option (Unit × it_SS)} (hpe : p ≤ e) (hen : e ≤ n) : ∀ (k w f t : Nat) (S : it_SS), w + k = 12 → k < f → byts b n (S 6) → S 5 2 = nI e → S 5 5 = nI p → S 5 3 = nI t → ((t < w ∧ isw b p e t) ∨ (t = 14 ∧ ∀ v, v < w → ¬ isw b p e v)) → ∃ S', lp_X3_nextWord_47 κ kont f (nI w) S = kont S' ∧ (∀ c, c ≠ 5 → S' c = S c) ∧ (∀ j, j ≠ 3 → S' 5 j = S 5 j) ∧ S' 5 3 = nI (tk_w b p e) := by
  intro k
  induction k with
  | zero =>
    intro w f t S hw hf hb h2 h5 h3 ht
    obtain ⟨f, rfl⟩ : ∃ q, f = q + 1 := ⟨f - 1, by omega⟩
    obtain rfl : w = 12 := by omega
    exact ⟨S, by rw [lp_X3_nextWord_47, if_pos (show (12 : Int32) ≤ nI 12 by decide)], fun _ _ => rfl, fun _ _ => rfl, by rw [h3, w_un ht]⟩
  | succ k ih =>
    intro w f t S hw hf hb h2 h5 h3 ht
    obtain ⟨f, rfl⟩ : ∃ q, f = q + 1 := ⟨f - 1, by omega⟩
    obtain ⟨r, a1, a2⟩ := e_isWord (κ := κ) (w := w) (by omega) hpe hen hb h2 h5
    rw [lp_X3_nextWord_47, if_neg (show ¬ 12 ≤ nI w from nI_ge (b := 12) (by omega) (by decide)), a1, it_bi_some, nI_1]
    rcases a2 with ⟨rfl, a2⟩ | ⟨rfl, a2⟩
    · rw [if_neg (by decide)]
      obtain ⟨S', c1, c2, c3, c4⟩ := ih (w + 1) f w (it_up S 5 3 (nI w)) (by omega) (by omega) (by rw [it_up_ne (by decide)]; exact hb) (by rw [it_up_eq, upd, if_neg (by decide)]; exact h2) (by rw [it_up_eq, upd, if_neg (by decide)]; exact h5) (by rw [it_up_eq, upd, if_pos rfl]) (Or.inl ⟨by omega, a2⟩)
      exact ⟨S', c1, fun c hc => (c2 c hc).trans (it_up_ne hc), fun j hj => by rw [c3 j hj, it_up_eq, upd, if_neg hj], c4⟩
    · rw [if_pos rfl]
      refine ih (w + 1) f t S (by omega) (by omega) hb h2 h5 h3 ?_
      rcases ht with ⟨t1, t2⟩ | ⟨t1, t2⟩
      · exact Or.inl ⟨by omega, t2⟩
      · refine Or.inr ⟨t1, fun v hv => ?_⟩
        by_cases e' : v = w
        · rw [e']; exact a2
        · exact t2 v (by omega)
theorem e_nextWord {p : Nat} (hp : p ≤ n) (hb : byts b n (S 6)) (h1 : S 5 1 = nI n) (h2 : S 5 2 = nI p) (h5 : S 5 5 = nI p) : ∃ S', f_X3_nextWord κ S = some ((), S') ∧ (∀ c, c ≠ 5 → S' c = S c) ∧ (∀ j, j ≠ 2 → j ≠ 3 → S' 5 j = S 5 j) ∧ S' 5 2 = nI (tk_rn b n 97 122 n p) ∧ S' 5 3 = nI (tk_w b p (tk_rn b n 97 122 n p)) := by
  have hn := hb.1
  obtain ⟨S1, a1, a2, a3, a4⟩ := e_lt_x (κ := κ) (b := b) (n := n) (kont := fun S6 => lp_X3_nextWord_47 κ (fun S11 => some ((), S11)) it_FU 0 (it_up S6 5 3 14)) n p it_FU S (by omega) hp (by show n < 100000; omega) hb h1 h2
  obtain ⟨S2, c1, c2, c3, c4⟩ := e_words_loop (κ := κ) (b := b) (n := n) (p := p) (e := tk_rn b n 97 122 n p) (kont := fun S11 => some ((), S11)) (rn_ge n p) (rn_le n p hp) 12 0 it_FU 14 (it_up S1 5 3 14) rfl (by decide) (by rw [it_up_ne (by decide), a2 6 (by decide)]; exact hb) (by rw [it_up_eq, upd, if_neg (by decide)]; exact a4) (by rw [it_up_eq, upd, if_neg (by decide), a3 5 (by decide)]; exact h5) (by rw [it_up_eq, upd, if_pos rfl]; rfl) (Or.inr ⟨rfl, fun v hv => absurd hv (Nat.not_lt_zero _)⟩)
  refine ⟨S2, ?_, fun c hc => by rw [c2 c hc, it_up_ne hc, a2 c hc], fun j j2 j3 => by rw [c3 j j3, it_up_eq, upd, if_neg j3, a3 j j2], by rw [c3 2 (by decide), it_up_eq, upd, if_neg (by decide)]; exact a4, c4⟩
  rw [f_X3_nextWord]
  exact a1.trans c1
/-! signs of the class -/
theorem e_ix_step {j f : Nat} {v x1 : Int32} {kont : it_SS → Option (Int32 × it_SS)} (hj : j < 8) : lp_J1_indexOfChar_4cfef_7 κ 2 x1 0 8 kont (f + 1) v (nI j) S = if (it_bytes.getD 2 []).getD j 0 = v then some (nI j, S) else lp_J1_indexOfChar_4cfef_7 κ 2 x1 0 8 kont f v (nI (j + 1)) S := by
  rw [lp_J1_indexOfChar_4cfef_7, if_neg (show ¬ 8 ≤ nI j from nI_ge (b := 8) (by omega) (by decide)), if_pos (show it_bd (nI j) (it_lens.getD 2 0) = true from bd_nI hj (by decide)), nI_clamp (by omega), nI_1]
theorem e_ix_loop {v x1 : Int32} : ∀ (k j f : Nat), j + k = 8 → k < f → ∃ r : Int32, lp_J1_indexOfChar_4cfef_7 κ 2 x1 0 8 (fun S4 => some (-1, S4)) f v (nI j) S = some (r, S) ∧ ((r < 0 ∧ ∀ i, j ≤ i → i < 8 → ¬ (it_bytes.getD 2 []).getD i 0 = v) ∨ (¬ r < 0 ∧ ∃ i, j ≤ i ∧ i < 8 ∧ (it_bytes.getD 2 []).getD i 0 = v)) := by
  intro k
  induction k with
  | zero =>
    intro j f hj hf
    obtain ⟨f, rfl⟩ : ∃ q, f = q + 1 := ⟨f - 1, by omega⟩
    obtain rfl : j = 8 := by omega
    exact ⟨-1, by rw [lp_J1_indexOfChar_4cfef_7, if_pos (show (8 : Int32) ≤ nI 8 by decide)], Or.inl ⟨by decide, fun i h1 h2 => absurd h1 (by omega)⟩⟩
  | succ k ih =>
    intro j f hj hf
    obtain ⟨f, rfl⟩ : ∃ q, f = q + 1 := ⟨f - 1, by omega⟩
    rw [e_ix_step (by omega)]
    by_cases q : (it_bytes.getD 2 []).getD j 0 = v
    · rw [if_pos q]
      exact ⟨nI j, rfl, Or.inr ⟨nI_pos (by omega), j, Nat.le_refl _, by omega, q⟩⟩
    · rw [if_neg q]
      obtain ⟨r, a1, a2⟩ := ih (j + 1) f (by omega) (by omega)
      refine ⟨r, a1, ?_⟩
      rcases a2 with ⟨a2, a3⟩ | ⟨a2, i, a3, a4, a5⟩
      · refine Or.inl ⟨a2, fun i h1 h2 => ?_⟩
        by_cases e : i = j
        · rw [e]; exact q
        · exact a3 i (by omega) h2
      · exact Or.inr ⟨a2, i, by omega, a4, a5⟩
theorem sg_e : ∀ c, c < 256 → ((∃ i, i < 8 ∧ (it_bytes.getD 2 []).getD i 0 = (nI c).toInt8.toInt32) ↔ sgn c = true) ∧ ((nI c).toUInt32 % 65536).toInt32 = nI c := by decide +kernel
theorem e_indexOf {c : Nat} (hc : c < 256) : ∃ r : Int32, f_J0_indexOf_0f7a4 κ 2 (((nI c).toUInt32 % 65536).toInt32) S = some (r, S) ∧ (r < 0 ↔ ¬ sgn c = true) := by
  have hs := sg_e c hc
  obtain ⟨r, a1, a2⟩ := e_ix_loop (κ := κ) (S := S) (v := (nI c).toInt8.toInt32) (x1 := nI c) 8 0 it_FU rfl (by decide)
  refine ⟨r, ?_, ?_⟩
  · rw [hs.2, f_J0_indexOf_0f7a4, f_J0_indexOf_7cf53, f_J0_isLatin1_aae02, it_bi_some, if_neg (by decide), f_J0_length_8abf5, f_J0_coder_7d493, it_bi_some, it_bi_some, f_J1_indexOf_4cfef, f_J1_canEncode_9a6ad, if_neg (show ¬ nI c < 0 from nI_pos (by omega)), if_neg (show ¬ 255 < nI c from nI_nlt (a := 255) (by omega) (by decide)), it_bi_some, if_neg (by decide), show (if (0 : Int32) < 0 then (0 : Int32) else 0) = 0 by decide, show (if Int32.ofNat (it_lens.getD 2 0) < Int32.ofNat (it_lens.getD 2 0) >>> ((0 : Int32) &&& 31) then Int32.ofNat (it_lens.getD 2 0) else Int32.ofNat (it_lens.getD 2 0) >>> ((0 : Int32) &&& 31)) = 8 by decide, if_pos (by decide), f_J1_indexOfChar_4cfef, show lp_J1_indexOfChar_4cfef_7 κ 2 (nI c) 0 8 (fun S4 => some (-1, S4)) it_FU (nI c).toInt8.toInt32 0 S = _ from a1, it_bi_some, it_bi_some, it_bi_some]
  · rw [← hs.1]
    rcases a2 with ⟨a2, a3⟩ | ⟨a2, i, a3, a4, a5⟩
    · exact ⟨fun _ ⟨i, h1, h2⟩ => a3 i (Nat.zero_le i) h1 h2, fun _ => a2⟩
    · exact ⟨fun h => absurd h a2, fun h => absurd ⟨i, a4, a5⟩ h⟩
/-- next(), the class's -/
theorem e_next_x {i : Nat} (hi : i ≤ n) (hb : byts b n (S 6)) (h1 : S 5 1 = nI n) (h2 : S 5 2 = nI i) : ∃ S', f_X3_next κ S = some ((), S') ∧ (∀ c, c ≠ 5 → S' c = S c) ∧ (∀ j, j ≠ 2 → j ≠ 3 → j ≠ 4 → j ≠ 5 → S' 5 j = S 5 j) ∧ S' 5 2 = nI (tk_e b n i) ∧ S' 5 3 = nI (tk_t b n i) ∧ S' 5 5 = nI (tk_p b n i) ∧ (tk_t b n i = 12 → S' 5 4 = nI (tk_v b n i)) := by
  have hn := hb.1
  rw [f_X3_next]
  generalize hk : (fun S5 : it_SS => (_ : Option (Unit × it_SS))) = kont
  obtain ⟨S1, a1, a2, a3, a4⟩ := e_sk_x (κ := κ) (b := b) (n := n) (kont := kont) n i it_FU S (by omega) hi (by show n < 100000; omega) hb h1 h2
  rw [a1, ← hk]
  have hp := p_le (b := b) hi
  have hpg := p_ge (b := b) (n := n) i
  change S1 5 2 = nI (tk_p b n i) at a4
  obtain ⟨P, hP⟩ : ∃ P, P = tk_p b n i := ⟨_, rfl⟩
  rw [tk_e, tk_t, tk_v, ← hP]
  rw [← hP] at a4 hp hpg
  obtain ⟨S2, hS2⟩ : ∃ S2, S2 = it_up S1 5 5 (nI P) := ⟨_, rfl⟩
  have f0 : ∀ c, c ≠ 5 → S2 c = S c := fun c hc => by rw [hS2, it_up_ne hc, a2 c hc]
  have f1 : ∀ j, j ≠ 2 → j ≠ 5 → S2 5 j = S 5 j := fun j j2 j5 => by rw [hS2, it_up_eq, upd, if_neg j5, a3 j j2]
  have f2 : S2 5 2 = nI P := by rw [hS2, it_up_eq, upd, if_neg (by decide)]; exact a4
  have f5 : S2 5 5 = nI P := by rw [hS2, it_up_eq, upd, if_pos rfl]
  have f3 : S2 5 1 = nI n := by rw [f1 1 (by decide) (by decide)]; exact h1
  have fb : byts b n (S2 6) := by rw [f0 6 (by decide)]; exact hb
  simp only []
  rw [a4, ← hS2, f2, f3]
  by_cases q0 : n ≤ P
  · obtain rfl : P = n := by omega
    rw [if_neg (nI_nlt (Nat.le_refl _) (by omega)), if_pos (Nat.le_refl _), if_pos (Nat.le_refl _)]
    exact ⟨_, rfl, fun c hc => by rw [it_up_ne hc, f0 c hc], fun j j2 j3 j4 j5 => by rw [it_up_eq, upd, if_neg j3, f1 j j2 j5], by rw [it_up_eq, upd, if_neg (by decide)]; exact f2, by rw [it_up_eq, upd, if_pos rfl]; rfl, by rw [it_up_eq, upd, if_neg (by decide)]; exact f5, fun c => absurd c (by decide)⟩
  · have hbi := fb.2 P (by omega)
    rw [if_pos (nI_lt (by omega) (by omega)), if_neg q0, if_neg q0, if_pos (bd_nI (show P < 160 by omega) (by decide)), nI_clamp (by omega), hbi.1, e_isLetter hbi.2, it_bi_some]
    by_cases q1 : 97 ≤ b P ∧ b P ≤ 122
    · rw [if_pos q1, if_neg (by decide), if_pos q1, if_pos q1]
      obtain ⟨S', c1, c2, c3, c4, c5⟩ := e_nextWord (κ := κ) hp fb f3 f2 f5
      refine ⟨S', by rw [c1, it_bi_some], fun c hc => (c2 c hc).trans (f0 c hc), fun j j2 j3 j4 j5 => (c3 j j2 j3).trans (f1 j j2 j5), c4, c5, by rw [c3 5 (by decide) (by decide)]; exact f5, fun c => ?_⟩
      rcases w_of b P (tk_rn b n 97 122 n P) with g | g <;> omega
    · rw [if_neg q1, if_pos rfl, if_neg q1, if_neg q1, f2, if_pos (bd_nI (show P < 160 by omega) (by decide)), nI_clamp (by omega), hbi.1, e_isDigit hbi.2, it_bi_some]
      by_cases q2 : 48 ≤ b P ∧ b P ≤ 57
      · rw [if_pos q2, if_neg (by decide), if_pos q2, if_pos q2, f_X3_nextNumber]
        generalize hk2 : (fun S7 : it_SS => (_ : Option (Unit × it_SS))) = kont2
        obtain ⟨S3, c1, c2, c3, c4, c5⟩ := e_dg_x (κ := κ) (b := b) (n := n) (kont := kont2) n P 0 it_FU (it_up S2 5 4 0) (by omega) hp (by show n < 100000; omega) (by rw [it_up_ne (by decide)]; exact fb) (by rw [it_up_eq, upd, if_neg (by decide)]; exact f3) (by rw [it_up_eq, upd, if_neg (by decide)]; exact f2) (by rw [it_up_eq, upd, if_pos rfl]; rfl)
        have hg := rn_ge (b := b) (n := n) (lo := 48) (hi := 57) n P
        have hl := rn_le (b := b) (n := n) (lo := 48) (hi := 57) n P hp
        have e5 : S3 5 5 = nI P := by rw [c3 5 (by decide) (by decide), it_up_eq, upd, if_neg (by decide)]; exact f5
        rw [c1, ← hk2]
        simp only []
        rw [c4, e5, pk_sub hg]
        have fin : ∀ v : Int32, (∀ c, c ≠ 5 → it_up S3 5 3 v c = S c) ∧ (∀ j, j ≠ 2 → j ≠ 3 → j ≠ 4 → j ≠ 5 → it_up S3 5 3 v 5 j = S 5 j) ∧ it_up S3 5 3 v 5 2 = nI (tk_rn b n 48 57 n P) ∧ it_up S3 5 3 v 5 5 = nI P ∧ it_up S3 5 3 v 5 4 = nI (tk_vl b n n P 0) := fun v =>
          ⟨fun c hc => by rw [it_up_ne hc, c2 c hc, it_up_ne hc, f0 c hc], fun j j2 j3 j4 j5 => by rw [it_up_eq, upd, if_neg j3, c3 j j2 j4, it_up_eq, upd, if_neg j4, f1 j j2 j5], by rw [it_up_eq, upd, if_neg (by decide)]; exact c4, by rw [it_up_eq, upd, if_neg (by decide)]; exact e5, by rw [it_up_eq, upd, if_neg (by decide)]; exact c5⟩
        by_cases q3 : tk_rn b n 48 57 n P - P ≤ 4
        · rw [if_pos (show nI (tk_rn b n 48 57 n P - P) ≤ 4 from nI_le q3 (by decide)), if_pos q3]
          have := fin 12
          exact ⟨_, by rw [it_bi_some], this.1, this.2.1, this.2.2.1, by rw [it_up_eq, upd, if_pos rfl]; rfl, this.2.2.2.1, fun _ => this.2.2.2.2⟩
        · rw [if_neg (show ¬ nI (tk_rn b n 48 57 n P - P) ≤ 4 from nI_ge (a := 4) (by omega) (by omega)), if_neg q3]
          have := fin 14
          exact ⟨_, by rw [it_bi_some], this.1, this.2.1, this.2.2.1, by rw [it_up_eq, upd, if_pos rfl]; rfl, this.2.2.2.1, fun c => absurd c (by decide)⟩
      · obtain ⟨r, c1, c2⟩ := e_indexOf (κ := κ) (S := S2) hbi.2
        rw [if_neg q2, if_pos rfl, if_neg q2, if_neg q2, f2, if_pos (bd_nI (show P < 160 by omega) (by decide)), nI_clamp (by omega), hbi.1, c1, it_bi_some]
        have fin : ∀ v : Int32, (∀ c, c ≠ 5 → it_up (it_up S2 5 3 v) 5 2 (nI (P + 1)) c = S c) ∧ (∀ j, j ≠ 2 → j ≠ 3 → j ≠ 4 → j ≠ 5 → it_up (it_up S2 5 3 v) 5 2 (nI (P + 1)) 5 j = S 5 j) ∧ it_up (it_up S2 5 3 v) 5 2 (nI (P + 1)) 5 2 = nI (P + 1) ∧ it_up (it_up S2 5 3 v) 5 2 (nI (P + 1)) 5 3 = v ∧ it_up (it_up S2 5 3 v) 5 2 (nI (P + 1)) 5 5 = nI P := fun v =>
          ⟨fun c hc => by rw [it_up_ne hc, it_up_ne hc, f0 c hc], fun j j2 j3 j4 j5 => by rw [it_up_eq, upd, if_neg j2, it_up_eq, upd, if_neg j3, f1 j j2 j5], by rw [it_up_eq, upd, if_pos rfl], by rw [it_up_eq, upd, if_neg (by decide), it_up_eq, upd, if_pos rfl], by rw [it_up_eq, upd, if_neg (by decide), it_up_eq, upd, if_neg (by decide)]; exact f5⟩
        have e2 : ∀ v : Int32, it_up S2 5 3 v 5 2 + 1 = nI (P + 1) := fun v => by rw [it_up_eq, upd, if_neg (by decide), f2, nI_1]
        by_cases q3 : sgn (b P) = true
        · have := fin (nI (b P))
          rw [if_neg (fun c => (c2.mp c) q3), if_pos q3, f2, if_pos (bd_nI (show P < 160 by omega) (by decide)), nI_clamp (by omega), hbi.1, e2]
          refine ⟨_, rfl, this.1, this.2.1, this.2.2.1, this.2.2.2.1, this.2.2.2.2, fun c => ?_⟩
          rw [c] at q3
          exact absurd q3 (by decide)
        · have := fin 14
          rw [if_pos (c2.mpr q3), if_neg q3, e2]
          exact ⟨_, rfl, this.1, this.2.1, this.2.2.1, by rw [this.2.2.2.1]; rfl, this.2.2.2.2, fun c => absurd c (by decide)⟩
end TOKENS
