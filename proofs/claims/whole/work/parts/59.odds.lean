section ODDS
variable {κ : it_KK} {S S' S0 A B : it_SS} {G : Nat} {tb : Nat → Nat → List Nat} {T n : Nat} {by' : Nat → Int32} {ik : Int32} {AK : it_SS} {GK : Nat} {so sz : Nat → Int32} {ce : it_SS}
/-! weights of all, by how many -/
def sp_wt : Nat → Nat → it_SS → Int32 → Int32
  | 0, _, _, c => c
  | k + 1, g, A, c => sp_wt k (g + 1) A (if A 6 g = -1 then c else c + A 7 g)
theorem e_wt_loop {u : Nat} {kont : Int32 → it_SS → Option (Int32 × it_SS)} (hx : hX S u A) (hr : hR A G T) : ∀ (k g n : Nat) (c : Int32), g + k = 10 → k < n → lp_X0_weightOfAll_4 κ u kont n c (nI g) S = kont (sp_wt k g A c) S := by
  intro k
  induction k with
  | zero =>
    intro g n c hg hn
    obtain ⟨n, rfl⟩ : ∃ q, n = q + 1 := ⟨n - 1, by omega⟩
    obtain rfl : g = 10 := by omega
    rw [lp_X0_weightOfAll_4, if_pos (show (10 : Int32) ≤ nI 10 by decide)]
    rfl
  | succ k ih =>
    intro g n c hg hn
    obtain ⟨n, rfl⟩ : ∃ q, n = q + 1 := ⟨n - 1, by omega⟩
    rw [lp_X0_weightOfAll_4, if_neg (show ¬ 10 ≤ nI g from nI_ge (b := 10) (by omega) (by decide)), e_hasGlass hx hr, it_bi_some, th_nI (by omega), nI_1]
    by_cases h6 : A 6 g = -1
    · rw [show (if (decide (¬ A 6 g = -1)) = true then (1 : Int32) else 0) = 0 by simp [h6], if_pos rfl, ih (g + 1) n c (by omega) (by omega), sp_wt, if_pos h6]
    · rw [show (if (decide (¬ A 6 g = -1)) = true then (1 : Int32) else 0) = 1 by simp [h6], if_neg (by decide), if_pos (bd_nI (by omega) (by decide)), nI_clamp (by omega), (hx.2.1 g (by omega)).2.1, ih (g + 1) n _ (by omega) (by omega), sp_wt, if_neg h6]
theorem e_weightOfAll {u : Nat} (hx : hX S u A) (hr : hR A G T) : f_X0_weightOfAll κ u S = some (sp_wt 10 0 A 0, S) := by
  rw [f_X0_weightOfAll]
  exact e_wt_loop hx hr 10 0 it_FU 0 rfl (by decide)
theorem e_wtM_loop {x v2 : Int32} {kont : Int32 → Int32 → it_SS → Option (Int64 × it_SS)} (hx : hM S A G) : ∀ (k g n : Nat) (c : Int32), g + k = 10 → k < n → lp_X6_mean_27 κ x kont n v2 c (nI g) S = kont v2 (sp_wt k g A c) S := by
  intro k
  induction k with
  | zero =>
    intro g n c hg hn
    obtain ⟨n, rfl⟩ : ∃ q, n = q + 1 := ⟨n - 1, by omega⟩
    obtain rfl : g = 10 := by omega
    rw [lp_X6_mean_27, if_pos (show (10 : Int32) ≤ nI 10 by decide)]
    rfl
  | succ k ih =>
    intro g n c hg hn
    obtain ⟨n, rfl⟩ : ∃ q, n = q + 1 := ⟨n - 1, by omega⟩
    rw [lp_X6_mean_27, if_neg (show ¬ 10 ≤ nI g from nI_ge (b := 10) (by omega) (by decide)), e_isThere hx, it_bi_some, th_nI (by omega), nI_1]
    by_cases h6 : A 6 g = -1
    · rw [show (if (decide (¬ A 6 g = -1)) = true then (1 : Int32) else 0) = 0 by simp [h6], if_pos rfl, Int32.add_zero, ih (g + 1) n c (by omega) (by omega), sp_wt, if_pos h6]
    · rw [show (if (decide (¬ A 6 g = -1)) = true then (1 : Int32) else 0) = 1 by simp [h6], if_neg (by decide), nI_3, nI_1, if_pos (bd_nI (by omega) (by decide)), nI_clamp (by omega), (hx.2.2.1 g (by omega)).2.1, ih (g + 1) n _ (by omega) (by omega), sp_wt, if_neg h6]
theorem wt_rng (hr : hR A G T) : ∀ (k g : Nat) (c : Int32), g + k = 10 → -99 * (g : Int) ≤ c.toInt → c.toInt ≤ 99 * (g : Int) → -990 ≤ (sp_wt k g A c).toInt ∧ (sp_wt k g A c).toInt ≤ 990
  | 0, g, c, hg, h1, h2 => by
    obtain rfl : g = 10 := by omega
    exact ⟨by rw [sp_wt]; omega, by rw [sp_wt]; omega⟩
  | k + 1, g, c, hg, h1, h2 => by
    have h7 := hr.2.2.2.2.2.2 g (by omega)
    rw [sp_wt]
    refine wt_rng hr k (g + 1) _ (by omega) ?_ ?_
    · split
      · omega
      · rw [i_add (by omega) (by omega)]
        omega
    · split
      · omega
      · rw [i_add (by omega) (by omega)]
        omega
theorem many_nI : ∀ (k g c : Nat), ∃ c', sp_many k g A (nI c) = nI c' ∧ c ≤ c' ∧ c' ≤ c + k
  | 0, _, c => ⟨c, rfl, Nat.le_refl _, Nat.le_refl _⟩
  | k + 1, g, c => by
    rw [sp_many]
    by_cases h : A 6 g = -1
    · rw [if_pos h]
      obtain ⟨c', e, h1, h2⟩ := many_nI k (g + 1) c
      exact ⟨c', e, h1, by omega⟩
    · rw [if_neg h, nI_1]
      obtain ⟨c', e, h1, h2⟩ := many_nI k (g + 1) (c + 1)
      exact ⟨c', e, by omega, by omega⟩
theorem q_mean (x : Int32) : Eqv κ (f_X5_mean κ x) (f_X6_mean κ x) := Eqv.ask fun A G tb T n by' ik AK GK so sz ce hr => by
  obtain ⟨c, hc, -, hc2⟩ := many_nI (A := A) 10 0 0
  cases hx : sp_in x 0 1 with
  | false =>
    refine ⟨-4611686018427387904, fun S h => ⟨S, ?_, h, gM.refl S⟩, fun S h => ⟨S, ?_, h, gX.refl S⟩⟩
    · simp only [f_X5_mean, e_glassesThere h.1 hr.1, e_isOutside, hx, bi_s, Bool.false_eq_true, ↓reduceIte, i10]
    · simp only [f_X6_mean, e_many h.1, e_in, hx, bi_s, Bool.false_eq_true, ↓reduceIte, i10]
  | true =>
  by_cases h0 : c = 0
  · subst h0
    have e0 : sp_many 10 0 A 0 = 0 := hc
    refine ⟨-4611686018427387904, fun S h => ⟨S, ?_, h, gM.refl S⟩, fun S h => ⟨S, ?_, h, gX.refl S⟩⟩
    · simp only [f_X5_mean, e_glassesThere h.1 hr.1, e_isOutside, hx, bi_s, Bool.false_eq_true, ↓reduceIte, i10, e0]
    · simp only [f_X6_mean, e_many h.1, e_in, hx, bi_s, Bool.false_eq_true, ↓reduceIte, i10, e0]
  · have e0 : sp_many 10 0 A 0 = nI c := hc
    have hw := wt_rng hr.1 10 0 0 rfl (by rw [i_0]; omega) (by rw [i_0]; omega)
    obtain ⟨r, r1, r2⟩ := low_all (κ := κ) (a := sp_wt 10 0 A 0) (b := c) (x := x) ⟨by omega, by omega⟩ ⟨by omega, by omega⟩
    have hcn : ¬ nI c = 0 := nI_ne0 (by omega) (by omega)
    refine ⟨r, fun S h => ⟨S, ?_, h, gM.refl S⟩, fun S h => ⟨S, ?_, h, gX.refl S⟩⟩
    · rw [f_X5_mean, e_glassesThere h.1 hr.1, it_bi_some, e_isOutside, it_bi_some, hx, if_pos rfl, if_pos rfl, e0, if_neg hcn, e_weightOfAll h.1 hr.1, it_bi_some, r1, it_bi_some]
    · rw [f_X6_mean, e_many h.1, it_bi_some, e_in, it_bi_some, hx, if_pos rfl, if_neg (by decide), e0, if_neg hcn]
      refine Eq.trans (e_wtM_loop h.1 10 0 it_FU 0 rfl (by decide)) ?_
      show it_bi (f_X6_lowest κ (sp_wt 10 0 A 0).toInt64 (nI c).toInt64 x S) (fun r16 S15 => some (r16, S15)) = _
      rw [r2, it_bi_some]
/-! how many seeds -/
def sp_od (tb : Nat → Nat → List Nat) (G : Nat) (x : Int32) (A : it_SS) (s : Nat) : Nat → Nat → Nat → Nat
  | 0, _, c => c
  | j + 1, i, c => sp_od tb G x A s j (i + 1) (if sp_md G (sp_lots tb G 8 (s + i + 1) A) < x then c else c + 1)
theorem od_le {x : Int32} {s : Nat} : ∀ (j i c : Nat), sp_od tb G x A s j i c ≤ c + j
  | 0, _, c => Nat.le_refl _
  | j + 1, i, c => by
    rw [sp_od]
    have := od_le (x := x) (s := s) j (i + 1) (if sp_md G (sp_lots tb G 8 (s + i + 1) A) < x then c else c + 1)
    split at this
    · rename_i h
      rw [if_pos h]
      omega
    · rename_i h
      rw [if_neg h]
      omega
theorem e_odds_loop {s m : Nat} {x3 x4 : Int32} {kont : Int32 → it_SS → Option (Int64 × it_SS)} (hs : s ≤ 99999) (hm : m ≤ 40) (hr : IR A G tb T n by' ik AK GK so sz) : ∀ (j i f c : Nat) (S : it_SS), i + j = m → j < f → IX κ S A tb T n by' ik AK so sz ce → ∃ S', lp_X5_odds_53 κ (nI s) (nI m) x3 x4 kont f (nI c) (nI i) S = kont (nI (sp_od tb G x3 A s j i c)) S' ∧ IX κ S' A tb T n by' ik AK so sz ce ∧ gM S S' := by
  intro j
  induction j with
  | zero =>
    intro i f c S hi hf h
    obtain ⟨f, rfl⟩ : ∃ q, f = q + 1 := ⟨f - 1, by omega⟩
    obtain rfl : i = m := by omega
    exact ⟨S, by rw [lp_X5_odds_53, if_pos (Int32.le_refl _)]; rfl, h, gM.refl S⟩
  | succ j ih =>
    intro i f c S hi hf h
    obtain ⟨f, rfl⟩ : ∃ q, f = q + 1 := ⟨f - 1, by omega⟩
    obtain ⟨S1, a1, a2⟩ := e_thinkOfLots (κ := κ) (k := s + i) (by omega) hr h
    have hr2 := hR.lots (tb := tb) 8 (s + i + 1) A hr.1
    rw [lp_X5_odds_53, if_neg (nI_ge (by omega) (by omega)), nI_add, a1, it_bi_some, e_moodOfAll a2.1 hr2.1 hr2.2.1, it_bi_some, nI_1, nI_1, sp_od]
    by_cases q : sp_md G (sp_lots tb G 8 (s + i + 1) A) < x3
    · rw [if_pos q, if_pos q]
      obtain ⟨S2, b1, b2, b3⟩ := ih (i + 1) f c S1 (by omega) (by omega) (a2.fin h)
      exact ⟨S2, b1, b2, a2.gM.trans b3⟩
    · rw [if_neg q, if_neg q]
      obtain ⟨S2, b1, b2, b3⟩ := ih (i + 1) f (c + 1) S1 (by omega) (by omega) (a2.fin h)
      exact ⟨S2, b1, b2, a2.gM.trans b3⟩
theorem e_oddsM_loop {s m : Nat} {x3 x4 : Int32} {kont : Int64 → it_SS → Option (Int64 × it_SS)} (hs : s ≤ 99999) (hm : m ≤ 40) (ht : sp_tb tb T) (hr : hR A G T) : ∀ (j i f c : Nat) (S : it_SS), i + j = m → j < f → QM tb T S0 S A G → ∃ S', lp_X6_odds_53 κ (nI s) (nI m) x3 x4 kont f (lN c) (nI i) S = kont (lN (sp_od tb G x3 A s j i c)) S' ∧ QM tb T S0 S' A G := by
  intro j
  induction j with
  | zero =>
    intro i f c S hi hf h
    obtain ⟨f, rfl⟩ : ∃ q, f = q + 1 := ⟨f - 1, by omega⟩
    obtain rfl : i = m := by omega
    exact ⟨S, by rw [lp_X6_odds_53, if_pos (Int32.le_refl _)]; rfl, h⟩
  | succ j ih =>
    intro i f c S hi hf h
    obtain ⟨f, rfl⟩ : ∃ q, f = q + 1 := ⟨f - 1, by omega⟩
    obtain ⟨S1, a1, a2, -⟩ := e_lotOrders (κ := κ) (k := s + i) (by omega) ht hr h
    rw [lp_X6_odds_53, if_neg (nI_ge (by omega) (by omega)), nI_add, a1, it_bi_some, nI_1, lN_1, sp_od, Int64.add_zero]
    by_cases q : sp_md G (sp_lots tb G 8 (s + i + 1) A) < x3
    · rw [if_pos q, if_pos q]
      exact ih (i + 1) f c S1 (by omega) (by omega) a2
    · rw [if_neg q, if_neg q]
      exact ih (i + 1) f (c + 1) S1 (by omega) (by omega) a2
theorem q_odds (x y z w : Int32) : Eqv κ (f_X5_odds κ x y z w) (f_X6_odds κ x y z w) := Eqv.ask fun A G tb T n by' ik AK GK so sz ce hr => by
  cases hx : sp_in x 0 99999 with
  | false =>
    refine ⟨-4611686018427387904, fun S h => ⟨S, ?_, h, gM.refl S⟩, fun S h => ⟨S, ?_, h, gX.refl S⟩⟩
    · simp only [f_X5_odds, e_isOutside, hx, bi_s, Bool.false_eq_true, ↓reduceIte, i10]
    · simp only [f_X6_odds, e_in, hx, bi_s, Bool.false_eq_true, ↓reduceIte, i10]
  | true =>
  cases hy : sp_in y 1 40 with
  | false =>
    refine ⟨-4611686018427387904, fun S h => ⟨S, ?_, h, gM.refl S⟩, fun S h => ⟨S, ?_, h, gX.refl S⟩⟩
    · simp only [f_X5_odds, e_isOutside, hx, hy, bi_s, Bool.false_eq_true, ↓reduceIte, i10]
    · simp only [f_X6_odds, e_in, hx, hy, bi_s, Bool.false_eq_true, ↓reduceIte, i10]
  | true =>
  cases hz : sp_in z (-999) 999 with
  | false =>
    refine ⟨-4611686018427387904, fun S h => ⟨S, ?_, h, gM.refl S⟩, fun S h => ⟨S, ?_, h, gX.refl S⟩⟩
    · simp only [f_X5_odds, e_isOutside, hx, hy, hz, bi_s, Bool.false_eq_true, ↓reduceIte, i10]
    · simp only [f_X6_odds, e_in, hx, hy, hz, bi_s, Bool.false_eq_true, ↓reduceIte, i10]
  | true =>
  cases hw : sp_in w 0 1 with
  | false =>
    refine ⟨-4611686018427387904, fun S h => ⟨S, ?_, h, gM.refl S⟩, fun S h => ⟨S, ?_, h, gX.refl S⟩⟩
    · simp only [f_X5_odds, e_isOutside, hx, hy, hz, hw, bi_s, Bool.false_eq_true, ↓reduceIte, i10]
    · simp only [f_X6_odds, e_in, hx, hy, hz, hw, bi_s, Bool.false_eq_true, ↓reduceIte, i10]
  | true =>
  obtain ⟨s, hs, rfl⟩ := in_nI (m := 99999) (by decide) hx
  obtain ⟨m, hm1, hm, rfl⟩ := in_1 (m := 40) (by decide) hy
  have hc := od_le (tb := tb) (G := G) (A := A) (x := z) (s := s) m 0 0
  obtain ⟨C, hC⟩ : ∃ C, C = sp_od tb G z A s m 0 0 := ⟨_, rfl⟩
  rw [← hC] at hc
  obtain ⟨r, r1, r2⟩ := low_all (κ := κ) (a := nI C) (b := m) (x := w) (by rw [nI_toInt (by omega)]; omega) ⟨by omega, by omega⟩
  rw [nI_l (show C < 2 ^ 31 by omega)] at r2
  refine ⟨r, fun S h => ?_, fun S h => ?_⟩
  · obtain ⟨S1, a1, a2, a3⟩ := e_odds_loop (κ := κ) (x3 := z) (x4 := w) (kont := fun v19 S20 => it_bi (f_X5_inLowestTerms κ v19 (nI m) w S20) (fun r22 S21 => some (r22, S21))) hs hm hr m 0 it_FU 0 S (by omega) (by show m < 100000; omega) h
    refine ⟨S1, ?_, a2, a3⟩
    simp only [f_X5_odds, e_isOutside, hx, hy, hz, hw, bi_s, Bool.false_eq_true, ↓reduceIte, i10]
    rw [← hC] at a1
    refine Eq.trans a1 ?_
    rw [r1, it_bi_some]
  · obtain ⟨S1, a1, a2⟩ := e_oddsM_loop (κ := κ) (x3 := z) (x4 := w) (kont := fun v17 S18 => it_bi (f_X6_lowest κ v17 ((nI m).toInt64) w S18) (fun r20 S19 => some (r20, S19))) hs hm hr.2.2.1 hr.1 m 0 it_FU 0 S (by omega) (by show m < 100000; omega) (QM.start h)
    refine ⟨S1, ?_, a2.fin h, a2.gX⟩
    simp only [f_X6_odds, e_in, hx, hy, hz, hw, bi_s, Bool.false_eq_true, ↓reduceIte, i10]
    rw [← hC] at a1
    refine Eq.trans a1 ?_
    rw [r2, it_bi_some]
end ODDS
