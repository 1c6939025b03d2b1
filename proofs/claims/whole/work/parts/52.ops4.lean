section OPS4
variable {κ : it_KK} {S S' S0 A B : it_SS} {G : Nat} {tb : Nat → Nat → List Nat} {T n : Nat} {by' : Nat → Int32} {ik : Int32} {AK : it_SS} {GK : Nat} {so sz : Nat → Int32} {ce : it_SS}
theorem in_01 {x : Int32} (h : sp_in x 0 1 = true) : x = 0 ∨ x = 1 := by
  obtain ⟨j, hj, rfl⟩ := in_nI (m := 1) (by decide) h
  rcases (show j = 0 ∨ j = 1 by omega) with rfl | rfl
  · exact Or.inl rfl
  · exact Or.inr rfl
theorem q_put (x y z : Int32) : Eqv κ (f_X5_put κ x y z) (f_X6_put κ x y z) := Eqv.of fun A G tb T n by' ik AK GK so sz ce hr => by
  have hG := hr.1.2.1
  cases hb : it_bd x G with
  | false =>
    refine ⟨-5000, A, G, n, by', ik, AK, GK, so, sz, ce, hr, fun S h => ⟨S, ?_, h, gM.refl S⟩, fun S h => ⟨S, ?_, h, gX.refl S⟩⟩
    · simp only [f_X5_put, e_hasGuest (h.g hr) hr.1.2.1, hb, it_bi_some, Bool.false_eq_true, ↓reduceIte, i10]
    · simp only [f_X6_put, e_isOne (h.g hr) hr.1.2.1, hb, it_bi_some, Bool.false_eq_true, ↓reduceIte, i10]
  | true =>
  cases hy : sp_in y 0 1 with
  | false =>
    refine ⟨-7000, A, G, n, by', ik, AK, GK, so, sz, ce, hr, fun S h => ⟨S, ?_, h, gM.refl S⟩, fun S h => ⟨S, ?_, h, gX.refl S⟩⟩
    · simp only [f_X5_put, e_hasGuest (h.g hr) hr.1.2.1, e_isOutside, hy, hb, it_bi_some, Bool.false_eq_true, ↓reduceIte, i10]
    · simp only [f_X6_put, e_isOne (h.g hr) hr.1.2.1, e_in, hy, hb, it_bi_some, Bool.false_eq_true, ↓reduceIte, i10]
  | true =>
  obtain ⟨p, hp, rfl⟩ := bd_of hb
  have hb6 : it_bd (nI p) 6 = true := bd_nI (by omega) (by decide)
  rcases in_01 hy with rfl | rfl
  · cases hz : sp_in z (-99) 99 with
    | false =>
      refine ⟨-7000, A, G, n, by', ik, AK, GK, so, sz, ce, hr, fun S h => ⟨S, ?_, h, gM.refl S⟩, fun S h => ⟨S, ?_, h, gX.refl S⟩⟩
      · simp only [f_X5_put, e_hasGuest (h.g hr) hr.1.2.1, e_isOutside, hy, hz, hb, it_bi_some, Bool.false_eq_true, ↓reduceIte, i10]
      · simp only [f_X6_put, e_isOne (h.g hr) hr.1.2.1, e_in, hy, hz, hb, it_bi_some, Bool.false_eq_true, ↓reduceIte, i10]
    | true =>
    have hzr := in_rng hz
    rw [i_m99, i_99] at hzr
    have e0 : 2 * nI p + 0 = nI (2 * p) := by rw [nI_2, Int32.add_zero]
    refine ⟨A 4 p, it_up A 4 p z, G, n, by', ik, AK, GK, so, sz, ce, hr.house (hr.1.up4 hzr.1 hzr.2) (by rw [dR, it_up_ne (by decide)]; exact hr.2.1) (fun q hq => by rw [it_up_ne (by decide), it_up_ne (by decide)]; exact ⟨rfl, rfl⟩), fun S h => ⟨it_up S (9 + 3) p z, ?_, h.house (h.1.up (k := 3) (by decide) (by decide)) (fU.up (by decide)), gM.up (by omega)⟩, fun S h => ⟨it_up S 48 (2 * p) z, ?_, h.house (h.1.up48 (k := 0) (p := p) (by decide)) fD.up48, gX.up (by omega) (by omega)⟩⟩
    · simp only [f_X5_put, f_X0_set, e_hasGuest (h.g hr) hr.1.2.1, e_isOutside, hy, hz, hb, hb6, it_bi_some, Bool.false_eq_true, ↓reduceIte, i10, nI_clamp (show p < 2 ^ 31 by omega), (h.1.1 p (by omega)).2.2.1]
    · simp only [f_X6_put, e_isOne (h.g hr) hr.1.2.1, e_in, hy, hz, hb, it_bi_some, Bool.false_eq_true, ↓reduceIte, i10, e0, bd_nI (show 2 * p < 12 by omega) (by decide), nI_clamp (show 2 * p < 2 ^ 31 by omega), (h.1.2.1 p (by omega)).1]
  · cases hz : sp_in z 0 99 with
    | false =>
      refine ⟨-7000, A, G, n, by', ik, AK, GK, so, sz, ce, hr, fun S h => ⟨S, ?_, h, gM.refl S⟩, fun S h => ⟨S, ?_, h, gX.refl S⟩⟩
      · simp only [f_X5_put, e_hasGuest (h.g hr) hr.1.2.1, e_isOutside, hy, hz, hb, it_bi_some, Bool.false_eq_true, ↓reduceIte, i10]
      · simp only [f_X6_put, e_isOne (h.g hr) hr.1.2.1, e_in, hy, hz, hb, it_bi_some, Bool.false_eq_true, ↓reduceIte, i10]
    | true =>
    have hzr := in_rng hz
    rw [i_0, i_99] at hzr
    have e0 : 2 * nI p + 1 = nI (2 * p + 1) := by rw [nI_2, nI_1]
    refine ⟨A 5 p, it_up A 5 p z, G, n, by', ik, AK, GK, so, sz, ce, hr.house (hr.1.up5 hzr.1 hzr.2) (by rw [dR, it_up_ne (by decide)]; exact hr.2.1) (fun q hq => by rw [it_up_ne (by decide), it_up_ne (by decide)]; exact ⟨rfl, rfl⟩), fun S h => ⟨it_up S (9 + 4) p z, ?_, h.house (h.1.up (k := 4) (by decide) (by decide)) (fU.up (by decide)), gM.up (by omega)⟩, fun S h => ⟨it_up S 48 (2 * p + 1) z, ?_, h.house (h.1.up48 (k := 1) (p := p) (by decide)) fD.up48, gX.up (by omega) (by omega)⟩⟩
    · simp only [f_X5_put, f_X0_set, e_hasGuest (h.g hr) hr.1.2.1, e_isOutside, hy, hz, hb, hb6, it_bi_some, Bool.false_eq_true, ↓reduceIte, i10, nI_clamp (show p < 2 ^ 31 by omega), (h.1.1 p (by omega)).2.2.2]
    · simp only [f_X6_put, e_isOne (h.g hr) hr.1.2.1, e_in, hy, hz, hb, it_bi_some, Bool.false_eq_true, ↓reduceIte, i10, e0, bd_nI (show 2 * p + 1 < 12 by omega) (by decide), nI_clamp (show 2 * p + 1 < 2 ^ 31 by omega), (h.1.2.1 p (by omega)).2]
/-! the glasses of one -/
def sp_own : Nat → Nat → it_SS → Int32 → Int32 → Int32
  | 0, _, _, _, b => b
  | k + 1, g, A, x, b => sp_own k (g + 1) A x (if A 6 g = x then b ||| (1 <<< (nI g &&& 31)) else b)
theorem e_glassesOf_loop {u p : Nat} {kont : Int32 → it_SS → Option (Int32 × it_SS)} (hx : hX S u A) (hr : hR A G T) (hp : p < G) : ∀ (k g n : Nat) (b : Int32), g + k = 10 → k < n → lp_X0_glassesOf_4 κ u (nI p) kont n b (nI g) S = kont (sp_own k g A (nI p) b) S := by
  have hG := hr.2.1
  intro k
  induction k with
  | zero =>
    intro g n b hg hn
    obtain ⟨n, rfl⟩ : ∃ q, n = q + 1 := ⟨n - 1, by omega⟩
    obtain rfl : g = 10 := by omega
    rw [lp_X0_glassesOf_4, if_pos (show (10 : Int32) ≤ nI 10 by decide)]
    rfl
  | succ k ih =>
    intro g n b hg hn
    obtain ⟨n, rfl⟩ : ∃ q, n = q + 1 := ⟨n - 1, by omega⟩
    rw [lp_X0_glassesOf_4, if_neg (show ¬ 10 ≤ nI g from nI_ge (b := 10) (by omega) (by decide)), e_hasGlass hx hr, it_bi_some, th_nI (by omega), nI_1, sp_own]
    by_cases h6 : A 6 g = -1
    · rw [show (if (decide (¬ A 6 g = -1)) = true then (1 : Int32) else 0) = 0 by simp [h6], if_pos rfl, if_neg (show ¬ A 6 g = nI p by rw [h6]; exact fun q => nI_nm1 (p := p) (by omega) q.symm)]
      exact ih (g + 1) n b (by omega) (by omega)
    · rw [show (if (decide (¬ A 6 g = -1)) = true then (1 : Int32) else 0) = 1 by simp [h6], if_neg (by decide), if_pos (bd_nI (by omega) (by decide)), nI_clamp (by omega), (hx.2.1 g (by omega)).1]
      by_cases q : A 6 g = nI p
      · rw [if_pos q, if_pos q]
        exact ih (g + 1) n _ (by omega) (by omega)
      · rw [if_neg q, if_neg q]
        exact ih (g + 1) n b (by omega) (by omega)
theorem e_glassesOf {u p : Nat} (hx : hX S u A) (hr : hR A G T) (hp : p < G) : f_X0_glassesOf κ u (nI p) S = some (sp_own 10 0 A (nI p) 0, S) := by
  rw [f_X0_glassesOf]
  exact e_glassesOf_loop hx hr hp 10 0 it_FU 0 rfl (by decide)
theorem e_glassesOfM_loop {x : Int32} {kont : Int32 → it_SS → Option (Int32 × it_SS)} (hx : hM S A G) : ∀ (k g n : Nat) (b : Int32), g + k = 10 → k < n → lp_X6_glassesOf_4 κ x kont n b (nI g) S = kont (sp_own k g A x b) S := by
  intro k
  induction k with
  | zero =>
    intro g n b hg hn
    obtain ⟨n, rfl⟩ : ∃ q, n = q + 1 := ⟨n - 1, by omega⟩
    obtain rfl : g = 10 := by omega
    rw [lp_X6_glassesOf_4, if_pos (show (10 : Int32) ≤ nI 10 by decide)]
    rfl
  | succ k ih =>
    intro g n b hg hn
    obtain ⟨n, rfl⟩ : ∃ q, n = q + 1 := ⟨n - 1, by omega⟩
    rw [lp_X6_glassesOf_4, if_neg (show ¬ 10 ≤ nI g from nI_ge (b := 10) (by omega) (by decide)), nI_3, if_pos (bd_nI (by omega) (by decide)), nI_clamp (by omega), (hx.2.2.1 g (by omega)).1, nI_1, sp_own]
    by_cases q : A 6 g = x
    · rw [if_pos q, if_pos q]
      exact ih (g + 1) n _ (by omega) (by omega)
    · rw [if_neg q, if_neg q, or_z]
      exact ih (g + 1) n b (by omega) (by omega)
theorem e_glassesOfM {x : Int32} (hx : hM S A G) : f_X6_glassesOf κ x S = some (sp_own 10 0 A x 0, S) := by
  rw [f_X6_glassesOf]
  exact e_glassesOfM_loop hx 10 0 it_FU 0 rfl (by decide)
theorem own_bits {x : Int32} : ∀ (k g : Nat) (b : Int32) (w : Nat), b = nI w → w < 2 ^ g → g + k = 10 → ∃ w', sp_own k g A x b = nI w' ∧ w' < 1024 ∧ ∀ j, j < 10 → w'.testBit j = if j < g then w.testBit j else decide (A 6 j = x) := by
  intro k
  induction k with
  | zero =>
    intro g b w hb hw hg
    obtain rfl : g = 10 := by omega
    exact ⟨w, hb, hw, fun j hj => by rw [if_pos hj]⟩
  | succ k ih =>
    intro g b w hb hw hg
    have hg10 : g < 10 := by omega
    have hw2 : w < 2 ^ (g + 1) := by rw [Nat.pow_succ]; omega
    obtain ⟨w1, e1, e2, e3⟩ : ∃ w1, (if A 6 g = x then b ||| (1 <<< (nI g &&& 31)) else b) = nI w1 ∧ w1 < 2 ^ (g + 1) ∧ ∀ j, j ≤ g → w1.testBit j = if j < g then w.testBit j else decide (A 6 j = x) := by
      by_cases h2 : A 6 g = x
      · rw [if_pos h2, hb, sh_1 g hg10, nI_or]
        refine ⟨w ||| 2 ^ g, rfl, Nat.or_lt_two_pow hw2 (by rw [Nat.pow_succ]; have := Nat.two_pow_pos g; omega), fun j hj => ?_⟩
        by_cases q : j < g
        · rw [if_pos q, Nat.testBit_or, Nat.testBit_two_pow_of_ne (by omega), Bool.or_false]
        · obtain rfl : j = g := by omega
          rw [if_neg q, Nat.testBit_or, Nat.testBit_two_pow_self, Bool.or_true]
          simp [h2]
      · rw [if_neg h2]
        refine ⟨w, hb, hw2, fun j hj => ?_⟩
        by_cases q : j < g
        · rw [if_pos q]
        · obtain rfl : j = g := by omega
          rw [if_neg q, Nat.testBit_lt_two_pow hw]
          simp [h2]
    obtain ⟨w', f1, f2, f3⟩ := ih (g + 1) _ w1 e1 e2 (by omega)
    refine ⟨w', f1, f2, fun j hj => ?_⟩
    rw [f3 j hj]
    by_cases q : j < g
    · rw [if_pos (by omega), if_pos q, e3 j (by omega), if_pos q]
    · by_cases q2 : j = g
      · subst q2
        rw [if_pos (by omega), e3 j (by omega)]
      · rw [if_neg (by omega), if_neg q]
theorem own_w (A : it_SS) (x : Int32) : ∃ w, sp_own 10 0 A x 0 = nI w ∧ w < 1024 ∧ ∀ j, j < 10 → w.testBit j = decide (A 6 j = x) := by
  obtain ⟨w, h1, h2, h3⟩ := own_bits (A := A) (x := x) 10 0 0 0 rfl (by decide) rfl
  exact ⟨w, h1, h2, fun j hj => by rw [h3 j hj, if_neg (by omega)]⟩
/-! which goes off next -/
def tzf (x : Int32) : Int32 := ((f_J6_numberOfTrailingZeros_0f7a4 (0, fun _ => (0, 0), fun _ _ => false) x (fun _ _ => 0)).map Prod.fst).getD 0
set_option maxHeartbeats 4000000 in
theorem e_tz (κ : it_KK) (x : Int32) (S : it_SS) : f_J6_numberOfTrailingZeros_0f7a4 κ x S = some (tzf x, S) := by
  unfold tzf f_J6_numberOfTrailingZeros_0f7a4
  generalize (x ^^^ (-1)) &&& (x - 1) = y
  repeat' split
  all_goals first | rfl | contradiction
def sp_lb : Nat → Nat → Int32 → Int32
  | 0, _, v => v
  | k + 1, w, v => sp_lb k w (if w.testBit k = true then nI k else v)
theorem lb_all : ∀ w, w < 1024 → sp_lb 10 w (-1) = if w = 0 then -1 else tzf (nI w) := by decide +kernel
theorem tz_all : ∀ w, w < 1024 → w ≠ 0 → ¬ tzf (nI w) = -1 := by decide +kernel
def sp_nx (tb : Nat → Nat → List Nat) (G : Nat) (x : Int32) : Nat → it_SS → Int32
  | 0, _ => -1
  | k + 1, B => if sp_off1 tb B &&& x = 0 then sp_nx tb G x k (sp_day tb G B) else tzf (sp_off1 tb B &&& x)
theorem e_nextOff_loop {x : Int32} {kont : it_SS → Option (Int32 × it_SS)} (hk : ∀ S, kont S = some (-1, S)) (ht : sp_tb tb T) : ∀ (k i n : Nat) (S B : it_SS), i + k = 60 → k < n → PX κ tb T S0 S B → hR B G T → ∃ S' B', lp_X5_nextOff_6 κ x kont n (nI i) S = some (sp_nx tb G x k B, S') ∧ PX κ tb T S0 S' B' := by
  intro k
  induction k with
  | zero =>
    intro i n S B hi hn hp hr
    obtain ⟨n, rfl⟩ : ∃ q, n = q + 1 := ⟨n - 1, by omega⟩
    obtain rfl : i = 60 := by omega
    exact ⟨S, B, by rw [lp_X5_nextOff_6, if_pos (show (60 : Int32) ≤ nI 60 by decide), hk]; rfl, hp⟩
  | succ k ih =>
    intro i n S B hi hn hp hr
    obtain ⟨n, rfl⟩ : ∃ q, n = q + 1 := ⟨n - 1, by omega⟩
    obtain ⟨S1, a1, a2⟩ := hp.day (κ := κ) ht hr
    rw [lp_X5_nextOff_6, if_neg (show ¬ 60 ≤ nI i from nI_ge (b := 60) (by omega) (by decide)), a1, it_bi_some, nI_1, sp_nx]
    by_cases q : sp_off1 tb B &&& x = 0
    · rw [if_pos q, if_pos q]
      exact ih (i + 1) n S1 _ (by omega) (by omega) a2 hr.day
    · rw [if_neg q, if_neg q, e_tz, it_bi_some]
      exact ⟨S1, _, rfl, a2⟩
theorem e_lb_loop {x v3 : Int32} {w : Nat} (hw : w < 1024) {kont : Int32 → Int32 → it_SS → Option (Int32 × it_SS)} : ∀ (k n : Nat) (v : Int32) (S : it_SS), k ≤ 10 → k < n → lp_X6_firstOff_31 κ x kont n v v3 (nI w) (nI k + (-1)) S = kont (sp_lb k w v) v3 S := by
  intro k
  induction k with
  | zero =>
    intro n v S hk hn
    obtain ⟨n, rfl⟩ : ∃ q, n = q + 1 := ⟨n - 1, by omega⟩
    rw [lp_X6_firstOff_31, if_pos (show nI 0 + (-1) < 0 by decide)]
    rfl
  | succ k ih =>
    intro n v S hk hn
    obtain ⟨n, rfl⟩ : ∃ q, n = q + 1 := ⟨n - 1, by omega⟩
    rw [pk_m1, lp_X6_firstOff_31, if_neg (nI_pos (by omega)), bit_at hw (by omega), sp_lb]
    by_cases q : w.testBit k = true
    · rw [if_pos q, if_pos rfl, if_pos q]
      exact ih n _ S (by omega) (by omega)
    · rw [if_neg q, if_neg (by decide), if_neg q]
      exact ih n _ S (by omega) (by omega)
theorem e_firstOff_loop {w : Nat} {kont : Int32 → it_SS → Option (Int32 × it_SS)} (ht : sp_tb tb T) : ∀ (k i n : Nat) (S B : it_SS), i + k = 60 → k + 1 < n → PM tb T S0 S A B G → hR B G T → sm A B → ∃ S' B', lp_X6_firstOff_8 κ (nI w) kont n (-1) (nI i) S = kont (sp_nx tb G (nI w) k B) S' ∧ PM tb T S0 S' A B' G ∧ sm A B' := by
  intro k
  induction k with
  | zero =>
    intro i n S B hi hn hp hr hs
    obtain ⟨n, rfl⟩ : ∃ q, n = q + 1 := ⟨n - 1, by omega⟩
    obtain rfl : i = 60 := by omega
    exact ⟨S, B, by rw [lp_X6_firstOff_8, if_pos (show (60 : Int32) ≤ nI 60 by decide)]; rfl, hp, hs⟩
  | succ k ih =>
    intro i n S B hi hn hp hr hs
    obtain ⟨n, rfl⟩ : ∃ q, n = q + 1 := ⟨n - 1, by omega⟩
    obtain ⟨S1, a1, a2⟩ := hp.day (κ := κ) ht hr
    obtain ⟨w1, b1, b2, -⟩ := off_bits tb B G
    have hlt : w1 &&& w < 1024 := Nat.lt_of_le_of_lt Nat.and_le_left b2
    rw [lp_X6_firstOff_8, if_neg (show ¬ 60 ≤ nI i from nI_ge (b := 60) (by omega) (by decide)), if_pos rfl, a1, it_bi_some, b1, nI_and, show (9 : Int32) = nI 10 + (-1) by decide, e_lb_loop hlt 10 it_FU _ _ (by decide) (by decide), nI_1, lb_all _ hlt, sp_nx, b1, nI_and]
    by_cases q : w1 &&& w = 0
    · rw [if_pos q, if_pos (show nI (w1 &&& w) = 0 by rw [q]; rfl)]
      exact ih (i + 1) n S1 _ (by omega) (by omega) a2 hr.day hs.day
    · rw [if_neg q, if_neg (show ¬ nI (w1 &&& w) = 0 from nI_ne0 (by omega) (by omega))]
      obtain ⟨n, rfl⟩ : ∃ q, n = q + 1 := ⟨n - 1, by omega⟩
      refine ⟨S1, _, ?_, a2, hs.day⟩
      rw [lp_X6_firstOff_8, if_neg (tz_all _ hlt q)]
      split <;> rfl
theorem q_told (x y : Int32) : Eqv κ (f_X5_told κ x y) (f_X6_told κ x y) := Eqv.ask fun A G tb T n by' ik AK GK so sz ce hr => by
  have hG := hr.1.2.1
  cases hb : it_bd x G with
  | false =>
    refine ⟨-5000, fun S h => ⟨S, ?_, h, gM.refl S⟩, fun S h => ⟨S, ?_, h, gX.refl S⟩⟩
    · simp only [f_X5_told, e_hasGuest (h.g hr) hr.1.2.1, hb, it_bi_some, Bool.false_eq_true, ↓reduceIte, i10]
    · simp only [f_X6_told, e_isOne (h.g hr) hr.1.2.1, hb, it_bi_some, Bool.false_eq_true, ↓reduceIte, i10]
  | true =>
  obtain ⟨p, hp, rfl⟩ := bd_of hb
  have hb6 : it_bd (nI p) 6 = true := bd_nI (by omega) (by decide)
  have e0 : 2 * nI p + 0 = nI (2 * p) := by rw [nI_2, Int32.add_zero]
  have e1 : 2 * nI p + 1 = nI (2 * p + 1) := by rw [nI_2, nI_1]
  have hpc : (nI p).toNatClampNeg = p := nI_clamp (by omega)
  by_cases y0 : y = 0
  · subst y0
    refine ⟨A 4 p, fun S h => ⟨S, ?_, h, gM.refl S⟩, fun S h => ⟨S, ?_, h, gX.refl S⟩⟩
    · simp only [f_X5_told, e_hasGuest (h.g hr) hr.1.2.1, hb, hb6, it_bi_some, Bool.false_eq_true, ↓reduceIte, i10, hpc, (h.1.1 p (by omega)).2.2.1]
    · simp only [f_X6_told, e_isOne (h.g hr) hr.1.2.1, hb, it_bi_some, Bool.false_eq_true, ↓reduceIte, i10, e0, bd_nI (show 2 * p < 12 by omega) (by decide), nI_clamp (show 2 * p < 2 ^ 31 by omega), (h.1.2.1 p (by omega)).1]
  by_cases y1 : y = 1
  · subst y1
    refine ⟨A 5 p, fun S h => ⟨S, ?_, h, gM.refl S⟩, fun S h => ⟨S, ?_, h, gX.refl S⟩⟩
    · simp only [f_X5_told, e_hasGuest (h.g hr) hr.1.2.1, hb, hb6, it_bi_some, Bool.false_eq_true, ↓reduceIte, i10, hpc, (h.1.1 p (by omega)).2.2.2]
    · simp only [f_X6_told, e_isOne (h.g hr) hr.1.2.1, hb, it_bi_some, Bool.false_eq_true, ↓reduceIte, i10, e1, bd_nI (show 2 * p + 1 < 12 by omega) (by decide), nI_clamp (show 2 * p + 1 < 2 ^ 31 by omega), (h.1.2.1 p (by omega)).2]
  by_cases y2 : y = 2
  · refine ⟨A 2 p, fun S h => ⟨S, ?_, h, gM.refl S⟩, fun S h => ⟨S, ?_, h, gX.refl S⟩⟩
    · simp only [f_X5_told, e_hasGuest (h.g hr) hr.1.2.1, hb, hb6, it_bi_some, Bool.false_eq_true, ↓reduceIte, i10, if_neg y0, if_neg y1, if_pos y2, hpc, (h.1.1 p (by omega)).1]
    · simp only [f_X6_told, e_isOne (h.g hr) hr.1.2.1, hb, hb6, it_bi_some, Bool.false_eq_true, ↓reduceIte, i10, if_neg y0, if_neg y1, if_pos y2, hpc, (h.1.1 p hp).1]
  by_cases y3 : y = 3
  · refine ⟨A 3 p, fun S h => ⟨S, ?_, h, gM.refl S⟩, fun S h => ⟨S, ?_, h, gX.refl S⟩⟩
    · simp only [f_X5_told, e_hasGuest (h.g hr) hr.1.2.1, hb, hb6, it_bi_some, Bool.false_eq_true, ↓reduceIte, i10, if_neg y0, if_neg y1, if_neg y2, if_pos y3, hpc, (h.1.1 p (by omega)).2.1]
    · simp only [f_X6_told, e_isOne (h.g hr) hr.1.2.1, hb, hb6, it_bi_some, Bool.false_eq_true, ↓reduceIte, i10, if_neg y0, if_neg y1, if_neg y2, if_pos y3, hpc, (h.1.1 p hp).2]
  by_cases y4 : y = 4
  · refine ⟨sp_own 10 0 A (nI p) 0, fun S h => ⟨S, ?_, h, gM.refl S⟩, fun S h => ⟨S, ?_, h, gX.refl S⟩⟩
    · simp only [f_X5_told, e_hasGuest (h.g hr) hr.1.2.1, hb, hb6, it_bi_some, Bool.false_eq_true, ↓reduceIte, i10, if_neg y0, if_neg y1, if_neg y2, if_neg y3, if_pos y4, e_glassesOf h.1 hr.1 hp]
    · simp only [f_X6_told, e_isOne (h.g hr) hr.1.2.1, hb, hb6, it_bi_some, Bool.false_eq_true, ↓reduceIte, i10, if_neg y0, if_neg y1, if_neg y2, if_neg y3, if_pos y4, e_glassesOfM h.1]
  by_cases y5 : y = 5
  · obtain ⟨w, w1, w2, -⟩ := own_w A (nI p)
    refine ⟨sp_nx tb G (nI w) 60 A, fun S h => ?_, fun S h => ?_⟩
    · obtain ⟨S1, a1, a2⟩ := PX.start h
      obtain ⟨S2, B, b1, b2⟩ := e_nextOff_loop (κ := κ) (x := nI w) (kont := fun S9 => some (-1, S9)) (fun _ => rfl) hr.2.2.1 60 0 it_FU S1 A rfl (by decide) a2 hr.1
      refine ⟨S2, ?_, b2.fin h, b2.gM⟩
      simp only [f_X5_told, e_hasGuest (h.g hr) hr.1.2.1, hb, hb6, it_bi_some, Bool.false_eq_true, ↓reduceIte, i10, if_neg y0, if_neg y1, if_neg y2, if_neg y3, if_neg y4, if_pos y5, e_glassesOf h.1 hr.1 hp, w1, f_X5_nextOff, a1]
      rw [show lp_X5_nextOff_6 κ (nI w) (fun S9 => some (-1, S9)) it_FU 0 S1 = _ from b1, it_bi_some]
    · obtain ⟨S1, a1, a2⟩ := (QM.start h).keeps (κ := κ)
      obtain ⟨S2, B, b1, b2, b3⟩ := e_firstOff_loop (κ := κ) (w := w) (kont := fun v12 S13 => it_bi (f_X6_lays κ S13) (fun _ S14 => some (v12, S14))) hr.2.2.1 60 0 it_FU S1 A rfl (by decide) a2 hr.1 (sm.refl A)
      obtain ⟨S3, c1, c2⟩ := b2.lays (κ := κ) b3
      refine ⟨S3, ?_, c2.fin h, c2.gX⟩
      simp only [f_X6_told, e_isOne (h.g hr) hr.1.2.1, hb, hb6, it_bi_some, Bool.false_eq_true, ↓reduceIte, i10, if_neg y0, if_neg y1, if_neg y2, if_neg y3, if_neg y4, if_pos y5, e_glassesOfM h.1, w1, f_X6_firstOff, a1]
      rw [show lp_X6_firstOff_8 κ (nI w) (fun v12 S13 => it_bi (f_X6_lays κ S13) (fun _ S14 => some (v12, S14))) it_FU (-1) 0 S1 = _ from b1, c1, it_bi_some, it_bi_some]
  · refine ⟨-7000, fun S h => ⟨S, ?_, h, gM.refl S⟩, fun S h => ⟨S, ?_, h, gX.refl S⟩⟩
    · simp only [f_X5_told, e_hasGuest (h.g hr) hr.1.2.1, hb, hb6, it_bi_some, Bool.false_eq_true, ↓reduceIte, i10, if_neg y0, if_neg y1, if_neg y2, if_neg y3, if_neg y4, if_neg y5]
    · simp only [f_X6_told, e_isOne (h.g hr) hr.1.2.1, hb, hb6, it_bi_some, Bool.false_eq_true, ↓reduceIte, i10, if_neg y0, if_neg y1, if_neg y2, if_neg y3, if_neg y4, if_neg y5]
end OPS4
