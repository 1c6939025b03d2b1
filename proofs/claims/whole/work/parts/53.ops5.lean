theorem bi_s {ρ τ : Type} (r : ρ) (S : it_SS) (k : ρ → it_SS → Option (τ × it_SS)) : it_bi (some (r, S)) k = k r S := Eq.trans (it_bi_some r S k) rfl
section OPS5
variable {κ : it_KK} {S S' S0 A B : it_SS} {G : Nat} {tb : Nat → Nat → List Nat} {T n : Nat} {by' : Nat → Int32} {ik : Int32} {AK : it_SS} {GK : Nat} {so sz : Nat → Int32} {ce : it_SS}
/-! days ahead -/
theorem in_nn {a b c : Nat} (ha : a < 2 ^ 31) (hb : b < 2 ^ 31) (hc : c < 2 ^ 31) : sp_in (nI a) (nI b) (nI c) = decide (b ≤ a ∧ a ≤ c) := by
  simp [sp_in, nI_leI hb ha, nI_leI ha hc]
theorem in_1 {x : Int32} {m : Nat} (hm : m < 2 ^ 31) (h : sp_in x 1 (nI m) = true) : ∃ j, 1 ≤ j ∧ j ≤ m ∧ x = nI j := by
  have h' := h
  simp only [sp_in, Bool.and_eq_true, decide_eq_true_eq] at h'
  obtain ⟨j, hj, rfl⟩ := in_nI hm (show sp_in x 0 (nI m) = true by simp only [sp_in, Bool.and_eq_true, decide_eq_true_eq]; exact ⟨Int32.le_trans (by decide) h'.1, h'.2⟩)
  exact ⟨j, (nI_leI (a := 1) (by decide) (by omega)).mp h'.1, hj, rfl⟩
theorem bd_f {x : Int32} {G : Nat} (hG : G ≤ 1000) (h : ¬ (0 ≤ x.toInt ∧ x.toInt < G)) : it_bd x G = false := by
  cases e : it_bd x G with
  | false => rfl
  | true => exact absurd ((bd_iff (by omega)).mp e) h
theorem bd_nn {j G : Nat} (hj : j < 2 ^ 31) (hG : G < 2 ^ 31) : it_bd (nI j) G = decide (j < G) := by
  have h1 : (0 : Int32) ≤ nI j := nI_pos' hj
  simp [it_bd, h1, nI_clamp hj]
/-- what run answers of a house -/
def sp_tell (G : Nat) (B : it_SS) (y : Nat) : Int32 := if y = 0 then sp_many 10 0 B 0 else if y = 1 then sp_md G B else if y < 20 then B 4 (y - 10) else B 5 (y - 20)
theorem e_toldBehind {y : Nat} (hx : hM S B G) (hr : hR B G T) (hy : y = 0 ∨ y = 1 ∨ (10 ≤ y ∧ y < 10 + G) ∨ (20 ≤ y ∧ y < 20 + G)) : f_X6_toldBehind κ (nI y) S = some (sp_tell G B y, S) := by
  have hG := hr.2.1
  rw [f_X6_toldBehind, sp_tell]
  rcases hy with rfl | rfl | h | h
  · rw [if_pos (show nI 0 = 0 from rfl), e_many hx, it_bi_some, if_pos rfl]
  · rw [if_neg (show ¬ nI 1 = 0 by decide), if_pos (show nI 1 = 1 from rfl), e_moodAll hx hr.1 hr.2.1, it_bi_some, if_neg (by decide), if_pos rfl]
  · rw [if_neg (show ¬ nI y = 0 from nI_ne0 (by omega) (by omega)), if_neg (show ¬ nI y = 1 from fun q => by have := (nI_eq (a := y) (b := 1) (by omega) (by decide)).mp q; omega), if_neg (show ¬ 20 ≤ nI y from nI_ge (b := 20) (by omega) (by decide)), show (10 : Int32) = nI 10 from rfl, pk_sub (by omega), nI_2, if_pos (bd_nI (by omega) (by decide)), nI_clamp (by omega), (hx.2.1 (y - 10) (by omega)).1, if_neg (by omega), if_neg (by omega), if_pos (by omega)]
  · rw [if_neg (show ¬ nI y = 0 from nI_ne0 (by omega) (by omega)), if_neg (show ¬ nI y = 1 from fun q => by have := (nI_eq (a := y) (b := 1) (by omega) (by decide)).mp q; omega), if_pos (show 20 ≤ nI y from nI_le (a := 20) (by omega) (by omega)), show (20 : Int32) = nI 20 from rfl, pk_sub (by omega), nI_2, nI_1, if_pos (bd_nI (by omega) (by decide)), nI_clamp (by omega), (hx.2.1 (y - 20) (by omega)).2, if_neg (by omega), if_neg (by omega), if_neg (by omega)]
theorem e_runM {m y : Nat} (hm : m ≤ 40) (hx : IM S A G tb T n by' ik AK GK so sz ce) (hr : IR A G tb T n by' ik AK GK so sz) (hy : y = 0 ∨ y = 1 ∨ (10 ≤ y ∧ y < 10 + G) ∨ (20 ≤ y ∧ y < 20 + G)) : ∃ S', it_bi (f_X6_keeps κ S) (fun _ S7 => it_bi (f_X6_goes κ (nI m) S7) (fun _ S9 => it_bi (f_X6_toldBehind κ (nI y) S9) (fun r12 S11 => it_bi (f_X6_lays κ S11) (fun _ S13 => some (r12, S13))))) = some (sp_tell G (sp_days tb G m A) y, S') ∧ IM S' A G tb T n by' ik AK GK so sz ce ∧ gX S S' := by
  obtain ⟨S1, a1, a2⟩ := (QM.start hx).keeps (κ := κ)
  obtain ⟨S2, b1, b2⟩ := a2.goes (κ := κ) (m := m) (by omega) hr.2.2.1 hr.1
  obtain ⟨S3, c1, c2⟩ := b2.lays (κ := κ) (sm.refl A).days
  exact ⟨S3, by rw [a1, it_bi_some, b1, it_bi_some, e_toldBehind b2.2.1 (hR.days m A hr.1) hy, it_bi_some, c1, it_bi_some], c2.fin hx, c2.gX⟩
theorem q_run (x y : Int32) : Eqv κ (f_X5_run κ x y) (f_X6_run κ x y) := Eqv.ask fun A G tb T n by' ik AK GK so sz ce hr => by
  have hG := hr.1.2.1
  have hm1 : it_bd (-1) G = false := bd_f (by omega) (by rw [show (-1 : Int32).toInt = -1 by decide]; omega)
  have hone : ∀ (κ : it_KK) (S : it_SS), f_X5_oneOf κ y S = some (if sp_in y 10 29 = true then y - y / 10 * 10 else -1, S) := fun κ S => by
    rw [f_X5_oneOf, e_isOutside, it_bi_some]
    cases sp_in y 10 29 <;> rfl
  have a9 : ∀ {S : it_SS}, S 45 0 = nI G → 9 + S 45 0 = nI (9 + G) := fun h => by rw [h, show (9 : Int32) = nI 9 from rfl, nI_add]
  have a19 : ∀ {S : it_SS}, S 45 0 = nI G → 19 + S 45 0 = nI (19 + G) := fun h => by rw [h, show (19 : Int32) = nI 19 from rfl, nI_add]
  -- who is asked of, and whether the call stands
  by_cases hgood : ∃ Y, y = nI Y ∧ (Y = 0 ∨ Y = 1 ∨ (10 ≤ Y ∧ Y < 10 + G) ∨ (20 ≤ Y ∧ Y < 20 + G))
  · obtain ⟨Y, rfl, hY⟩ := hgood
    have k1 : sp_in (nI Y) 0 1 = decide (Y ≤ 1) := by rw [show (1 : Int32) = nI 1 from rfl, show (0 : Int32) = nI 0 from rfl, in_nn (by omega) (by omega) (by omega)]; simp
    have k2 : sp_in (nI Y) 10 29 = decide (10 ≤ Y ∧ Y ≤ 29) := in_nn (b := 10) (c := 29) (by omega) (by omega) (by omega)
    have k3 : sp_in (nI Y) 10 (nI (9 + G)) = decide (10 ≤ Y ∧ Y ≤ 9 + G) := in_nn (b := 10) (by omega) (by omega) (by omega)
    have k4 : sp_in (nI Y) 20 (nI (19 + G)) = decide (20 ≤ Y ∧ Y ≤ 19 + G) := in_nn (b := 20) (by omega) (by omega) (by omega)
    have k5 : nI Y - nI Y / 10 * 10 = nI (Y % 10) := pk_rem (d := 10) (by omega) (by omega) (by omega)
    cases hi : sp_in x 0 40 with
    | false =>
      refine ⟨-100000, fun S h => ⟨S, ?_, h, gM.refl S⟩, fun S h => ⟨S, ?_, h, gX.refl S⟩⟩
      · simp only [f_X5_run, hone, e_isOutside, hi, bi_s, Bool.false_eq_true, ↓reduceIte, i10]
      · simp only [f_X6_run, e_in, hi, bi_s, Bool.false_eq_true, ↓reduceIte, i10, a9 (h.g hr), a19 (h.g hr), ite_self]
    | true =>
    obtain ⟨m, hm, rfl⟩ := in_nI (m := 40) (by decide) hi
    refine ⟨sp_tell G (sp_days tb G m A) Y, fun S h => ?_, fun S h => ?_⟩
    · obtain ⟨S1, a1, a2⟩ := PX.start h
      obtain ⟨S2, b1, b2⟩ := a2.pass (κ := κ) (m := m) (by omega) hr.2.2.1 hr.1
      have hr2 := hR.days (tb := tb) m A hr.1
      have h9 := (b2.fin h).g hr
      refine ⟨S2, ?_, b2.fin h, b2.gM⟩
      rcases hY with rfl | rfl | hY | hY
      · have k1' : sp_in (nI 0) 0 1 = true := by decide
        have k2' : sp_in (nI 0) 10 29 = false := by decide
        simp only [f_X5_run, hone, e_isOutside, hi, k1', k2', bi_s, Bool.false_eq_true, ↓reduceIte, i10, a1, run_f, b1, e_hasGuest h9 hG, hm1, sp_tell]
        rw [if_pos (show nI 0 = 0 from rfl), e_glassesThere b2.1 hr2, it_bi_some]
      · have k1' : sp_in (nI 1) 0 1 = true := by decide
        have k2' : sp_in (nI 1) 10 29 = false := by decide
        simp only [f_X5_run, hone, e_isOutside, hi, k1', k2', bi_s, Bool.false_eq_true, ↓reduceIte, i10, a1, run_f, b1, e_hasGuest h9 hG, hm1, sp_tell]
        rw [if_neg (show ¬ nI 1 = 0 by decide), e_moodOfAll b2.1 hr2.1 hr2.2.1, it_bi_some]
        rfl
      · have k1' : sp_in (nI Y) 0 1 = false := by rw [k1]; simp; omega
        have k2' : sp_in (nI Y) 10 29 = true := by rw [k2]; simp; omega
        have k6 : it_bd (nI (Y - 10)) G = true := bd_nI (by omega) (by omega)
        have k7 : Y % 10 = Y - 10 := by omega
        simp only [f_X5_run, hone, e_isOutside, hi, k1', k2', bi_s, Bool.false_eq_true, ↓reduceIte, i10, a1, run_f, b1, k5, k7, e_hasGuest h9 hG, e_hasGuest (h.g hr) hG, k6]
        rw [if_neg (show ¬ 20 ≤ nI Y from nI_ge (b := 20) (by omega) (by decide)), if_pos (bd_nI (show Y - 10 < 6 by omega) (by decide)), nI_clamp (by omega), (b2.1.1 (Y - 10) (by omega)).2.2.1, sp_tell, if_neg (by omega), if_neg (by omega), if_pos (by omega)]
      · have k1' : sp_in (nI Y) 0 1 = false := by rw [k1]; simp; omega
        have k2' : sp_in (nI Y) 10 29 = true := by rw [k2]; simp; omega
        have k6 : it_bd (nI (Y - 20)) G = true := bd_nI (by omega) (by omega)
        have k7 : Y % 10 = Y - 20 := by omega
        simp only [f_X5_run, hone, e_isOutside, hi, k1', k2', bi_s, Bool.false_eq_true, ↓reduceIte, i10, a1, run_f, b1, k5, k7, e_hasGuest h9 hG, e_hasGuest (h.g hr) hG, k6]
        rw [if_pos (show 20 ≤ nI Y from nI_le (a := 20) (by omega) (by omega)), if_pos (bd_nI (show Y - 20 < 6 by omega) (by decide)), nI_clamp (by omega), (b2.1.1 (Y - 20) (by omega)).2.2.2, sp_tell, if_neg (by omega), if_neg (by omega), if_neg (by omega)]
    · obtain ⟨S', e1, e2, e3⟩ := e_runM (κ := κ) hm h hr hY
      refine ⟨S', ?_, e2, e3⟩
      cases c1 : sp_in (nI Y) 0 1 with
      | true => simp only [f_X6_run, e_in, hi, c1, bi_s, Bool.false_eq_true, ↓reduceIte, i10]; exact e1
      | false =>
      cases c2 : sp_in (nI Y) 10 (nI (9 + G)) with
      | true => simp only [f_X6_run, e_in, hi, c1, a9 (h.g hr), c2, bi_s, Bool.false_eq_true, ↓reduceIte, i10]; exact e1
      | false =>
      cases c3 : sp_in (nI Y) 20 (nI (19 + G)) with
      | true => simp only [f_X6_run, e_in, hi, c1, a9 (h.g hr), a19 (h.g hr), c2, c3, bi_s, Bool.false_eq_true, ↓reduceIte, i10]; exact e1
      | false =>
        rw [k1] at c1
        rw [k3] at c2
        rw [k4] at c3
        simp only [decide_eq_false_iff_not] at c1 c2 c3
        omega
  · have c1 : sp_in y 0 1 = false := by
      cases e : sp_in y 0 1 with
      | false => rfl
      | true =>
        rcases in_01 e with rfl | rfl
        · exact absurd ⟨0, rfl, Or.inl rfl⟩ hgood
        · exact absurd ⟨1, rfl, Or.inr (Or.inl rfl)⟩ hgood
    have c2 : sp_in y 10 (nI (9 + G)) = false := by
      cases e : sp_in y 10 (nI (9 + G)) with
      | false => rfl
      | true =>
        have e' := e
        simp only [sp_in, Bool.and_eq_true, decide_eq_true_eq] at e'
        obtain ⟨j, hj, rfl⟩ := in_nI (m := 9 + G) (by omega) (by simp only [sp_in, Bool.and_eq_true, decide_eq_true_eq]; exact ⟨Int32.le_trans (by decide) e'.1, e'.2⟩)
        have := (nI_leI (a := 10) (by decide) (by omega)).mp e'.1
        exact absurd ⟨j, rfl, Or.inr (Or.inr (Or.inl ⟨this, by omega⟩))⟩ hgood
    have c3 : sp_in y 20 (nI (19 + G)) = false := by
      cases e : sp_in y 20 (nI (19 + G)) with
      | false => rfl
      | true =>
        have e' := e
        simp only [sp_in, Bool.and_eq_true, decide_eq_true_eq] at e'
        obtain ⟨j, hj, rfl⟩ := in_nI (m := 19 + G) (by omega) (by simp only [sp_in, Bool.and_eq_true, decide_eq_true_eq]; exact ⟨Int32.le_trans (by decide) e'.1, e'.2⟩)
        have := (nI_leI (a := 20) (by decide) (by omega)).mp e'.1
        exact absurd ⟨j, rfl, Or.inr (Or.inr (Or.inr ⟨this, by omega⟩))⟩ hgood
    have c4 : it_bd (if sp_in y 10 29 = true then y - y / 10 * 10 else -1) G = false := by
      cases e : sp_in y 10 29 with
      | false => exact hm1
      | true =>
        have e' := e
        simp only [sp_in, Bool.and_eq_true, decide_eq_true_eq] at e'
        obtain ⟨j, hj, rfl⟩ := in_nI (m := 29) (by omega) (by simp only [sp_in, Bool.and_eq_true, decide_eq_true_eq]; exact ⟨Int32.le_trans (by decide) e'.1, e'.2⟩)
        have h10 := (nI_leI (a := 10) (by decide) (by omega)).mp e'.1
        rw [if_pos rfl, show nI j - nI j / 10 * 10 = nI (j % 10) from pk_rem (d := 10) (by omega) (by omega) (by omega), bd_nn (by omega) (by omega)]
        simp only [decide_eq_false_iff_not]
        intro hlt
        rcases Nat.lt_or_ge j 20 with q | q
        · exact hgood ⟨j, rfl, Or.inr (Or.inr (Or.inl ⟨h10, by omega⟩))⟩
        · exact hgood ⟨j, rfl, Or.inr (Or.inr (Or.inr ⟨q, by omega⟩))⟩
    refine ⟨-100000, fun S h => ⟨S, ?_, h, gM.refl S⟩, fun S h => ⟨S, ?_, h, gX.refl S⟩⟩
    · simp only [f_X5_run, hone, e_isOutside, it_bi_some]
      cases hi : sp_in x 0 40 with
      | false => simp only [bi_s, Bool.false_eq_true, ↓reduceIte, i10]
      | true => simp only [c1, bi_s, Bool.false_eq_true, ↓reduceIte, i10, e_hasGuest (h.g hr) hG, c4]
    · simp only [f_X6_run, e_in, c1, a9 (h.g hr), a19 (h.g hr), c2, c3, bi_s, Bool.false_eq_true, ↓reduceIte, i10, ite_self]
/-! when does it go off -/
def sp_go (tb : Nat → Nat → List Nat) (G g : Nat) : Nat → Nat → it_SS → Int32
  | 0, _, _ => -1
  | k + 1, i, B => if sp_day tb G B 6 g = -1 then nI i else sp_go tb G g k (i + 1) (sp_day tb G B)
theorem e_goesOff_loop {g : Nat} {kont : it_SS → Option (Int32 × it_SS)} (hk : ∀ S, kont S = some (-1, S)) (ht : sp_tb tb T) (hg : g < 10) : ∀ (k i n : Nat) (S B : it_SS), i + k = 61 → k < n → PX κ tb T S0 S B → hR B G T → ∃ S' B', lp_X5_goesOff_20 κ (nI g) kont n (nI i) S = some (sp_go tb G g k i B, S') ∧ PX κ tb T S0 S' B' := by
  intro k
  induction k with
  | zero =>
    intro i n S B hi hn hp hr
    obtain ⟨n, rfl⟩ : ∃ q, n = q + 1 := ⟨n - 1, by omega⟩
    obtain rfl : i = 61 := by omega
    exact ⟨S, B, by rw [lp_X5_goesOff_20, if_pos (show (60 : Int32) < nI 61 by decide), hk]; rfl, hp⟩
  | succ k ih =>
    intro i n S B hi hn hp hr
    obtain ⟨n, rfl⟩ : ∃ q, n = q + 1 := ⟨n - 1, by omega⟩
    obtain ⟨S1, a1, a2⟩ := hp.day (κ := κ) ht hr
    rw [lp_X5_goesOff_20, if_neg (show ¬ 60 < nI i from nI_nlt (a := 60) (by omega) (by decide)), a1, it_bi_some, e_hasGlass a2.1 hr.day, it_bi_some, th_nI hg, nI_1, sp_go]
    by_cases q : sp_day tb G B 6 g = -1
    · rw [if_pos q, show (if (decide (¬ sp_day tb G B 6 g = -1)) = true then (1 : Int32) else 0) = 0 by simp [q], if_pos rfl]
      exact ⟨S1, _, rfl, a2⟩
    · rw [if_neg q, show (if (decide (¬ sp_day tb G B 6 g = -1)) = true then (1 : Int32) else 0) = 1 by simp [q], if_neg (by decide)]
      exact ih (i + 1) n S1 _ (by omega) (by omega) a2 hr.day
theorem e_goesOffM_loop {g : Nat} {kont : Int32 → it_SS → Option (Int32 × it_SS)} (ht : sp_tb tb T) (hg : g < 10) : ∀ (k i n : Nat) (S B : it_SS), i + k = 61 → k + 1 < n → PM tb T S0 S A B G → hR B G T → sm A B → ¬ B 6 g = -1 → ∃ S' B', lp_X6_goesOff_19 κ (nI g) kont n (-1) (nI i) S = kont (sp_go tb G g k i B) S' ∧ PM tb T S0 S' A B' G ∧ sm A B' := by
  intro k
  induction k with
  | zero =>
    intro i n S B hi hn hp hr hs h6
    obtain ⟨n, rfl⟩ : ∃ q, n = q + 1 := ⟨n - 1, by omega⟩
    obtain rfl : i = 61 := by omega
    exact ⟨S, B, by rw [lp_X6_goesOff_19, if_pos (show (60 : Int32) < nI 61 by decide)]; rfl, hp, hs⟩
  | succ k ih =>
    intro i n S B hi hn hp hr hs h6
    obtain ⟨n, rfl⟩ : ∃ q, n = q + 1 := ⟨n - 1, by omega⟩
    obtain ⟨S1, a1, a2⟩ := hp.day (κ := κ) ht hr
    obtain ⟨w1, b1, b2, b3⟩ := off_bits tb B G
    rw [lp_X6_goesOff_19, if_neg (show ¬ 60 < nI i from nI_nlt (a := 60) (by omega) (by decide)), if_pos rfl, a1, it_bi_some, b1, bit_at b2 hg, b3 g hg, nI_1, sp_go]
    by_cases q : sp_day tb G B 6 g = -1
    · rw [if_pos q, if_pos (show (decide (¬ B 6 g = -1) && decide (sp_day tb G B 6 g = -1)) = true by simp [h6, q]), if_pos rfl]
      obtain ⟨n, rfl⟩ : ∃ q, n = q + 1 := ⟨n - 1, by omega⟩
      refine ⟨S1, _, ?_, a2, hs.day⟩
      rw [lp_X6_goesOff_19, if_neg (nI_nm1 (p := i) (by omega))]
      split <;> rfl
    · rw [if_neg q, if_neg (show ¬ (decide (¬ B 6 g = -1) && decide (sp_day tb G B 6 g = -1)) = true by simp [h6, q]), if_neg (by decide)]
      exact ih (i + 1) n S1 _ (by omega) (by omega) a2 hr.day hs.day q
theorem q_goesOff (x : Int32) : Eqv κ (f_X5_goesOff κ x) (f_X6_goesOff κ x) := Eqv.ask fun A G tb T n by' ik AK GK so sz ce hr => by
  cases ht : sp_th A x with
  | false =>
    refine ⟨-6, fun S h => ⟨S, ?_, h, gM.refl S⟩, fun S h => ⟨S, ?_, h, gX.refl S⟩⟩
    · simp only [f_X5_goesOff, e_hasGlass h.1 hr.1, ht, bi_s, Bool.false_eq_true, ↓reduceIte, i10]
    · simp only [f_X6_goesOff, e_isThere h.1, ht, bi_s, Bool.false_eq_true, ↓reduceIte, i10]
  | true =>
  obtain ⟨g, hg, rfl, h6⟩ := th_of ht
  refine ⟨sp_go tb G g 60 1 A, fun S h => ?_, fun S h => ?_⟩
  · obtain ⟨S1, a1, a2⟩ := PX.start h
    obtain ⟨S2, B, b1, b2⟩ := e_goesOff_loop (κ := κ) (kont := fun S9 => some (-1, S9)) (fun _ => rfl) hr.2.2.1 hg 60 1 it_FU S1 A rfl (by decide) a2 hr.1
    refine ⟨S2, ?_, b2.fin h, b2.gM⟩
    simp only [f_X5_goesOff, e_hasGlass h.1 hr.1, ht, bi_s, Bool.false_eq_true, ↓reduceIte, i10, a1]
    rw [show lp_X5_goesOff_20 κ (nI g) (fun S9 => some (-1, S9)) it_FU 1 S1 = _ from b1]
  · obtain ⟨S1, a1, a2⟩ := (QM.start h).keeps (κ := κ)
    obtain ⟨S2, B, b1, b2, b3⟩ := e_goesOffM_loop (κ := κ) (kont := fun v12 S13 => it_bi (f_X6_lays κ S13) (fun _ S14 => some (v12, S14))) hr.2.2.1 hg 60 1 it_FU S1 A rfl (by decide) a2 hr.1 (sm.refl A) h6
    obtain ⟨S3, c1, c2⟩ := b2.lays (κ := κ) b3
    refine ⟨S3, ?_, c2.fin h, c2.gX⟩
    simp only [f_X6_goesOff, e_isThere h.1, ht, bi_s, Bool.false_eq_true, ↓reduceIte, i10, a1]
    rw [show lp_X6_goesOff_19 κ (nI g) (fun v12 S13 => it_bi (f_X6_lays κ S13) (fun _ S14 => some (v12, S14))) it_FU (-1) 1 S1 = _ from b1, c1, it_bi_some]
/-! the worst day -/
def sp_ws (tb : Nat → Nat → List Nat) (G p : Nat) : Nat → Nat → it_SS → Int32 → Int32 → Int32 × Int32
  | 0, _, _, m, w => (m, w)
  | k + 1, i, B, m, w => if B 4 p - sp_day tb G B 4 p ≤ m then sp_ws tb G p k (i + 1) (sp_day tb G B) m w else sp_ws tb G p k (i + 1) (sp_day tb G B) (B 4 p - sp_day tb G B 4 p) (nI i)
theorem e_worst_loop {p e : Nat} {x3 : Int32} {kont : Int32 → Int32 → it_SS → Option (Int32 × it_SS)} (ht : sp_tb tb T) (hp : p < G) (he : e ≤ 40) : ∀ (k i n : Nat) (m w : Int32) (S B : it_SS), i + k = e + 1 → k < n → PX κ tb T S0 S B → hR B G T → ∃ S' B', lp_X5_worst_49 κ (nI p) (nI e) x3 kont n m w (nI i) S = kont (sp_ws tb G p k i B m w).1 (sp_ws tb G p k i B m w).2 S' ∧ PX κ tb T S0 S' B' := by
  intro k
  induction k with
  | zero =>
    intro i n m w S B hi hn hp' hr
    obtain ⟨n, rfl⟩ : ∃ q, n = q + 1 := ⟨n - 1, by omega⟩
    obtain rfl : i = e + 1 := by omega
    exact ⟨S, B, by rw [lp_X5_worst_49, if_pos (nI_lt (by omega) (by omega))]; rfl, hp'⟩
  | succ k ih =>
    intro i n m w S B hi hn hp' hr
    obtain ⟨n, rfl⟩ : ∃ q, n = q + 1 := ⟨n - 1, by omega⟩
    have hG := hr.2.1
    obtain ⟨S1, a1, a2⟩ := hp'.day (κ := κ) ht hr
    rw [lp_X5_worst_49, if_neg (nI_nlt (by omega) (by omega)), if_pos (bd_nI (show p < 6 by omega) (by decide)), a1, it_bi_some, nI_clamp (by omega), (hp'.1.1 p (by omega)).2.2.1, (a2.1.1 p (by omega)).2.2.1, nI_1, sp_ws]
    by_cases q : B 4 p - sp_day tb G B 4 p ≤ m
    · rw [if_pos q, if_pos q]
      exact ih (i + 1) n m w S1 _ (by omega) (by omega) a2 hr.day
    · rw [if_neg q, if_neg q]
      exact ih (i + 1) n _ _ S1 _ (by omega) (by omega) a2 hr.day
theorem e_worstM_loop {p e : Nat} {x3 : Int32} {kont : Int32 → Int32 → it_SS → Option (Int32 × it_SS)} (ht : sp_tb tb T) (hp : p < G) (he : e ≤ 40) : ∀ (k i n : Nat) (m w : Int32) (S B : it_SS), i + k = e + 1 → k < n → PM tb T S0 S A B G → hR B G T → sm A B → ∃ S' B', lp_X6_worst_46 κ (nI p) (nI e) x3 kont n w m (nI i) S = kont (sp_ws tb G p k i B m w).2 (sp_ws tb G p k i B m w).1 S' ∧ PM tb T S0 S' A B' G ∧ sm A B' := by
  intro k
  induction k with
  | zero =>
    intro i n m w S B hi hn hp' hr hs
    obtain ⟨n, rfl⟩ : ∃ q, n = q + 1 := ⟨n - 1, by omega⟩
    obtain rfl : i = e + 1 := by omega
    exact ⟨S, B, by rw [lp_X6_worst_46, if_pos (nI_lt (by omega) (by omega))]; rfl, hp', hs⟩
  | succ k ih =>
    intro i n m w S B hi hn hp' hr hs
    obtain ⟨n, rfl⟩ : ∃ q, n = q + 1 := ⟨n - 1, by omega⟩
    have hG := hr.2.1
    obtain ⟨S1, a1, a2⟩ := hp'.day (κ := κ) ht hr
    rw [lp_X6_worst_46, if_neg (nI_nlt (by omega) (by omega)), nI_2, if_pos (bd_nI (show 2 * p < 12 by omega) (by decide)), a1, it_bi_some, nI_clamp (by omega), (hp'.2.1.2.1 p (by omega)).1, (a2.2.1.2.1 p (by omega)).1, nI_1, sp_ws]
    by_cases q : B 4 p - sp_day tb G B 4 p ≤ m
    · rw [if_pos q, if_pos q, if_pos q]
      exact ih (i + 1) n m w S1 _ (by omega) (by omega) a2 hr.day hs.day
    · rw [if_neg q, if_neg q, if_neg q]
      exact ih (i + 1) n _ _ S1 _ (by omega) (by omega) a2 hr.day hs.day
theorem q_worst (x y z : Int32) : Eqv κ (f_X5_worst κ x y z) (f_X6_worst κ x y z) := Eqv.ask fun A G tb T n by' ik AK GK so sz ce hr => by
  cases hb : it_bd x G with
  | false =>
    refine ⟨-5, fun S h => ⟨S, ?_, h, gM.refl S⟩, fun S h => ⟨S, ?_, h, gX.refl S⟩⟩
    · simp only [f_X5_worst, e_hasGuest (h.g hr) hr.1.2.1, hb, bi_s, Bool.false_eq_true, ↓reduceIte, i10]
    · simp only [f_X6_worst, e_isOne (h.g hr) hr.1.2.1, hb, bi_s, Bool.false_eq_true, ↓reduceIte, i10]
  | true =>
  cases hy : sp_in y 1 40 with
  | false =>
    refine ⟨-7, fun S h => ⟨S, ?_, h, gM.refl S⟩, fun S h => ⟨S, ?_, h, gX.refl S⟩⟩
    · simp only [f_X5_worst, e_hasGuest (h.g hr) hr.1.2.1, e_isOutside, hy, hb, bi_s, Bool.false_eq_true, ↓reduceIte, i10]
    · simp only [f_X6_worst, e_isOne (h.g hr) hr.1.2.1, e_in, hy, hb, bi_s, Bool.false_eq_true, ↓reduceIte, i10]
  | true =>
  cases hz : sp_in z 0 1 with
  | false =>
    refine ⟨-7, fun S h => ⟨S, ?_, h, gM.refl S⟩, fun S h => ⟨S, ?_, h, gX.refl S⟩⟩
    · simp only [f_X5_worst, e_hasGuest (h.g hr) hr.1.2.1, e_isOutside, hy, hz, hb, bi_s, Bool.false_eq_true, ↓reduceIte, i10]
    · simp only [f_X6_worst, e_isOne (h.g hr) hr.1.2.1, e_in, hy, hz, hb, bi_s, Bool.false_eq_true, ↓reduceIte, i10]
  | true =>
  obtain ⟨p, hp, rfl⟩ := bd_of hb
  obtain ⟨e, he1, he, rfl⟩ := in_1 (m := 40) (by decide) hy
  refine ⟨if z = 0 then (sp_ws tb G p e 1 A 0 (-1)).2 else (sp_ws tb G p e 1 A 0 (-1)).1, fun S h => ?_, fun S h => ?_⟩
  · obtain ⟨S1, a1, a2⟩ := PX.start h
    obtain ⟨S2, B, b1, b2⟩ := e_worst_loop (κ := κ) (x3 := z) (kont := fun v17 v18 S19 => if z = 0 then some (v18, S19) else some (v17, S19)) hr.2.2.1 hp he e 1 it_FU 0 (-1) S1 A (by omega) (by show e < 100000; omega) a2 hr.1
    refine ⟨S2, ?_, b2.fin h, b2.gM⟩
    simp only [f_X5_worst, e_hasGuest (h.g hr) hr.1.2.1, e_isOutside, hy, hz, hb, bi_s, Bool.false_eq_true, ↓reduceIte, i10, a1]
    exact b1.trans (by split <;> rfl)
  · obtain ⟨S1, a1, a2⟩ := (QM.start h).keeps (κ := κ)
    obtain ⟨S2, B, b1, b2, b3⟩ := e_worstM_loop (κ := κ) (x3 := z) (kont := fun v19 v20 S21 => it_bi (f_X6_lays κ S21) (fun _ S22 => if z = 0 then some (v19, S22) else some (v20, S22))) hr.2.2.1 hp he e 1 it_FU 0 (-1) S1 A (by omega) (by show e < 100000; omega) a2 hr.1 (sm.refl A)
    obtain ⟨S3, c1, c2⟩ := b2.lays (κ := κ) b3
    refine ⟨S3, ?_, c2.fin h, c2.gX⟩
    simp only [f_X6_worst, e_isOne (h.g hr) hr.1.2.1, e_in, hy, hz, hb, bi_s, Bool.false_eq_true, ↓reduceIte, i10, a1]
    rw [show lp_X6_worst_46 κ (nI p) (nI e) z _ it_FU (-1) 0 1 S1 = _ from b1, c1, it_bi_some]
    split <;> rfl
/-! who is below -/
def sp_bl (x : Int32) : Nat → Nat → it_SS → Int32 → Int32
  | 0, _, _, b => b
  | k + 1, p, A, b => sp_bl x k (p + 1) A (if x ≤ A 4 p then b else b ||| (1 <<< (nI p &&& 31)))
theorem e_below_loop {x : Int32} {u : Nat} {kont : Int32 → it_SS → Option (Int32 × it_SS)} (hx : hX S u A) (h1 : A 1 0 = nI G) (hG : G ≤ 6) : ∀ (k p n : Nat) (b : Int32), p + k = G → k < n → lp_X0_guestsBelow_4 κ u x kont n b (nI p) S = kont (sp_bl x k p A b) S := by
  intro k
  induction k with
  | zero =>
    intro p n b hp hn
    obtain ⟨n, rfl⟩ : ∃ q, n = q + 1 := ⟨n - 1, by omega⟩
    obtain rfl : p = G := by omega
    rw [lp_X0_guestsBelow_4, hx.2.2.1, h1, if_pos (Int32.le_refl _)]
    rfl
  | succ k ih =>
    intro p n b hp hn
    obtain ⟨n, rfl⟩ : ∃ q, n = q + 1 := ⟨n - 1, by omega⟩
    rw [lp_X0_guestsBelow_4, hx.2.2.1, h1, if_neg (nI_ge (by omega) (by omega)), if_pos (bd_nI (by omega) (by decide)), nI_clamp (by omega), (hx.1 p (by omega)).2.2.1, nI_1, sp_bl]
    by_cases q : x ≤ A 4 p
    · rw [if_pos q, if_pos q]; exact ih (p + 1) n _ (by omega) (by omega)
    · rw [if_neg q, if_neg q]; exact ih (p + 1) n _ (by omega) (by omega)
theorem e_guestsBelow {x : Int32} {u : Nat} (hx : hX S u A) (h1 : A 1 0 = nI G) (hG : G ≤ 6) : f_X0_guestsBelow κ u x S = some (sp_bl x G 0 A 0, S) := by
  rw [f_X0_guestsBelow]
  exact e_below_loop hx h1 hG G 0 it_FU 0 (by omega) (by show G < 100000; omega)
theorem e_belowM_loop {x : Int32} {kont : Int32 → it_SS → Option (Int32 × it_SS)} (hx : hM S A G) (h1 : A 1 0 = nI G) (hG : G ≤ 6) : ∀ (k p n : Nat) (b : Int32), p + k = G → k < n → lp_X6_belowSet_4 κ x kont n b (nI p) S = kont (sp_bl x k p A b) S := by
  intro k
  induction k with
  | zero =>
    intro p n b hp hn
    obtain ⟨n, rfl⟩ : ∃ q, n = q + 1 := ⟨n - 1, by omega⟩
    obtain rfl : p = G := by omega
    rw [lp_X6_belowSet_4, hx.2.2.2.1, h1, if_pos (Int32.le_refl _)]
    rfl
  | succ k ih =>
    intro p n b hp hn
    obtain ⟨n, rfl⟩ : ∃ q, n = q + 1 := ⟨n - 1, by omega⟩
    rw [lp_X6_belowSet_4, hx.2.2.2.1, h1, if_neg (nI_ge (by omega) (by omega)), nI_2, if_pos (bd_nI (by omega) (by decide)), nI_clamp (by omega), (hx.2.1 p (by omega)).1, nI_1, sp_bl]
    by_cases q : x ≤ A 4 p
    · rw [if_pos q, if_pos q, or_z]; exact ih (p + 1) n _ (by omega) (by omega)
    · rw [if_neg q, if_neg q]; exact ih (p + 1) n _ (by omega) (by omega)
theorem e_belowSet {x : Int32} (hx : hM S A G) (h1 : A 1 0 = nI G) (hG : G ≤ 6) : f_X6_belowSet κ x S = some (sp_bl x G 0 A 0, S) := by
  rw [f_X6_belowSet]
  exact e_belowM_loop hx h1 hG G 0 it_FU 0 (by omega) (by show G < 100000; omega)
def sp_fl (tb : Nat → Nat → List Nat) (G : Nat) (x : Int32) : Nat → it_SS → Int32 → Int32
  | 0, _, c => c
  | k + 1, B, c => sp_fl tb G x k (sp_day tb G B) (c ||| sp_bl x G 0 (sp_day tb G B) 0)
theorem e_falls_loop {x : Int32} {e : Nat} {kont : Int32 → it_SS → Option (Int32 × it_SS)} (ht : sp_tb tb T) (he : e ≤ 40) : ∀ (k i n : Nat) (c : Int32) (S B : it_SS), i + k = e → k < n → PX κ tb T S0 S B → hR B G T → ∃ S' B', lp_X5_falls_40 κ (nI e) x kont n c (nI i) S = kont (sp_fl tb G x k B c) S' ∧ PX κ tb T S0 S' B' := by
  intro k
  induction k with
  | zero =>
    intro i n c S B hi hn hp hr
    obtain ⟨n, rfl⟩ : ∃ q, n = q + 1 := ⟨n - 1, by omega⟩
    obtain rfl : i = e := by omega
    exact ⟨S, B, by rw [lp_X5_falls_40, if_pos (Int32.le_refl _)]; rfl, hp⟩
  | succ k ih =>
    intro i n c S B hi hn hp hr
    obtain ⟨n, rfl⟩ : ∃ q, n = q + 1 := ⟨n - 1, by omega⟩
    obtain ⟨S1, a1, a2⟩ := hp.day (κ := κ) ht hr
    rw [lp_X5_falls_40, if_neg (nI_ge (by omega) (by omega)), a1, it_bi_some, e_guestsBelow a2.1 hr.day.1 hr.2.1, it_bi_some, nI_1, sp_fl]
    exact ih (i + 1) n _ S1 _ (by omega) (by omega) a2 hr.day
theorem e_fallsM_loop {x : Int32} {e : Nat} {kont : Int32 → it_SS → Option (Int32 × it_SS)} (ht : sp_tb tb T) (he : e ≤ 40) : ∀ (k i n : Nat) (c : Int32) (S B : it_SS), i + k = e → k < n → PM tb T S0 S A B G → hR B G T → sm A B → ∃ S' B', lp_X6_falls_37 κ (nI e) x kont n c (nI i) S = kont (sp_fl tb G x k B c) S' ∧ PM tb T S0 S' A B' G ∧ sm A B' := by
  intro k
  induction k with
  | zero =>
    intro i n c S B hi hn hp hr hs
    obtain ⟨n, rfl⟩ : ∃ q, n = q + 1 := ⟨n - 1, by omega⟩
    obtain rfl : i = e := by omega
    exact ⟨S, B, by rw [lp_X6_falls_37, if_pos (Int32.le_refl _)]; rfl, hp, hs⟩
  | succ k ih =>
    intro i n c S B hi hn hp hr hs
    obtain ⟨n, rfl⟩ : ∃ q, n = q + 1 := ⟨n - 1, by omega⟩
    obtain ⟨S1, a1, a2⟩ := hp.day (κ := κ) ht hr
    rw [lp_X6_falls_37, if_neg (nI_ge (by omega) (by omega)), a1, it_bi_some, e_belowSet a2.2.1 hr.day.1 hr.2.1, it_bi_some, nI_1, sp_fl]
    exact ih (i + 1) n _ S1 _ (by omega) (by omega) a2 hr.day hs.day
theorem q_falls (x y : Int32) : Eqv κ (f_X5_falls κ x y) (f_X6_falls κ x y) := Eqv.ask fun A G tb T n by' ik AK GK so sz ce hr => by
  cases hx : sp_in x 0 40 with
  | false =>
    refine ⟨-2, fun S h => ⟨S, ?_, h, gM.refl S⟩, fun S h => ⟨S, ?_, h, gX.refl S⟩⟩
    · simp only [f_X5_falls, e_isOutside, hx, bi_s, Bool.false_eq_true, ↓reduceIte, i10]
    · simp only [f_X6_falls, e_in, hx, bi_s, Bool.false_eq_true, ↓reduceIte, i10]
  | true =>
  cases hy : sp_in y (-99) 99 with
  | false =>
    refine ⟨-2, fun S h => ⟨S, ?_, h, gM.refl S⟩, fun S h => ⟨S, ?_, h, gX.refl S⟩⟩
    · simp only [f_X5_falls, e_isOutside, hx, hy, bi_s, Bool.false_eq_true, ↓reduceIte, i10]
    · simp only [f_X6_falls, e_in, hx, hy, bi_s, Bool.false_eq_true, ↓reduceIte, i10]
  | true =>
  obtain ⟨e, he, rfl⟩ := in_nI (m := 40) (by decide) hx
  refine ⟨sp_fl tb G y e A (sp_bl y G 0 A 0), fun S h => ?_, fun S h => ?_⟩
  · obtain ⟨S1, a1, a2⟩ := PX.start h
    obtain ⟨S2, B, b1, b2⟩ := e_falls_loop (κ := κ) (x := y) (kont := fun v16 S17 => some (v16, S17)) hr.2.2.1 he e 0 it_FU (sp_bl y G 0 A 0) S1 A (by omega) (by show e < 100000; omega) a2 hr.1
    refine ⟨S2, ?_, b2.fin h, b2.gM⟩
    simp only [f_X5_falls, e_isOutside, hx, hy, bi_s, Bool.false_eq_true, ↓reduceIte, i10, a1, e_guestsBelow a2.1 hr.1.1 hr.1.2.1]
    rw [show lp_X5_falls_40 κ (nI e) y (fun v16 S17 => some (v16, S17)) it_FU _ 0 S1 = _ from b1]
  · obtain ⟨S1, a1, a2⟩ := (QM.start h).keeps (κ := κ)
    obtain ⟨S2, B, b1, b2, b3⟩ := e_fallsM_loop (κ := κ) (x := y) (kont := fun v16 S17 => it_bi (f_X6_lays κ S17) (fun _ S18 => some (v16, S18))) hr.2.2.1 he e 0 it_FU (sp_bl y G 0 A 0) S1 A (by omega) (by show e < 100000; omega) a2 hr.1 (sm.refl A)
    obtain ⟨S3, c1, c2⟩ := b2.lays (κ := κ) b3
    refine ⟨S3, ?_, c2.fin h, c2.gX⟩
    simp only [f_X6_falls, e_in, hx, hy, bi_s, Bool.false_eq_true, ↓reduceIte, i10, e_belowSet h.1 hr.1.1 hr.1.2.1, a1]
    rw [show lp_X6_falls_37 κ (nI e) y _ it_FU _ 0 S1 = _ from b1, c1, it_bi_some]
end OPS5
