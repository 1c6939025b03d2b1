section COPY
variable {κ : it_KK} {S S' S0 A B : it_SS} {G : Nat} {tb : Nat → Nat → List Nat} {T n : Nat} {by' : Nat → Int32} {ik : Int32} {AK : it_SS} {GK : Nat} {so sz : Nat → Int32} {ce : it_SS}
/-! numbers of a sheet come to another place -/
theorem e_copyF_loop {a b m : Nat} {x1 x2 x3 x4 : Int32} {kont : it_SS → Option (Int32 × it_SS)} (hba : b ≤ a) (ha : a + m ≤ 160) (hb : b + m ≤ 160) : ∀ (k i f : Nat) (S : it_SS), i + k = m → k < f → (∀ q, S 57 q = va_cpy (S0 57) (S0 57) a b i q) → (∀ c, c ≠ 57 → S c = S0 c) → ∃ S', lp_X6_copy_147 κ x1 x2 x3 x4 (nI m) kont f (nI a) (nI b) (nI i) S = kont S' ∧ (∀ q, S' 57 q = va_cpy (S0 57) (S0 57) a b m q) ∧ ∀ c, c ≠ 57 → S' c = S0 c := by
  intro k
  induction k with
  | zero =>
    intro i f S hi hf h h'
    obtain ⟨f, rfl⟩ : ∃ m, f = m + 1 := ⟨f - 1, by omega⟩
    obtain rfl : i = m := by omega
    exact ⟨S, by rw [lp_X6_copy_147, if_pos (Int32.le_refl _)], h, h'⟩
  | succ k ih =>
    intro i f S hi hf h h'
    obtain ⟨f, rfl⟩ : ∃ m, f = m + 1 := ⟨f - 1, by omega⟩
    rw [lp_X6_copy_147, if_neg (nI_ge (by omega) (by omega)), if_pos (nI_le hba (by omega)), nI_add, nI_add, if_pos (bd_nI (by omega) (by decide)), if_pos (bd_nI (by omega) (by decide)), nI_clamp (by omega), nI_clamp (by omega), nI_1]
    refine ih (i + 1) f (it_up S 57 (b + i) (S 57 (a + i))) (by omega) (by omega) (fun q => ?_) (fun c hc => by rw [it_up_ne hc]; exact h' c hc)
    rw [it_up_eq, upd, h (a + i), pk_cpy_out (by omega), h q]
    by_cases e : q = b + i
    · rw [if_pos e, pk_cpy_in (by omega) (by omega), e, show a + (b + i - b) = a + i by omega]
    · rw [if_neg e]
      by_cases e2 : b ≤ q ∧ q < b + i
      · rw [pk_cpy_in e2.1 e2.2, pk_cpy_in e2.1 (by omega)]
      · rw [pk_cpy_out (by omega), pk_cpy_out (by omega)]
theorem e_copyB_loop {a b m : Nat} {x1 x2 x3 x4 : Int32} {kont : it_SS → Option (Int32 × it_SS)} (hba : a < b) (ha : a + m ≤ 160) (hb : b + m ≤ 160) : ∀ (k i f : Nat) (S : it_SS), i + k = m → k < f → (∀ q, S 57 q = if b + k ≤ q ∧ q < b + m then S0 57 (a + (q - b)) else S0 57 q) → (∀ c, c ≠ 57 → S c = S0 c) → ∃ S', lp_X6_copy_147 κ x1 x2 x3 x4 (nI m) kont f (nI a) (nI b) (nI i) S = kont S' ∧ (∀ q, S' 57 q = va_cpy (S0 57) (S0 57) a b m q) ∧ ∀ c, c ≠ 57 → S' c = S0 c := by
  intro k
  induction k with
  | zero =>
    intro i f S hi hf h h'
    obtain ⟨f, rfl⟩ : ∃ m, f = m + 1 := ⟨f - 1, by omega⟩
    obtain rfl : i = m := by omega
    exact ⟨S, by rw [lp_X6_copy_147, if_pos (Int32.le_refl _)], h, h'⟩
  | succ k ih =>
    intro i f S hi hf h h'
    obtain ⟨f, rfl⟩ : ∃ m, f = m + 1 := ⟨f - 1, by omega⟩
    have e1 : nI m - 1 - nI i = nI k := by
      rw [show nI m - 1 = nI (m - 1) from nI_s1 (by omega), pk_sub (by omega)]
      exact congrArg nI (by omega)
    rw [lp_X6_copy_147, if_neg (nI_ge (by omega) (by omega)), if_neg (nI_ge hba (by omega)), e1, nI_add, nI_add, if_pos (bd_nI (by omega) (by decide)), if_pos (bd_nI (by omega) (by decide)), nI_clamp (by omega), nI_clamp (by omega), nI_1]
    refine ih (i + 1) f (it_up S 57 (b + k) (S 57 (a + k))) (by omega) (by omega) (fun q => ?_) (fun c hc => by rw [it_up_ne hc]; exact h' c hc)
    rw [it_up_eq, upd, h (a + k), if_neg (show ¬ (b + (k + 1) ≤ a + k ∧ a + k < b + m) by omega), h q]
    by_cases e : q = b + k
    · rw [if_pos e, if_pos (by omega), e, show a + (b + k - b) = a + k by omega]
    · rw [if_neg e]
      by_cases e2 : b + k ≤ q ∧ q < b + m
      · rw [if_pos e2, if_pos (by omega)]
      · rw [if_neg e2, if_neg (by omega)]
theorem e_copyM_loop {a b m : Nat} {x1 x2 x3 x4 : Int32} {kont : it_SS → Option (Int32 × it_SS)} (ha : a + m ≤ 160) (hb : b + m ≤ 160) : ∃ S', lp_X6_copy_147 κ x1 x2 x3 x4 (nI m) kont it_FU (nI a) (nI b) 0 S = kont S' ∧ (∀ q, S' 57 q = va_cpy (S 57) (S 57) a b m q) ∧ ∀ c, c ≠ 57 → S' c = S c := by
  by_cases h : b ≤ a
  · exact e_copyF_loop (κ := κ) (S0 := S) h ha hb m 0 it_FU S (by omega) (by show m < 100000; omega) (fun q => (pk_cpy_out (by omega)).symm) (fun _ _ => rfl)
  · exact e_copyB_loop (κ := κ) (S0 := S) (by omega) ha hb m 0 it_FU S (by omega) (by show m < 100000; omega) (fun q => (if_neg (by omega)).symm) (fun _ _ => rfl)
theorem in_sub {x : Int32} {z m : Nat} (hz : z ≤ 40) (hm : m < 2 ^ 31) : sp_in x 0 (nI z - nI m) = decide (0 ≤ x.toInt ∧ x.toInt + m ≤ z) := by
  have h1 : (nI z).toInt = (z : Int) := nI_toInt (by omega)
  have h2 : (nI m).toInt = (m : Int) := nI_toInt hm
  have hs : (nI z - nI m).toInt = (z : Int) - m := by
    rw [i_sub (by rw [h1, h2]; omega) (by rw [h1, h2]; omega), h1, h2]
  rw [sp_in]
  simp only [Int32.le_iff_toInt_le, i_0, hs]
  rw [← Bool.decide_and]
  exact decide_eq_decide.mpr (by omega)
theorem q_copy (x y z w v : Int32) : Eqv κ (f_X5_copy κ x y z w v) (f_X6_copy κ x y z w v) := Eqv.of fun A G tb T n by' ik AK GK so sz ce hr => by
  cases hx : sp_in x 0 3 with
  | false =>
    refine ⟨-2, A, G, n, by', ik, AK, GK, so, sz, ce, hr, fun S h => ⟨S, ?_, h, gM.refl S⟩, fun S h => ⟨S, ?_, h, gX.refl S⟩⟩
    · simp only [f_X5_copy, e_isNoSheet, hx, bi_s, Bool.false_eq_true, ↓reduceIte, i10]
    · simp only [f_X6_copy, e_in, hx, bi_s, Bool.false_eq_true, ↓reduceIte, i10]
  | true =>
  obtain ⟨s, hs, rfl, hb4, hc⟩ := in_3 hx
  cases hz : sp_in z 0 3 with
  | false =>
    refine ⟨-2, A, G, n, by', ik, AK, GK, so, sz, ce, hr, fun S h => ⟨S, ?_, h, gM.refl S⟩, fun S h => ⟨S, ?_, h, gX.refl S⟩⟩
    · simp only [f_X5_copy, e_isNoSheet, hx, hz, bi_s, Bool.false_eq_true, ↓reduceIte, i10]
    · simp only [f_X6_copy, e_in, hx, hz, bi_s, Bool.false_eq_true, ↓reduceIte, i10]
  | true =>
  obtain ⟨t, ht, rfl, hb4', hc'⟩ := in_3 hz
  obtain ⟨-, zs, hzs, es⟩ := hr.2.2.2.2.2.2.1 s hs
  obtain ⟨-, zt, hzt, et⟩ := hr.2.2.2.2.2.2.1 t ht
  by_cases h1 : so s = -1
  · refine ⟨-11, A, G, n, by', ik, AK, GK, so, sz, ce, hr, fun S h => ⟨S, ?_, h, gM.refl S⟩, fun S h => ⟨S, ?_, h, gX.refl S⟩⟩
    · simp only [f_X5_copy, e_isNoSheet, hx, hz, bi_s, Bool.false_eq_true, ↓reduceIte, i10, hb4, hc, hb4', hc', (h.2.2.2.2 s hs).1, h1]
    · simp only [f_X6_copy, e_in, hx, hz, bi_s, Bool.false_eq_true, ↓reduceIte, i10, hb4, hc, hb4', hc', (h.2.2.2.2 s hs).1, h1]
  by_cases h2 : so t = -1
  · refine ⟨-11, A, G, n, by', ik, AK, GK, so, sz, ce, hr, fun S h => ⟨S, ?_, h, gM.refl S⟩, fun S h => ⟨S, ?_, h, gX.refl S⟩⟩
    · simp only [f_X5_copy, e_isNoSheet, hx, hz, bi_s, Bool.false_eq_true, ↓reduceIte, i10, hb4, hc, hb4', hc', (h.2.2.2.2 s hs).1, (h.2.2.2.2 t ht).1, h1, h2]
    · simp only [f_X6_copy, e_in, hx, hz, bi_s, Bool.false_eq_true, ↓reduceIte, i10, hb4, hc, hb4', hc', (h.2.2.2.2 s hs).1, (h.2.2.2.2 t ht).1, h1, h2]
  by_cases h3 : so s = so t
  case neg =>
    refine ⟨-13, A, G, n, by', ik, AK, GK, so, sz, ce, hr, fun S h => ⟨S, ?_, h, gM.refl S⟩, fun S h => ⟨S, ?_, h, gX.refl S⟩⟩
    · simp only [f_X5_copy, e_isNoSheet, hx, hz, bi_s, Bool.false_eq_true, ↓reduceIte, i10, hb4, hc, hb4', hc', (h.2.2.2.2 s hs).1, (h.2.2.2.2 t ht).1, h1, h2, h3]
    · simp only [f_X6_copy, e_in, hx, hz, bi_s, Bool.false_eq_true, ↓reduceIte, i10, hb4, hc, hb4', hc', (h.2.2.2.2 s hs).1, (h.2.2.2.2 t ht).1, h1, h2, h3]
  rw [h3] at h1
  by_cases hv : v < 0
  · refine ⟨-12, A, G, n, by', ik, AK, GK, so, sz, ce, hr, fun S h => ⟨S, ?_, h, gM.refl S⟩, fun S h => ⟨S, ?_, h, gX.refl S⟩⟩
    · simp only [f_X5_copy, e_isNoSheet, hx, hz, bi_s, Bool.false_eq_true, ↓reduceIte, i10, hb4, hc, hb4', hc', (h.2.2.2.2 s hs).1, (h.2.2.2.2 t ht).1, h1, h3, hv]
    · simp only [f_X6_copy, e_in, hx, hz, bi_s, Bool.false_eq_true, ↓reduceIte, i10, hb4, hc, hb4', hc', (h.2.2.2.2 s hs).1, (h.2.2.2.2 t ht).1, h1, h3, hv]
  obtain ⟨m, hm, rfl⟩ := nI_of hv
  have i1 : (nI zs).toInt = (zs : Int) := nI_toInt (by omega)
  have i2 : (nI zt).toInt = (zt : Int) := nI_toInt (by omega)
  have i3 : (nI m).toInt = (m : Int) := nI_toInt hm
  by_cases hok : (0 ≤ y.toInt ∧ y.toInt + m ≤ zs) ∧ 0 ≤ w.toInt ∧ w.toInt + m ≤ zt
  · obtain ⟨i, hi, rfl⟩ := nI_of (x := y) (by rw [Int32.lt_iff_toInt_lt, i_0]; omega)
    obtain ⟨j, hj, rfl⟩ := nI_of (x := w) (by rw [Int32.lt_iff_toInt_lt, i_0]; omega)
    have hok2 := hok
    rw [nI_toInt hi, nI_toInt hj] at hok2
    refine ⟨nI m, A, G, n, by', ik, AK, GK, so, sz, fun q => if q = t then va_cpy (ce s) (ce t) i j m else ce q, hr, fun S h => ?_, fun S h => ?_⟩
    · have h5 := h.2.2.2.2
      refine ⟨it_cpy S (it_el 2 s + 1) (it_el 2 t + 1) i j m, ?_, ?_, fun b h1 h2 => cpy_ne (by rw [it_el2_eq]; omega)⟩
      · have hcg : it_cg (nI i) (nI j) (nI m) 40 40 = true := by
          simp only [it_cg, Bool.and_eq_true, decide_eq_true_eq, nI_clamp hi, nI_clamp hj, nI_clamp hm]
          exact ⟨⟨⟨⟨nI_pos' hi, nI_pos' hj⟩, nI_pos' hm⟩, by omega⟩, by omega⟩
        have d1 : decide (0 ≤ (nI i).toInt ∧ (nI i).toInt + m ≤ zs) = true := decide_eq_true hok.1
        have d2 : decide (0 ≤ (nI j).toInt ∧ (nI j).toInt + m ≤ zt) = true := decide_eq_true hok.2
        simp only [f_X5_copy, e_isNoSheet, hx, hz, bi_s, Bool.false_eq_true, ↓reduceIte, i10, hb4, hc, hb4', hc', (h5 s hs).1, (h5 t ht).1, (h5 s hs).2.1, (h5 t ht).2.1, es, et, h1, h3, hv, e_isOutside, in_sub hzs hm, in_sub hzt hm, d1, d2, hcg, nI_clamp hi, nI_clamp hj, nI_clamp hm]
      · have q := h.sh (S' := it_cpy S (it_el 2 s + 1) (it_el 2 t + 1) i j m) (s := t) (o := so t) (z := sz t) (c := va_cpy (ce s) (ce t) i j m) ht (h.1.cg (fun k hk => cpy_ne (by rw [it_el2_eq]; omega))) (fun b _ _ _ _ h2 _ => cpy_ne h2) (by rw [cpy_ne (by rw [it_el2_eq]; omega)]; exact (h5 t ht).1) (by rw [cpy_ne (by rw [it_el2_eq]; omega)]; exact (h5 t ht).2.1) (fun q hq => by
          have e : it_cpy S (it_el 2 s + 1) (it_el 2 t + 1) i j m (34 + 2 * t + 1) q = va_cpy (S (it_el 2 s + 1)) (S (it_el 2 t + 1)) i j m q := by
            rw [it_cpy, if_pos (by rw [it_el2_eq])]
          rw [e]
          by_cases e2 : j ≤ q ∧ q < j + m
          · rw [pk_cpy_in e2.1 e2.2, pk_cpy_in e2.1 e2.2]
            exact (h5 s hs).2.2 _ (by omega)
          · rw [pk_cpy_out (by omega), pk_cpy_out (by omega)]
            exact (h5 t ht).2.2 q hq)
        rw [upd_id, upd_id] at q
        exact q
    · have h5 := h.2.2.2.2
      obtain ⟨S1, a1, a2, a3⟩ := e_copyM_loop (κ := κ) (S := S) (a := 40 * s + i) (b := 40 * t + j) (m := m) (x1 := nI s) (x2 := nI i) (x3 := nI t) (x4 := nI j) (kont := fun S25 => some (nI m, S25)) (by omega) (by omega)
      have c1 : ¬ nI i < 0 := nI_pos hi
      have c2 : ¬ nI j < 0 := nI_pos hj
      have c3 : ¬ nI zs < nI i := nI_nlt (by omega) (by omega)
      have c4 : ¬ nI zt < nI j := nI_nlt (by omega) (by omega)
      have c5 : ¬ nI zs - nI i < nI m := by rw [pk_sub (by omega)]; exact nI_nlt (by omega) (by omega)
      have c6 : nI m ≤ nI zt - nI j := by rw [pk_sub (by omega)]; exact nI_le (by omega) (by omega)
      refine ⟨S1, ?_, ?_, fun b hb => a3 b (by omega)⟩
      · simp only [f_X6_copy, e_in, hx, hz, bi_s, Bool.false_eq_true, ↓reduceIte, i10, hb4, hc, hb4', hc', (h5 s hs).1, (h5 t ht).1, (h5 s hs).2.1, (h5 t ht).2.1, es, et, h1, h3, hv, c1, c2, c3, c4, c5, c6, nI_40, nI_add]
        exact a1
      · have q := h.sh (S' := S1) (s := t) (o := so t) (z := sz t) (c := va_cpy (ce s) (ce t) i j m) (h.1.cg (fun j _ => by rw [a3 45 (by decide)]) (a3 46 (by decide)) (a3 47 (by decide)) (a3 48 (by decide)) (a3 49 (by decide))) (fun j _ => by rw [a3 45 (by decide)]) (fun b h1 h2 => a3 b (by omega)) (fun t ht => by rw [a3 55 (by decide), upd_id]; exact (h5 t ht).1) (fun t ht => by rw [a3 56 (by decide), upd_id]; exact (h5 t ht).2.1) (fun r hr q hq => by
          rw [a2]
          by_cases e : r = t
          · subst e
            rw [if_pos rfl]
            by_cases e2 : j ≤ q ∧ q < j + m
            · rw [pk_cpy_in (by omega) (by omega), pk_cpy_in e2.1 e2.2, show 40 * s + i + (40 * r + q - (40 * r + j)) = 40 * s + (i + (q - j)) by omega]
              exact (h5 s hs).2.2 _ (by omega)
            · rw [pk_cpy_out (by omega), pk_cpy_out (by omega)]
              exact (h5 r hr).2.2 q hq
          · rw [if_neg e, pk_cpy_out (by omega)]
            exact (h5 r hr).2.2 q hq)
        rw [upd_id, upd_id] at q
        exact q
  · refine ⟨-12, A, G, n, by', ik, AK, GK, so, sz, ce, hr, fun S h => ⟨S, ?_, h, gM.refl S⟩, fun S h => ⟨S, ?_, h, gX.refl S⟩⟩
    · have h5 := h.2.2.2.2
      simp only [f_X5_copy, e_isNoSheet, hx, hz, bi_s, Bool.false_eq_true, ↓reduceIte, i10, hb4, hc, hb4', hc', (h5 s hs).1, (h5 t ht).1, (h5 s hs).2.1, (h5 t ht).2.1, es, et, h1, h3, hv, e_isOutside, in_sub hzs hm, in_sub hzt hm]
      by_cases d1 : 0 ≤ y.toInt ∧ y.toInt + m ≤ zs
      · have d2 : ¬ (0 ≤ w.toInt ∧ w.toInt + m ≤ zt) := fun q => hok ⟨d1, q⟩
        simp only [d1, d2, decide_true, decide_false, Bool.false_eq_true, ↓reduceIte, i10, and_self]
      · simp only [d1, decide_false, Bool.false_eq_true, ↓reduceIte, i10]
    · have h5 := h.2.2.2.2
      simp only [f_X6_copy, e_in, hx, hz, bi_s, Bool.false_eq_true, ↓reduceIte, i10, hb4, hc, hb4', hc', (h5 s hs).1, (h5 t ht).1, (h5 s hs).2.1, (h5 t ht).2.1, es, et, h1, h3, hv]
      by_cases c1 : y < 0
      · rw [if_pos c1]
      by_cases c2 : w < 0
      · rw [if_neg c1, if_pos c2]
      by_cases c3 : nI zs < y
      · rw [if_neg c1, if_neg c2, if_pos c3]
      by_cases c4 : nI zt < w
      · rw [if_neg c1, if_neg c2, if_neg c3, if_pos c4]
      by_cases c5 : nI zs - y < nI m
      · rw [if_neg c1, if_neg c2, if_neg c3, if_neg c4, if_pos c5]
      · rw [if_neg c1, if_neg c2, if_neg c3, if_neg c4, if_neg c5, if_neg]
        intro c6
        rw [Int32.lt_iff_toInt_lt] at c1 c2 c3 c4 c5
        rw [Int32.le_iff_toInt_le] at c6
        rw [i_0] at c1 c2
        rw [i1] at c3
        rw [i2] at c4
        rw [i_sub (by omega) (by omega), i1, i3] at c5
        rw [i_sub (by omega) (by omega), i2, i3] at c6
        exact hok ⟨by omega, by omega⟩
end COPY
