section SHEETS
variable {κ : it_KK} {S S' S0 A B : it_SS} {G : Nat} {tb : Nat → Nat → List Nat} {T n : Nat} {by' : Nat → Int32} {ik : Int32} {AK : it_SS} {GK : Nat} {so sz : Nat → Int32} {ce : it_SS}
/-! sheets -/
theorem upd_id {f : Nat → Int32} {s : Nat} : upd f s (f s) = f := by
  funext t
  rw [upd]
  split
  · rename_i h
    rw [h]
  · rfl
theorem IX.sh {s : Nat} {o z : Int32} {c : Nat → Int32} (h : IX κ S A tb T n by' ik AK so sz ce) (hs : s < 4) (hx : hX S' 9 A) (hf : ∀ b, b ≠ 3 → b ≠ 4 → (b < 9 ∨ 24 < b) → b ≠ 34 + 2 * s → b ≠ 34 + 2 * s + 1 → (b < 45 ∨ 65 ≤ b) → S' b = S b) (h0 : S' (34 + 2 * s) 0 = o) (h1 : S' (34 + 2 * s) 1 = z) (hc : ∀ j, j < 40 → S' (34 + 2 * s + 1) j = c j) : IX κ S' A tb T n by' ik AK (upd so s o) (upd sz s z) (fun t => if t = s then c else ce t) := by
  obtain ⟨-, a2, a3, a4, a5⟩ := h
  refine ⟨hx, a2.fr2 (fun b hb => hf b (by omega) (by omega) (by omega) (by omega) (by omega) (by omega)), ⟨by rw [hf 5 (by omega) (by omega) (by omega) (by omega) (by omega) (by omega)]; exact a3.1, fun j hj => by rw [hf 6 (by omega) (by omega) (by omega) (by omega) (by omega) (by omega)]; exact a3.2 j hj⟩, ⟨by rw [hf 0 (by omega) (by omega) (by omega) (by omega) (by omega) (by omega)]; exact a4.1, fun q => (a4.2 q).cg (fun k hk => hf _ (by omega) (by omega) (by omega) (by omega) (by omega) (by omega))⟩, fun t ht => ?_⟩
  have h5 := a5 t ht
  rw [it_el2_eq] at h5 ⊢
  show S' (34 + 2 * t) 0 = upd so s o t ∧ S' (34 + 2 * t) 1 = upd sz s z t ∧ ∀ j, j < 40 → S' (34 + 2 * t + 1) j = (if t = s then c else ce t) j
  by_cases e : t = s
  · subst e
    rw [upd, upd, if_pos rfl, if_pos rfl, if_pos rfl]
    exact ⟨h0, h1, hc⟩
  · rw [upd, upd, if_neg e, if_neg e, if_neg e, hf _ (by omega) (by omega) (by omega) (by omega) (by omega) (by omega), hf _ (by omega) (by omega) (by omega) (by omega) (by omega) (by omega)]
    exact h5
theorem IM.sh {s : Nat} {o z : Int32} {c : Nat → Int32} (h : IM S A G tb T n by' ik AK GK so sz ce) (hx : hM S' A G) (h45 : ∀ j, j = 7 ∨ j = 10 ∨ j = 12 → S' 45 j = S 45 j) (hf : ∀ b, 50 ≤ b → (b < 55 ∨ b = 59) → S' b = S b) (h55 : ∀ t, t < 4 → S' 55 t = upd so s o t) (h56 : ∀ t, t < 4 → S' 56 t = upd sz s z t) (h57 : ∀ t, t < 4 → ∀ j, j < 40 → S' 57 (40 * t + j) = if t = s then c j else ce t j) : IM S' A G tb T n by' ik AK GK (upd so s o) (upd sz s z) (fun t => if t = s then c else ce t) := by
  obtain ⟨-, h2, h3, h4, h5⟩ := h
  refine ⟨hx, h2.fr (h45 10 (by omega)) (hf 51 (by omega) (by omega)) (hf 52 (by omega) (by omega)), ⟨by rw [h45 7 (by omega)]; exact h3.1, fun j hj => by rw [hf 50 (by omega) (by omega)]; exact h3.2.1 j hj, fun j hj => by rw [hf 59 (by omega) (by omega)]; exact h3.2.2 j hj⟩, ⟨by rw [h45 12 (by omega)]; exact h4.1, fun q => ?_⟩, fun t ht => ⟨h55 t ht, h56 t ht, fun j hj => ?_⟩⟩
  · obtain ⟨i1, i2, i3⟩ := h4.2 q
    exact ⟨fun p hp => by rw [hf 53 (by omega) (by omega)]; exact i1 p hp, fun j hj => by rw [hf 53 (by omega) (by omega)]; exact i2 j hj, by rw [hf 54 (by omega) (by omega)]; exact i3⟩
  · rw [h57 t ht j hj]
    show (if t = s then c j else ce t j) = (if t = s then c else ce t) j
    split <;> rfl
theorem IR.sh {s z : Nat} {o : Int32} (hr : IR A G tb T n by' ik AK GK so sz) (ho : o = -1 ∨ o = 0 ∨ o = 1 ∨ o = 2) (hz : z ≤ 40) : IR A G tb T n by' ik AK GK (upd so s o) (upd sz s (nI z)) := by
  refine ⟨hr.1, hr.2.1, hr.2.2.1, hr.2.2.2.1, hr.2.2.2.2.1, hr.2.2.2.2.2.1, fun t ht => ?_, hr.2.2.2.2.2.2.2⟩
  by_cases e : t = s
  · rw [upd, upd, if_pos e, if_pos e]
    exact ⟨ho, z, hz, rfl⟩
  · rw [upd, upd, if_neg e, if_neg e]
    exact hr.2.2.2.2.2.2.1 t ht
theorem e_fill_loop {q : Nat} {kont : it_SS → Option (Unit × it_SS)} : ∀ (k i f : Nat) (S : it_SS), i + k = 40 → k < f → (∀ j, j < i → S q j = 0) → ∃ S', lp_J7_fill_53178_5 κ q 40 0 kont f (nI i) (nI 40) S = kont S' ∧ (∀ j, j < 40 → S' q j = 0) ∧ ∀ b, b ≠ q → S' b = S b := by
  intro k
  induction k with
  | zero =>
    intro i f S hi hf h
    obtain ⟨f, rfl⟩ : ∃ m, f = m + 1 := ⟨f - 1, by omega⟩
    obtain rfl : i = 40 := by omega
    exact ⟨S, by rw [lp_J7_fill_53178_5, if_pos (Int32.le_refl _)], h, fun _ _ => rfl⟩
  | succ k ih =>
    intro i f S hi hf h
    obtain ⟨f, rfl⟩ : ∃ m, f = m + 1 := ⟨f - 1, by omega⟩
    rw [lp_J7_fill_53178_5, if_neg (nI_ge (by omega) (by decide)), if_pos (bd_nI (by omega) (by decide)), nI_clamp (by omega), nI_1]
    obtain ⟨S', e1, e2, e3⟩ := ih (i + 1) f (it_up S q i 0) (by omega) (by omega) (fun j hj => by
      rw [it_up_eq, upd]
      by_cases e : j = i
      · rw [if_pos e]
      · rw [if_neg e]; exact h j (by omega))
    exact ⟨S', e1, e2, fun b hb => (e3 b hb).trans (it_up_ne hb)⟩
theorem e_renew {a : Nat} {x y : Int32} : ∃ S', f_X2_renew κ a x y S = some ((), S') ∧ S' a 0 = x ∧ S' a 1 = y ∧ (∀ j, j < 40 → S' (a + 1) j = 0) ∧ ∀ b, b ≠ a → b ≠ a + 1 → S' b = S b := by
  obtain ⟨S', e1, e2, e3⟩ := e_fill_loop (κ := κ) (q := a + 1) (kont := fun S3 => some ((), S3)) 40 0 it_FU (it_up (it_up S a 0 x) a 1 y) rfl (by decide) (fun j hj => absurd hj (Nat.not_lt_zero _))
  refine ⟨S', ?_, ?_, ?_, e2, fun b h1 h2 => by rw [e3 b h2, it_up_ne h1, it_up_ne h1]⟩
  · rw [f_X2_renew, f_J7_fill_53178, show lp_J7_fill_53178_5 κ (a + 1) 40 0 (fun S3 => some ((), S3)) it_FU 0 (Int32.ofNat 40) (it_up (it_up S a 0 x) a 1 y) = _ from e1, it_bi_some]
  · rw [e3 a (by omega), it_up_eq, upd, if_neg (by decide), it_up_eq, upd, if_pos rfl]
  · rw [e3 a (by omega), it_up_eq, upd, if_pos rfl]
theorem nI_40 (s : Nat) : 40 * nI s = nI (40 * s) := by rw [show (40 : Int32) = nI 40 from rfl, pk_mul]
theorem e_sheetM_loop {s : Nat} {y z : Int32} {kont : it_SS → Option (Int32 × it_SS)} (hs : s < 4) : ∀ (k i f : Nat) (S : it_SS), i + k = 40 → k < f → (∀ j, j < i → S 57 (40 * s + j) = 0) → ∃ S', lp_X6_sheet_70 κ (nI s) y z kont f (nI i) S = kont S' ∧ (∀ j, j < 40 → S' 57 (40 * s + j) = 0) ∧ (∀ q, q < 40 * s ∨ 40 * s + 40 ≤ q → S' 57 q = S 57 q) ∧ ∀ b, b ≠ 57 → S' b = S b := by
  intro k
  induction k with
  | zero =>
    intro i f S hi hf h
    obtain ⟨f, rfl⟩ : ∃ m, f = m + 1 := ⟨f - 1, by omega⟩
    obtain rfl : i = 40 := by omega
    exact ⟨S, by rw [lp_X6_sheet_70, if_pos (show (40 : Int32) ≤ nI 40 by decide)], h, fun _ _ => rfl, fun _ _ => rfl⟩
  | succ k ih =>
    intro i f S hi hf h
    obtain ⟨f, rfl⟩ : ∃ m, f = m + 1 := ⟨f - 1, by omega⟩
    rw [lp_X6_sheet_70, if_neg (show ¬ 40 ≤ nI i from nI_ge (b := 40) (by omega) (by decide)), nI_40, nI_add, if_pos (bd_nI (by omega) (by decide)), nI_clamp (by omega), nI_1]
    obtain ⟨S', e1, e2, e4, e3⟩ := ih (i + 1) f (it_up S 57 (40 * s + i) 0) (by omega) (by omega) (fun j hj => by
      rw [it_up_eq, upd]
      by_cases e : j = i
      · rw [if_pos (by omega)]
      · rw [if_neg (by omega)]; exact h j (by omega))
    exact ⟨S', e1, e2, fun q hq => by rw [e4 q hq, it_up_eq, upd, if_neg (by omega)], fun b hb => (e3 b hb).trans (it_up_ne hb)⟩
/-- the reference's sheet is a new one -/
theorem IM.renew {s : Nat} {o z y w : Int32} {kont : it_SS → Option (Int32 × it_SS)} (hs : s < 4) (h : IM S A G tb T n by' ik AK GK so sz ce) : ∃ S', lp_X6_sheet_70 κ (nI s) y w kont it_FU 0 (it_up (it_up S 55 s o) 56 s z) = kont S' ∧ IM S' A G tb T n by' ik AK GK (upd so s o) (upd sz s z) (fun t => if t = s then (fun _ => 0) else ce t) ∧ gX S S' := by
  obtain ⟨S', e1, e2, e4, e3⟩ := e_sheetM_loop (κ := κ) (s := s) (y := y) (z := w) (kont := kont) hs 40 0 it_FU (it_up (it_up S 55 s o) 56 s z) rfl (by decide) (fun j hj => absurd hj (Nat.not_lt_zero _))
  have f : ∀ b, b ≠ 55 → b ≠ 56 → b ≠ 57 → S' b = S b := fun b h1 h2 h3 => by rw [e3 b h3, it_up_ne h2, it_up_ne h1]
  have h5 := h.2.2.2.2
  refine ⟨S', e1, h.sh (h.1.cg (fun j _ => by rw [f 45 (by decide) (by decide) (by decide)]) (f 46 (by decide) (by decide) (by decide)) (f 47 (by decide) (by decide) (by decide)) (f 48 (by decide) (by decide) (by decide)) (f 49 (by decide) (by decide) (by decide))) (fun j _ => by rw [f 45 (by decide) (by decide) (by decide)]) (fun b h1 h2 => f b (by omega) (by omega) (by omega)) (fun t ht => ?_) (fun t ht => ?_) (fun t ht j hj => ?_), fun b hb => f b (by omega) (by omega) (by omega)⟩
  · rw [e3 55 (by decide), it_up_ne (by decide), it_up_eq, upd, upd, (h5 t ht).1]
  · rw [e3 56 (by decide), it_up_eq, upd, upd, it_up_ne (by decide), (h5 t ht).2.1]
  · by_cases e : t = s
    · subst e
      rw [if_pos rfl]
      exact e2 j hj
    · rw [if_neg e, e4 _ (by omega), it_up_ne (by decide), it_up_ne (by decide)]
      exact (h5 t ht).2.2 j hj
theorem IX.renew {s : Nat} {o z : Int32} (hs : s < 4) (h : IX κ S A tb T n by' ik AK so sz ce) : ∃ S', f_X2_renew κ (it_el 2 s) o z S = some ((), S') ∧ IX κ S' A tb T n by' ik AK (upd so s o) (upd sz s z) (fun t => if t = s then (fun _ => 0) else ce t) ∧ gM S S' := by
  obtain ⟨S', e1, e2, e3, e4, e5⟩ := e_renew (κ := κ) (S := S) (a := it_el 2 s) (x := o) (y := z)
  rw [it_el2_eq] at e2 e3 e4 e5
  exact ⟨S', e1, h.sh hs (h.1.cg (fun k hk => e5 _ (by omega) (by omega))) (fun b _ _ _ h1 h2 _ => e5 b h1 h2) e2 e3 e4, fun b h1 h2 => e5 b (by omega) (by omega)⟩
theorem q_sheet (x y z : Int32) : Eqv κ (f_X5_sheet κ x y z) (f_X6_sheet κ x y z) := Eqv.of fun A G tb T n by' ik AK GK so sz ce hr => by
  cases hx : sp_in x 0 3 with
  | false =>
    refine ⟨-2, A, G, n, by', ik, AK, GK, so, sz, ce, hr, fun S h => ⟨S, ?_, h, gM.refl S⟩, fun S h => ⟨S, ?_, h, gX.refl S⟩⟩
    · simp only [f_X5_sheet, e_isNoSheet, hx, bi_s, Bool.false_eq_true, ↓reduceIte, i10]
    · simp only [f_X6_sheet, e_in, hx, bi_s, Bool.false_eq_true, ↓reduceIte, i10]
  | true =>
  obtain ⟨s, hs, rfl, hb4, hc⟩ := in_3 hx
  cases hy : sp_in y (-1) 2 with
  | false =>
    refine ⟨-2, A, G, n, by', ik, AK, GK, so, sz, ce, hr, fun S h => ⟨S, ?_, h, gM.refl S⟩, fun S h => ⟨S, ?_, h, gX.refl S⟩⟩
    · simp only [f_X5_sheet, e_isNoSheet, e_isOutside, hx, hy, bi_s, Bool.false_eq_true, ↓reduceIte, i10]
    · simp only [f_X6_sheet, e_in, hx, hy, bi_s, Bool.false_eq_true, ↓reduceIte, i10]
  | true =>
  by_cases hy1 : y = -1
  · subst hy1
    refine ⟨1, A, G, n, by', ik, AK, GK, upd so s (-1), upd sz s 0, fun t => if t = s then (fun _ => 0) else ce t, hr.sh (z := 0) (Or.inl rfl) (by decide), fun S h => ?_, fun S h => ?_⟩
    · obtain ⟨S1, a1, a2, a3⟩ := h.renew (κ := κ) (o := -1) (z := 0) hs
      refine ⟨S1, ?_, a2, a3⟩
      simp only [f_X5_sheet, e_isNoSheet, e_isOutside, hx, hy, bi_s, Bool.false_eq_true, ↓reduceIte, i10, hb4, hc, a1]
    · obtain ⟨S1, a1, a2, a3⟩ := h.renew (κ := κ) (o := -1) (z := 0) (y := -1) (w := z) (kont := fun S14 => some (1, S14)) hs
      refine ⟨S1, ?_, a2, a3⟩
      simp only [f_X6_sheet, e_in, hx, hy, bi_s, Bool.false_eq_true, ↓reduceIte, i10, hb4, hc]
      exact a1
  · by_cases hz : z ≤ 40
    · by_cases hz0 : 0 ≤ z
      · obtain ⟨m, hm, rfl⟩ := in_nI (x := z) (m := 40) (by decide) (by simp only [sp_in, Bool.and_eq_true, decide_eq_true_eq]; exact ⟨hz0, hz⟩)
        have hyy : y = -1 ∨ y = 0 ∨ y = 1 ∨ y = 2 := by
          have q := in_rng hy
          rw [show (-1 : Int32).toInt = -1 by decide, show (2 : Int32).toInt = 2 by decide] at q
          have e : ∀ w : Int32, y.toInt = w.toInt → y = w := fun w h => Int32.toInt_inj.mp h
          rcases (show y.toInt = -1 ∨ y.toInt = 0 ∨ y.toInt = 1 ∨ y.toInt = 2 by omega) with h | h | h | h
          · exact Or.inl (e _ (by rw [h]; decide))
          · exact Or.inr (Or.inl (e _ (by rw [h]; decide)))
          · exact Or.inr (Or.inr (Or.inl (e _ (by rw [h]; decide))))
          · exact Or.inr (Or.inr (Or.inr (e _ (by rw [h]; decide))))
        refine ⟨1, A, G, n, by', ik, AK, GK, upd so s y, upd sz s (nI m), fun t => if t = s then (fun _ => 0) else ce t, hr.sh hyy hm, fun S h => ?_, fun S h => ?_⟩
        · obtain ⟨S1, a1, a2, a3⟩ := h.renew (κ := κ) (o := y) (z := nI m) hs
          refine ⟨S1, ?_, a2, a3⟩
          simp only [f_X5_sheet, e_isNoSheet, e_isOutside, hx, hy, bi_s, Bool.false_eq_true, ↓reduceIte, i10, hb4, hc, a1, hy1, hz, hz0]
        · obtain ⟨S1, a1, a2, a3⟩ := h.renew (κ := κ) (o := y) (z := nI m) (y := y) (w := nI m) (kont := fun S14 => some (1, S14)) hs
          refine ⟨S1, ?_, a2, a3⟩
          simp only [f_X6_sheet, e_in, hx, hy, bi_s, Bool.false_eq_true, ↓reduceIte, i10, hb4, hc, hy1, hz, hz0]
          exact a1
      · refine ⟨-14, A, G, n, by', ik, AK, GK, so, sz, ce, hr, fun S h => ⟨S, ?_, h, gM.refl S⟩, fun S h => ⟨S, ?_, h, gX.refl S⟩⟩
        · simp only [f_X5_sheet, e_isNoSheet, e_isOutside, hx, hy, bi_s, Bool.false_eq_true, ↓reduceIte, i10, hy1, hz, hz0]
        · simp only [f_X6_sheet, e_in, hx, hy, bi_s, Bool.false_eq_true, ↓reduceIte, i10, hy1, hz, hz0]
    · refine ⟨-2, A, G, n, by', ik, AK, GK, so, sz, ce, hr, fun S h => ⟨S, ?_, h, gM.refl S⟩, fun S h => ⟨S, ?_, h, gX.refl S⟩⟩
      · simp only [f_X5_sheet, e_isNoSheet, e_isOutside, hx, hy, bi_s, Bool.false_eq_true, ↓reduceIte, i10, hy1, hz]
      · simp only [f_X6_sheet, e_in, hx, hy, bi_s, Bool.false_eq_true, ↓reduceIte, i10, hy1, hz]
theorem e_has {a z : Nat} (h : S a 1 = nI z) (hz : z ≤ 40) (x : Int32) : f_X2_has κ a x S = some (if it_bd x z = true then 1 else 0, S) := by
  rw [f_X2_has, h]
  rcases pk_ix x (n := z) (by omega) with hx | hx | ⟨j, hj, rfl⟩
  · rw [if_pos hx, if_neg]
    intro q
    obtain ⟨j, hj, rfl⟩ := bd_of q
    exact nI_pos (by omega) hx
  · rw [if_neg (show ¬ x < 0 from fun q => by
      have := nI_pos' (n := z) (by omega)
      rw [Int32.lt_iff_toInt_lt] at q
      rw [Int32.le_iff_toInt_le] at hx this
      omega), if_pos hx, if_neg]
    intro q
    obtain ⟨j, hj, rfl⟩ := bd_of q
    exact nI_ge hj (by omega) hx
  · rw [if_neg (nI_pos (by omega)), if_neg (nI_ge hj (by omega)), if_pos (bd_nI hj (by omega))]
def sp_cut (o v : Int32) : Int32 := if o = 0 then v.toInt8.toInt32 else if o = 1 then v.toInt16.toInt32 else v
theorem e_write {a j : Nat} {o v : Int32} (h : S a 0 = o) (hj : j < 40) : f_X2_write κ a (nI j) v S = some ((), it_up S (a + 1) j (sp_cut o v)) := by
  rw [f_X2_write, h, bd_nI hj (by decide), nI_clamp (by omega), sp_cut]
  repeat' split
  all_goals first | rfl | contradiction
theorem q_cell (x y z : Int32) : Eqv κ (f_X5_cell κ x y z) (f_X6_cell κ x y z) := Eqv.of fun A G tb T n by' ik AK GK so sz ce hr => by
  cases hx : sp_in x 0 3 with
  | false =>
    refine ⟨-2, A, G, n, by', ik, AK, GK, so, sz, ce, hr, fun S h => ⟨S, ?_, h, gM.refl S⟩, fun S h => ⟨S, ?_, h, gX.refl S⟩⟩
    · simp only [f_X5_cell, e_isNoSheet, hx, bi_s, Bool.false_eq_true, ↓reduceIte, i10]
    · simp only [f_X6_cell, e_in, hx, bi_s, Bool.false_eq_true, ↓reduceIte, i10]
  | true =>
  obtain ⟨s, hs, rfl, hb4, hc⟩ := in_3 hx
  obtain ⟨ho, w, hw, ew⟩ := hr.2.2.2.2.2.2.1 s hs
  by_cases h1 : so s = -1
  · refine ⟨-11, A, G, n, by', ik, AK, GK, so, sz, ce, hr, fun S h => ⟨S, ?_, h, gM.refl S⟩, fun S h => ⟨S, ?_, h, gX.refl S⟩⟩
    · simp only [f_X5_cell, e_isNoSheet, hx, bi_s, Bool.false_eq_true, ↓reduceIte, i10, hb4, hc, (h.2.2.2.2 s hs).1, h1]
    · simp only [f_X6_cell, e_in, hx, bi_s, Bool.false_eq_true, ↓reduceIte, i10, hb4, hc, (h.2.2.2.2 s hs).1, h1]
  · cases hy : it_bd y w with
    | false =>
      refine ⟨-12, A, G, n, by', ik, AK, GK, so, sz, ce, hr, fun S h => ⟨S, ?_, h, gM.refl S⟩, fun S h => ⟨S, ?_, h, gX.refl S⟩⟩
      · simp only [f_X5_cell, e_isNoSheet, hx, bi_s, Bool.false_eq_true, ↓reduceIte, i10, hb4, hc, (h.2.2.2.2 s hs).1, h1, e_has ((h.2.2.2.2 s hs).2.1.trans ew) hw, hy]
      · simp only [f_X6_cell, e_in, hx, bi_s, Bool.false_eq_true, ↓reduceIte, i10, hb4, hc, (h.2.2.2.2 s hs).1, h1, (h.2.2.2.2 s hs).2.1, ew, in_bd (show w ≤ 1000 by omega), hy]
    | true =>
      obtain ⟨j, hj, rfl⟩ := bd_of hy
      refine ⟨1, A, G, n, by', ik, AK, GK, so, sz, fun t => if t = s then upd (ce s) j (sp_cut (so s) z) else ce t, hr, fun S h => ?_, fun S h => ?_⟩
      · have h5 := h.2.2.2.2 s hs
        refine ⟨it_up S (it_el 2 s + 1) j (sp_cut (so s) z), ?_, ?_, gM.up (by rw [it_el2_eq]; omega)⟩
        · simp only [f_X5_cell, e_isNoSheet, hx, bi_s, Bool.false_eq_true, ↓reduceIte, i10, hb4, hc, h5.1, h1, e_has (h5.2.1.trans ew) hw, hy, e_write h5.1 (show j < 40 by omega)]
        · have q := h.sh (S' := it_up S (it_el 2 s + 1) j (sp_cut (so s) z)) (o := so s) (z := sz s) (c := upd (ce s) j (sp_cut (so s) z)) hs (h.1.cg (fun k hk => it_up_ne (by rw [it_el2_eq]; omega))) (fun b _ _ _ _ h2 _ => it_up_ne h2) (by rw [it_up_ne (by rw [it_el2_eq]; omega)]; exact h5.1) (by rw [it_up_ne (by rw [it_el2_eq]; omega)]; exact h5.2.1) (fun i hi => by rw [it_el2_eq, it_up_eq, upd, upd]; split <;> first | rfl | exact h5.2.2 i hi)
          rw [upd_id, upd_id] at q
          exact q
      · have h5 := h.2.2.2.2
        refine ⟨it_up S 57 (40 * s + j) (sp_cut (so s) z), ?_, ?_, gX.up (by omega) (by omega)⟩
        · simp only [f_X6_cell, e_in, hx, bi_s, Bool.false_eq_true, ↓reduceIte, i10, hb4, hc, (h5 s hs).1, h1, (h5 s hs).2.1, ew, in_bd (show w ≤ 1000 by omega), hy, nI_40, nI_add, bd_nI (show 40 * s + j < 160 by omega) (by decide), nI_clamp (show 40 * s + j < 2 ^ 31 by omega), sp_cut]
          repeat' split
          all_goals first | rfl | contradiction
        · have q := h.sh (S' := it_up S 57 (40 * s + j) (sp_cut (so s) z)) (s := s) (o := so s) (z := sz s) (c := upd (ce s) j (sp_cut (so s) z)) (h.1.cg (fun j _ => by rw [it_up_ne (by decide)]) (it_up_ne (by decide)) (it_up_ne (by decide)) (it_up_ne (by decide)) (it_up_ne (by decide))) (fun j _ => by rw [it_up_ne (by decide)]) (fun b h1 h2 => it_up_ne (by omega)) (fun t ht => by rw [it_up_ne (by decide), upd_id]; exact (h5 t ht).1) (fun t ht => by rw [it_up_ne (by decide), upd_id]; exact (h5 t ht).2.1) (fun t ht i hi => by
            rw [it_up_eq, upd]
            by_cases e : t = s
            · subst e
              rw [if_pos rfl, upd]
              by_cases e2 : i = j
              · rw [if_pos (by omega), if_pos e2]
              · rw [if_neg (by omega), if_neg e2]
                exact (h5 t ht).2.2 i hi
            · rw [if_neg (by omega), if_neg e]
              exact (h5 t ht).2.2 i hi)
          rw [upd_id, upd_id] at q
          exact q
end SHEETS
