section HOST
variable {κ : it_KK} {S S' S0 A B : it_SS} {G : Nat} {tb : Nat → Nat → List Nat} {T n : Nat} {by' : Nat → Int32} {ik : Int32} {AK : it_SS} {GK : Nat} {so sz : Nat → Int32} {ce : it_SS}
/-! guests by a sheet -/
theorem e_admit_no {u : Nat} {x y : Int32} (hx : hX S u A) (hr : hR A G T) (h : ¬ (G < 6 ∧ sp_in x 0 59 = true ∧ sp_in y (-99) 99 = true)) : ∃ r : Int32, r < 0 ∧ f_X0_admit κ u x y S = some (r, S) := by
  cases hi : sp_in x 0 59 with
  | false => exact ⟨-2, by decide, by rw [f_X0_admit, e_isOutside, it_bi_some, hi]; rfl⟩
  | true =>
    cases hj : sp_in y (-99) 99 with
    | false => exact ⟨-2, by decide, by rw [f_X0_admit, e_isOutside, it_bi_some, hi, if_pos rfl, if_pos rfl, e_isOutside, it_bi_some, hj]; rfl⟩
    | true =>
      have hG := hr.2.1
      obtain rfl : G = 6 := by
        have : ¬ G < 6 := fun q => h ⟨q, hi, hj⟩
        omega
      refine ⟨-4, by decide, ?_⟩
      rw [f_X0_admit, e_isOutside, it_bi_some, hi, if_pos rfl, if_pos rfl, e_isOutside, it_bi_some, hj, if_pos rfl, if_pos rfl, hx.2.2.1, hr.1, if_neg (show ¬ nI 6 < 6 by decide)]
theorem e_guest_no {x y : Int32} (hx : hM S A G) (hr : hR A G T) (h : ¬ (G < 6 ∧ sp_in x 0 59 = true ∧ sp_in y (-99) 99 = true)) : ∃ r : Int32, r < 0 ∧ f_X6_guest κ x y S = some (r, S) := by
  cases hi : sp_in x 0 59 with
  | false => exact ⟨-2, by decide, by rw [f_X6_guest, e_in, it_bi_some, hi]; rfl⟩
  | true =>
    cases hj : sp_in y (-99) 99 with
    | false => exact ⟨-2, by decide, by rw [f_X6_guest, e_in, it_bi_some, hi, if_pos rfl, if_neg (by decide), e_in, it_bi_some, hj]; rfl⟩
    | true =>
      have hG := hr.2.1
      obtain rfl : G = 6 := by
        have : ¬ G < 6 := fun q => h ⟨q, hi, hj⟩
        omega
      refine ⟨-4, by decide, ?_⟩
      rw [f_X6_guest, e_in, it_bi_some, hi, if_pos rfl, if_neg (by decide), e_in, it_bi_some, hj, if_pos rfl, if_neg (by decide), hx.2.2.2.1, hr.1, if_pos (show nI 6 = 6 from rfl)]
def sp_gb (c : Nat → Int32) (z : Nat) : Nat → Nat → it_SS → Nat → Int32 → Int32 × it_SS × Nat
  | 0, _, A, G, r => (r, A, G)
  | k + 1, a, A, G, r => if a + 1 < z then (if G < 6 ∧ sp_in (c a) 0 59 = true ∧ sp_in (c (a + 1)) (-99) 99 = true then sp_gb c z k (a + 2) (sp_adm A G (c a) (c (a + 1))) (G + 1) (r + 1) else sp_gb c z k (a + 2) A G r) else (-12, A, G)
theorem IR.gb {c : Nat → Int32} {z : Nat} : ∀ (k a : Nat) (A : it_SS) (G : Nat) (r : Int32), IR A G tb T n by' ik AK GK so sz → IR (sp_gb c z k a A G r).2.1 (sp_gb c z k a A G r).2.2 tb T n by' ik AK GK so sz
  | 0, _, _, _, _, h => h
  | k + 1, a, A, G, r, h => by
    rw [sp_gb]
    split
    · split
      · rename_i q
        exact IR.gb k _ _ _ _ (h.adm q.1 q.2.1 q.2.2)
      · exact IR.gb k _ _ _ _ h
    · exact h
theorem e_gb_loop {s z m f : Nat} {x2 x3 : Int32} {kont : Int32 → it_SS → Option (Int32 × it_SS)} (hk : ∀ v S, kont v S = some (v, S)) (hs : s < 4) (hz : z ≤ 40) (ez : sz s = nI z) (hm : m ≤ 6) (hf : f < 2 ^ 31) : ∀ (k i fu : Nat) (r : Int32) (S A : it_SS) (G : Nat), i + k = m → k < fu → (i = 0 ∨ f + 2 * i ≤ 41) → IX κ S A tb T n by' ik AK so sz ce → IR A G tb T n by' ik AK GK so sz → ∃ S', lp_X5_guestsBy_71 κ (nI s) x2 x3 (nI m) kont fu r (nI (f + 2 * i)) (nI i) S = some ((sp_gb (ce s) z k (f + 2 * i) A G r).1, S') ∧ IX κ S' (sp_gb (ce s) z k (f + 2 * i) A G r).2.1 tb T n by' ik AK so sz ce ∧ gM S S' := by
  intro k
  induction k with
  | zero =>
    intro i fu r S A G hi hfu hle h hr
    obtain ⟨fu, rfl⟩ : ∃ m, fu = m + 1 := ⟨fu - 1, by omega⟩
    obtain rfl : i = m := by omega
    exact ⟨S, by rw [lp_X5_guestsBy_71, if_pos (Int32.le_refl _), hk]; rfl, h, gM.refl S⟩
  | succ k ih =>
    intro i fu r S A G hi hfu hle h hr
    obtain ⟨fu, rfl⟩ : ∃ m, fu = m + 1 := ⟨fu - 1, by omega⟩
    have h5 := h.2.2.2.2 s hs
    have hsc : (nI s).toNatClampNeg = s := nI_clamp (by omega)
    rw [lp_X5_guestsBy_71, if_neg (nI_ge (by omega) (by omega)), hsc, e_has (h5.2.1.trans ez) hz, it_bi_some, bd_nn (by omega) (by omega), nI_1, sp_gb]
    by_cases c1 : f + 2 * i < z
    · rw [show (if decide (f + 2 * i < z) = true then (1 : Int32) else 0) = 1 by simp [c1], if_neg (by decide), e_has (h5.2.1.trans ez) hz, it_bi_some, bd_nn (by omega) (by omega)]
      by_cases c2 : f + 2 * i + 1 < z
      · rw [show (if decide (f + 2 * i + 1 < z) = true then (1 : Int32) else 0) = 1 by simp [c2], if_neg (by decide), if_pos (bd_nI (by omega) (by decide)), if_pos (bd_nI (by omega) (by decide)), nI_clamp (by omega), nI_clamp (by omega), h5.2.2 _ (by omega), h5.2.2 _ (by omega), if_pos c2, nI_p2, nI_1]
        have ei : f + 2 * i + 2 = f + 2 * (i + 1) := by omega
        by_cases c3 : G < 6 ∧ sp_in (ce s (f + 2 * i)) 0 59 = true ∧ sp_in (ce s (f + 2 * i + 1)) (-99) 99 = true
        · obtain ⟨S1, e1, e2, e3⟩ := e_admit (κ := κ) h.1 hr.1 c3.1 c3.2.1 c3.2.2
          rw [e1, it_bi_some, if_neg (nI_pos (by omega)), if_pos c3, ei]
          obtain ⟨S2, b1, b2, b3⟩ := ih (i + 1) fu (r + 1) S1 _ (G + 1) (by omega) (by omega) (by omega) (h.house e2 (fun b _ _ hb => e3 b hb)) (hr.adm c3.1 c3.2.1 c3.2.2)
          exact ⟨S2, b1, b2, gM.trans (fun b h1 h2 => e3 b (by omega)) b3⟩
        · obtain ⟨w, hw, e1⟩ := e_admit_no (κ := κ) h.1 hr.1 c3
          rw [e1, it_bi_some, if_pos hw, if_neg c3, ei]
          exact ih (i + 1) fu r S A G (by omega) (by omega) (by omega) h hr
      · rw [show (if decide (f + 2 * i + 1 < z) = true then (1 : Int32) else 0) = 0 by simp [c2], if_pos rfl, if_neg c2]
        exact ⟨S, rfl, h, gM.refl S⟩
    · rw [show (if decide (f + 2 * i < z) = true then (1 : Int32) else 0) = 0 by simp [c1], if_pos rfl, if_neg (by omega)]
      exact ⟨S, rfl, h, gM.refl S⟩
theorem e_gbM_loop {s z m f : Nat} {x2 : Int32} {kont : Int32 → it_SS → Option (Int32 × it_SS)} (hk : ∀ v S, kont v S = some (v, S)) (hs : s < 4) (hz : z ≤ 40) (ez : sz s = nI z) (hm : m ≤ 6) (hf : f < 2 ^ 31) : ∀ (k i fu : Nat) (r : Int32) (S A : it_SS) (G : Nat), i + k = m → k < fu → (i = 0 ∨ f + 2 * i ≤ 41) → IM S A G tb T n by' ik AK GK so sz ce → IR A G tb T n by' ik AK GK so sz → ∃ S', lp_X6_guestsBy_64 κ (nI s) x2 (nI f) (nI m) kont fu r (nI i) S = some ((sp_gb (ce s) z k (f + 2 * i) A G r).1, S') ∧ IM S' (sp_gb (ce s) z k (f + 2 * i) A G r).2.1 (sp_gb (ce s) z k (f + 2 * i) A G r).2.2 tb T n by' ik AK GK so sz ce ∧ gX S S' := by
  intro k
  induction k with
  | zero =>
    intro i fu r S A G hi hfu hle h hr
    obtain ⟨fu, rfl⟩ : ∃ m, fu = m + 1 := ⟨fu - 1, by omega⟩
    obtain rfl : i = m := by omega
    exact ⟨S, by rw [lp_X6_guestsBy_64, if_pos (Int32.le_refl _), hk]; rfl, h, gX.refl S⟩
  | succ k ih =>
    intro i fu r S A G hi hfu hle h hr
    obtain ⟨fu, rfl⟩ : ∃ m, fu = m + 1 := ⟨fu - 1, by omega⟩
    have h5 := h.2.2.2.2 s hs
    have hsc : (nI s).toNatClampNeg = s := nI_clamp (by omega)
    have hz2 : (nI z - 2).toInt = (z : Int) - 2 := pk_sub_toInt (b := 2) (by omega) (by decide)
    rw [lp_X6_guestsBy_64, if_neg (nI_ge (by omega) (by omega)), if_neg (nI_pos hf), nI_2, nI_add, if_neg (show ¬ nI (f + 2 * i) < nI f by rcases hle with rfl | hle; exact nI_nlt (by omega) (by omega); exact nI_nlt (by omega) (by omega)), hsc, h5.2.1, ez, sp_gb]
    by_cases c2 : f + 2 * i + 1 < z
    · have c2' : nI (f + 2 * i) ≤ nI z - 2 := by
        rw [Int32.le_iff_toInt_le, hz2, nI_toInt (by omega)]
        omega
      rw [if_pos c2', nI_40, nI_add, nI_1, nI_1, if_pos (bd_nI (by omega) (by decide)), if_pos (bd_nI (by omega) (by decide)), nI_clamp (by omega), nI_clamp (by omega), h5.2.2 _ (by omega), show 40 * s + (f + 2 * i) + 1 = 40 * s + (f + 2 * i + 1) by omega, h5.2.2 _ (by omega), if_pos c2, Int32.add_zero]
      have ei : f + 2 * i + 2 = f + 2 * (i + 1) := by omega
      by_cases c3 : G < 6 ∧ sp_in (ce s (f + 2 * i)) 0 59 = true ∧ sp_in (ce s (f + 2 * i + 1)) (-99) 99 = true
      · rw [e_guest6 h.1 hr.1 c3.1 c3.2.1 c3.2.2, it_bi_some, if_neg (nI_pos (by omega)), if_pos c3, ei]
        have h' : IM _ _ (G + 1) tb T n by' ik AK GK so sz ce := h.mk' (h.1.adm (x := ce s (f + 2 * i)) (y := ce s (f + 2 * i + 1)) c3.1) (fun j hj => by rw [it_up_eq, upd, if_neg (by omega), it_up_ne (by decide), it_up_ne (by decide), it_up_ne (by decide), it_up_ne (by decide)]) (fun b h1 h2 => by rw [it_up_ne (by omega), it_up_ne (by omega), it_up_ne (by omega), it_up_ne (by omega), it_up_ne (by omega)])
        obtain ⟨S2, b1, b2, b3⟩ := ih (i + 1) fu (r + 1) _ _ (G + 1) (by omega) (by omega) (by omega) h' (hr.adm c3.1 c3.2.1 c3.2.2)
        exact ⟨S2, b1, b2, gX.trans (fun b hb => by rw [it_up_ne (by omega), it_up_ne (by omega), it_up_ne (by omega), it_up_ne (by omega), it_up_ne (by omega)]) b3⟩
      · obtain ⟨w, hw, e1⟩ := e_guest_no (κ := κ) h.1 hr.1 c3
        rw [e1, it_bi_some, if_pos hw, if_neg c3, ei]
        exact ih (i + 1) fu r S A G (by omega) (by omega) (by omega) h hr
    · have c2' : ¬ nI (f + 2 * i) ≤ nI z - 2 := by
        rw [Int32.le_iff_toInt_le, hz2]
        rcases hle with rfl | hle
        · rw [nI_toInt (by omega)]
          omega
        · rw [nI_toInt (by omega)]
          omega
      rw [if_neg c2', if_neg c2]
      exact ⟨S, rfl, h, gX.refl S⟩
theorem q_guestsBy (x y z w : Int32) : Eqv κ (f_X5_guestsBy κ x y z w) (f_X6_guestsBy κ x y z w) := Eqv.of fun A G tb T n by' ik AK GK so sz ce hr => by
  cases hx : sp_in x 0 3 with
  | false =>
    refine ⟨-2, A, G, n, by', ik, AK, GK, so, sz, ce, hr, fun S h => ⟨S, ?_, h, gM.refl S⟩, fun S h => ⟨S, ?_, h, gX.refl S⟩⟩
    · simp only [f_X5_guestsBy, e_isNoSheet, hx, bi_s, Bool.false_eq_true, ↓reduceIte, i10]
    · simp only [f_X6_guestsBy, e_in, hx, bi_s, Bool.false_eq_true, ↓reduceIte, i10]
  | true =>
  obtain ⟨s, hs, rfl, hb4, hc⟩ := in_3 hx
  cases hy : sp_in y 0 2 with
  | false =>
    refine ⟨-2, A, G, n, by', ik, AK, GK, so, sz, ce, hr, fun S h => ⟨S, ?_, h, gM.refl S⟩, fun S h => ⟨S, ?_, h, gX.refl S⟩⟩
    · simp only [f_X5_guestsBy, e_isNoSheet, e_isOutside, hx, hy, bi_s, Bool.false_eq_true, ↓reduceIte, i10]
    · simp only [f_X6_guestsBy, e_in, hx, hy, bi_s, Bool.false_eq_true, ↓reduceIte, i10]
  | true =>
  cases hw : sp_in w 0 6 with
  | false =>
    refine ⟨-2, A, G, n, by', ik, AK, GK, so, sz, ce, hr, fun S h => ⟨S, ?_, h, gM.refl S⟩, fun S h => ⟨S, ?_, h, gX.refl S⟩⟩
    · simp only [f_X5_guestsBy, e_isNoSheet, e_isOutside, hx, hy, hw, bi_s, Bool.false_eq_true, ↓reduceIte, i10]
    · simp only [f_X6_guestsBy, e_in, hx, hy, hw, bi_s, Bool.false_eq_true, ↓reduceIte, i10]
  | true =>
  obtain ⟨m, hm, rfl⟩ := in_nI (m := 6) (by decide) hw
  obtain ⟨-, v, hv, ev⟩ := hr.2.2.2.2.2.2.1 s hs
  by_cases h1 : so s = -1
  · refine ⟨-11, A, G, n, by', ik, AK, GK, so, sz, ce, hr, fun S h => ⟨S, ?_, h, gM.refl S⟩, fun S h => ⟨S, ?_, h, gX.refl S⟩⟩
    · simp only [f_X5_guestsBy, e_isNoSheet, e_isOutside, hx, hy, hw, bi_s, Bool.false_eq_true, ↓reduceIte, i10, hb4, hc, (h.2.2.2.2 s hs).1, h1]
    · simp only [f_X6_guestsBy, e_in, hx, hy, hw, bi_s, Bool.false_eq_true, ↓reduceIte, i10, hb4, hc, (h.2.2.2.2 s hs).1, h1]
  by_cases h2 : so s = y
  case neg =>
    refine ⟨-13, A, G, n, by', ik, AK, GK, so, sz, ce, hr, fun S h => ⟨S, ?_, h, gM.refl S⟩, fun S h => ⟨S, ?_, h, gX.refl S⟩⟩
    · simp only [f_X5_guestsBy, e_isNoSheet, e_isOutside, hx, hy, hw, bi_s, Bool.false_eq_true, ↓reduceIte, i10, hb4, hc, (h.2.2.2.2 s hs).1, h1, h2]
    · simp only [f_X6_guestsBy, e_in, hx, hy, hw, bi_s, Bool.false_eq_true, ↓reduceIte, i10, hb4, hc, (h.2.2.2.2 s hs).1, h1, h2]
  subst h2
  by_cases hz : z < 0
  · by_cases hm0 : m = 0
    · subst hm0
      refine ⟨0, A, G, n, by', ik, AK, GK, so, sz, ce, hr, fun S h => ⟨S, ?_, h, gM.refl S⟩, fun S h => ⟨S, ?_, h, gX.refl S⟩⟩
      · simp only [f_X5_guestsBy, e_isNoSheet, e_isOutside, hx, hy, hw, bi_s, Bool.false_eq_true, ↓reduceIte, i10, hb4, hc, (h.2.2.2.2 s hs).1, h1]
        rw [show it_FU = 99999 + 1 from rfl, lp_X5_guestsBy_71, if_pos (show nI 0 ≤ 0 by decide)]
      · simp only [f_X6_guestsBy, e_in, hx, hy, hw, bi_s, Bool.false_eq_true, ↓reduceIte, i10, hb4, hc, (h.2.2.2.2 s hs).1, h1]
        rw [show it_FU = 99999 + 1 from rfl, lp_X6_guestsBy_64, if_pos (show nI 0 ≤ 0 by decide)]
    · refine ⟨-12, A, G, n, by', ik, AK, GK, so, sz, ce, hr, fun S h => ⟨S, ?_, h, gM.refl S⟩, fun S h => ⟨S, ?_, h, gX.refl S⟩⟩
      · simp only [f_X5_guestsBy, e_isNoSheet, e_isOutside, hx, hy, hw, bi_s, Bool.false_eq_true, ↓reduceIte, i10, hb4, hc, (h.2.2.2.2 s hs).1, h1]
        rw [show it_FU = 99999 + 1 from rfl, lp_X5_guestsBy_71, if_neg (show ¬ nI m ≤ 0 from nI_nle (by omega) (by omega)), f_X2_has, if_pos hz, it_bi_some, if_pos rfl]
      · simp only [f_X6_guestsBy, e_in, hx, hy, hw, bi_s, Bool.false_eq_true, ↓reduceIte, i10, hb4, hc, (h.2.2.2.2 s hs).1, h1]
        rw [show it_FU = 99999 + 1 from rfl, lp_X6_guestsBy_64, if_neg (show ¬ nI m ≤ 0 from nI_nle (by omega) (by omega)), if_pos hz]
  · obtain ⟨f, hf, rfl⟩ := nI_of hz
    refine ⟨(sp_gb (ce s) v m f A G 0).1, (sp_gb (ce s) v m f A G 0).2.1, (sp_gb (ce s) v m f A G 0).2.2, n, by', ik, AK, GK, so, sz, ce, IR.gb m f A G 0 hr, fun S h => ?_, fun S h => ?_⟩
    · obtain ⟨S1, a1, a2, a3⟩ := e_gb_loop (κ := κ) (x2 := so s) (x3 := nI f) (kont := fun v25 S26 => some (v25, S26)) (fun _ _ => rfl) hs hv ev hm hf m 0 it_FU 0 S A G (by omega) (by show m < 100000; omega) (Or.inl rfl) h hr
      refine ⟨S1, ?_, a2, a3⟩
      simp only [f_X5_guestsBy, e_isNoSheet, e_isOutside, hx, hy, hw, bi_s, Bool.false_eq_true, ↓reduceIte, i10, hb4, hc, (h.2.2.2.2 s hs).1, h1]
      exact a1
    · obtain ⟨S1, a1, a2, a3⟩ := e_gbM_loop (κ := κ) (x2 := so s) (kont := fun v22 S23 => some (v22, S23)) (fun _ _ => rfl) hs hv ev hm hf m 0 it_FU 0 S A G (by omega) (by show m < 100000; omega) (Or.inl rfl) h hr
      refine ⟨S1, ?_, a2, a3⟩
      simp only [f_X6_guestsBy, e_in, hx, hy, hw, bi_s, Bool.false_eq_true, ↓reduceIte, i10, hb4, hc, (h.2.2.2.2 s hs).1, h1]
      exact a1
/-! what lies at a place, taken for one of a kind -/
def sp_un (a b : Nat) : Bool := decide (b = 0 ∨ a = b ∨ (b = 1 ∧ a = 3) ∨ (b = 2 ∧ a = 4))
theorem e_isUnder {a b : Nat} (ha : a < 6) (hb : b < 7) : f_X6_isUnder κ (nI a) (nI b) S = some (if sp_un a b = true then 1 else 0, S) := by
  have q : ∀ c d : Nat, c < 7 → d < 7 → (nI c = nI d) = (c = d) := fun c d hc hd => propext (nI_eq (by omega) (by omega))
  rw [f_X6_isUnder, sp_un]
  simp only [show (nI b = 0) = (b = 0) from q b 0 hb (by decide), show (nI b = 1) = (b = 1) from q b 1 hb (by decide), show (nI b = 2) = (b = 2) from q b 2 hb (by decide), show (nI a = 3) = (a = 3) from q a 3 (by omega) (by decide), show (nI a = 4) = (a = 4) from q a 4 (by omega) (by decide), q a b (by omega) hb, decide_eq_true_eq]
  repeat' split
  all_goals first | rfl | (exfalso; omega)
theorem ok_step {a i f : Nat} {x0 x1 : Int32} {kont : it_SS → Option (Int32 × it_SS)} (ha : a < 6) (hi : i < 6) : lp_X5_isOfKind_4 κ x0 x1 kont (f + 1) (nI a) (nI i) S = if nI a = x1 then some (1, S) else lp_X5_isOfKind_4 κ x0 x1 kont f (it_above.getD a 0) (nI (i + 1)) S := by
  rw [lp_X5_isOfKind_4, if_neg (show ¬ 6 ≤ nI i from nI_ge (b := 6) hi (by decide)), e_isOutside, it_bi_some, show sp_in (nI a) 0 5 = true from (in_nn (a := a) (b := 0) (c := 5) (by omega) (by decide) (by decide)).trans (decide_eq_true (by omega)), if_pos rfl, if_pos rfl, if_pos (bd_nI ha (by decide)), nI_clamp (by omega), nI_1]
theorem ok_out {i f : Nat} {x0 x1 : Int32} {kont : it_SS → Option (Int32 × it_SS)} (hi : i < 6) : lp_X5_isOfKind_4 κ x0 x1 kont (f + 1) (-1) (nI i) S = kont S := by
  rw [lp_X5_isOfKind_4, if_neg (show ¬ 6 ≤ nI i from nI_ge (b := 6) hi (by decide)), e_isOutside, it_bi_some, show sp_in (-1) 0 5 = false from by decide, if_neg (by decide)]
theorem e_isOfKind {a b : Nat} (ha : a < 6) (hb : b < 7) : f_X5_isOfKind κ (nI a) (nI b) S = some (if sp_un a b = true then 1 else 0, S) := by
  have q : ∀ c d : Nat, c < 7 → d < 7 → (nI c = nI d) = (c = d) := fun c d hc hd => propext (nI_eq (by omega) (by omega))
  rw [f_X5_isOfKind, show it_FU = 99996 + 1 + 1 + 1 + 1 from rfl, sp_un, show (0 : Int32) = nI 0 from rfl]
  rcases (show a = 0 ∨ a = 1 ∨ a = 2 ∨ a = 3 ∨ a = 4 ∨ a = 5 by omega) with rfl | rfl | rfl | rfl | rfl | rfl
  · rw [ok_step (by decide) (by decide), show it_above.getD 0 0 = -1 from rfl, ok_out (by decide)]
    simp only [q 0 b (by decide) hb, decide_eq_true_eq]
    rcases (show b = 0 ∨ b = 1 ∨ b = 2 ∨ b = 3 ∨ b = 4 ∨ b = 5 ∨ b = 6 by omega) with rfl | rfl | rfl | rfl | rfl | rfl | rfl
    all_goals rfl
  · rw [ok_step (by decide) (by decide), show it_above.getD 1 0 = nI 0 from rfl, ok_step (by decide) (by decide), show it_above.getD 0 0 = -1 from rfl, ok_out (by decide)]
    simp only [q 0 b (by decide) hb, q 1 b (by decide) hb, decide_eq_true_eq]
    rcases (show b = 0 ∨ b = 1 ∨ b = 2 ∨ b = 3 ∨ b = 4 ∨ b = 5 ∨ b = 6 by omega) with rfl | rfl | rfl | rfl | rfl | rfl | rfl
    all_goals rfl
  · rw [ok_step (by decide) (by decide), show it_above.getD 2 0 = nI 0 from rfl, ok_step (by decide) (by decide), show it_above.getD 0 0 = -1 from rfl, ok_out (by decide)]
    simp only [q 0 b (by decide) hb, q 2 b (by decide) hb, decide_eq_true_eq]
    rcases (show b = 0 ∨ b = 1 ∨ b = 2 ∨ b = 3 ∨ b = 4 ∨ b = 5 ∨ b = 6 by omega) with rfl | rfl | rfl | rfl | rfl | rfl | rfl
    all_goals rfl
  · rw [ok_step (by decide) (by decide), show it_above.getD 3 0 = nI 1 from rfl, ok_step (by decide) (by decide), show it_above.getD 1 0 = nI 0 from rfl, ok_step (by decide) (by decide), show it_above.getD 0 0 = -1 from rfl, ok_out (by decide)]
    simp only [q 0 b (by decide) hb, q 1 b (by decide) hb, q 3 b (by decide) hb, decide_eq_true_eq]
    rcases (show b = 0 ∨ b = 1 ∨ b = 2 ∨ b = 3 ∨ b = 4 ∨ b = 5 ∨ b = 6 by omega) with rfl | rfl | rfl | rfl | rfl | rfl | rfl
    all_goals rfl
  · rw [ok_step (by decide) (by decide), show it_above.getD 4 0 = nI 2 from rfl, ok_step (by decide) (by decide), show it_above.getD 2 0 = nI 0 from rfl, ok_step (by decide) (by decide), show it_above.getD 0 0 = -1 from rfl, ok_out (by decide)]
    simp only [q 0 b (by decide) hb, q 2 b (by decide) hb, q 4 b (by decide) hb, decide_eq_true_eq]
    rcases (show b = 0 ∨ b = 1 ∨ b = 2 ∨ b = 3 ∨ b = 4 ∨ b = 5 ∨ b = 6 by omega) with rfl | rfl | rfl | rfl | rfl | rfl | rfl
    all_goals rfl
  · rw [ok_step (by decide) (by decide), show it_above.getD 5 0 = nI 0 from rfl, ok_step (by decide) (by decide), show it_above.getD 0 0 = -1 from rfl, ok_out (by decide)]
    simp only [q 0 b (by decide) hb, q 5 b (by decide) hb, decide_eq_true_eq]
    rcases (show b = 0 ∨ b = 1 ∨ b = 2 ∨ b = 3 ∨ b = 4 ∨ b = 5 ∨ b = 6 by omega) with rfl | rfl | rfl | rfl | rfl | rfl | rfl
    all_goals rfl
theorem q_taken (x y : Int32) : Eqv κ (f_X5_taken κ x y) (f_X6_taken κ x y) := Eqv.ask fun A G tb T n by' ik AK GK so sz ce hr => by
  have hG := hr.1.2.1
  cases hy : sp_in y 0 6 with
  | false =>
    refine ⟨-200, fun S h => ⟨S, ?_, h, gM.refl S⟩, fun S h => ⟨S, ?_, h, gX.refl S⟩⟩
    · simp only [f_X5_taken, e_isOutside, hy, bi_s, Bool.false_eq_true, ↓reduceIte, i10]
    · simp only [f_X6_taken, e_in, hy, bi_s, Bool.false_eq_true, ↓reduceIte, i10]
  | true =>
  cases hx : sp_in x 0 15 with
  | false =>
    refine ⟨-1200, fun S h => ⟨S, ?_, h, gM.refl S⟩, fun S h => ⟨S, ?_, h, gX.refl S⟩⟩
    · simp only [f_X5_taken, e_isOutside, hx, hy, bi_s, Bool.false_eq_true, ↓reduceIte, i10]
    · simp only [f_X6_taken, e_in, hx, hy, bi_s, Bool.false_eq_true, ↓reduceIte, i10]
  | true =>
  obtain ⟨b, hb, rfl⟩ := in_nI (m := 6) (by decide) hy
  obtain ⟨i, hi, rfl⟩ := in_nI (m := 15) (by decide) hx
  have e6 : (nI b = 6) = (b = 6) := propext (nI_eq (a := b) (b := 6) (by omega) (by decide))
  by_cases h6 : i < 6
  · have c1 : nI i < 6 := nI_lt (b := 6) h6 (by decide)
    have hth : sp_th A (nI i - 6) = false := by
      rw [sp_th, bd_f (by decide) (by rw [show (nI i - 6).toInt = (i : Int) - 6 from pk_sub_toInt (b := 6) (by omega) (by decide)]; omega)]
      rfl
    by_cases hg : i < G
    · have hbd : it_bd (nI i) G = true := bd_nI hg (by omega)
      have hk := hr.2.2.2.2.2.2.2 i hg
      obtain ⟨a, ha, ea⟩ : ∃ a, a < 6 ∧ A 2 i = nI a := by
        obtain ⟨a, ha, ea⟩ := nI_of (x := A 2 i) (by rw [Int32.lt_iff_toInt_lt, i_0]; omega)
        rw [ea, nI_toInt ha] at hk
        exact ⟨a, by omega, ea⟩
      refine ⟨if b < 6 ∧ sp_un a b = true then nI i else -1300, fun S h => ⟨S, ?_, h, gM.refl S⟩, fun S h => ⟨S, ?_, h, gX.refl S⟩⟩
      · have ek : S (9 + 1) i = nI a := ((h.1.1 i h6).1).trans ea
        simp only [f_X5_taken, e_isOutside, hx, hy, bi_s, Bool.false_eq_true, ↓reduceIte, i10, e_hasGuest (h.g hr) hG, hbd, e_hasGlass h.1 hr.1, hth, bd_nI h6 (show 6 < 2 ^ 31 by decide), nI_clamp (show i < 2 ^ 31 by omega), ek, e_isOfKind ha (show b < 7 by omega)]
        by_cases hu : sp_un a b = true
        · have hb6 : b < 6 := by
            rw [sp_un, decide_eq_true_eq] at hu
            omega
          rw [hu, if_pos rfl, if_neg (by decide), if_pos ⟨hb6, rfl⟩]
        · rw [if_neg hu, if_pos rfl, if_neg (fun q => hu q.2)]
      · have ek : S 46 i = nI a := ((h.1.1 i hg).1).trans ea
        have c2 : nI i < nI G := nI_lt hg (by omega)
        simp only [f_X6_taken, e_in, hx, hy, bi_s, Bool.false_eq_true, ↓reduceIte, i10, c1, h.g hr, c2, bd_nI h6 (show 6 < 2 ^ 31 by decide), nI_clamp (show i < 2 ^ 31 by omega), ek, e_isUnder ha (show b < 7 by omega)]
        by_cases hb6 : b < 6
        · rw [if_neg (show ¬ 6 ≤ nI b from nI_ge (b := 6) hb6 (by decide))]
          by_cases hu : sp_un a b = true
          · rw [hu, if_pos rfl, if_neg (by decide), if_pos ⟨hb6, rfl⟩]
          · rw [if_neg hu, if_pos rfl, if_neg (fun q => hu q.2)]
        · rw [if_pos (show 6 ≤ nI b from nI_le (a := 6) (by omega) (by omega)), if_neg (fun q => hb6 q.1)]
    · have hbd : it_bd (nI i) G = false := by
        rw [bd_nn (by omega) (by omega)]
        exact decide_eq_false hg
      have c2 : ¬ nI i < nI G := nI_nlt (by omega) (by omega)
      refine ⟨-1100, fun S h => ⟨S, ?_, h, gM.refl S⟩, fun S h => ⟨S, ?_, h, gX.refl S⟩⟩
      · simp only [f_X5_taken, e_isOutside, hx, hy, bi_s, Bool.false_eq_true, ↓reduceIte, i10, e_hasGuest (h.g hr) hG, hbd, e_hasGlass h.1 hr.1, hth]
      · simp only [f_X6_taken, e_in, hx, hy, bi_s, Bool.false_eq_true, ↓reduceIte, i10, c1, h.g hr, c2]
  · have c1 : ¬ nI i < 6 := nI_nlt (b := 6) (by omega) (by omega)
    have hbd : it_bd (nI i) G = false := by
      rw [bd_nn (by omega) (by omega)]
      exact decide_eq_false (by omega)
    have es : nI i - 6 = nI (i - 6) := pk_sub (b := 6) (by omega)
    have hth : sp_th A (nI (i - 6)) = decide (¬ A 6 (i - 6) = -1) := th_nI (by omega)
    by_cases ht : A 6 (i - 6) = -1
    · have hth' : sp_th A (nI (i - 6)) = false := by rw [hth]; exact decide_eq_false (fun q => q ht)
      refine ⟨-1100, fun S h => ⟨S, ?_, h, gM.refl S⟩, fun S h => ⟨S, ?_, h, gX.refl S⟩⟩
      · simp only [f_X5_taken, e_isOutside, hx, hy, bi_s, Bool.false_eq_true, ↓reduceIte, i10, e_hasGuest (h.g hr) hG, hbd, es, e_hasGlass h.1 hr.1, hth']
      · simp only [f_X6_taken, e_in, hx, hy, bi_s, Bool.false_eq_true, ↓reduceIte, i10, c1, es, e_isThere h.1, hth']
    · have hth' : sp_th A (nI (i - 6)) = true := by rw [hth]; exact decide_eq_true ht
      refine ⟨if b = 6 then A 7 (i - 6) else -1300, fun S h => ⟨S, ?_, h, gM.refl S⟩, fun S h => ⟨S, ?_, h, gX.refl S⟩⟩
      · simp only [f_X5_taken, e_isOutside, hx, hy, bi_s, Bool.false_eq_true, ↓reduceIte, i10, e_hasGuest (h.g hr) hG, hbd, es, e_hasGlass h.1 hr.1, hth', e6, bd_nI (show i - 6 < 10 by omega) (show 10 < 2 ^ 31 by decide), nI_clamp (show i - 6 < 2 ^ 31 by omega), (h.1.2.1 (i - 6) (by omega)).2.1]
        split <;> rfl
      · have ec : sp_cl (nI (i - 6)) 0 9 = nI (i - 6) := by
          rw [sp_cl, if_neg (nI_pos (by omega)), if_neg (show ¬ 9 < nI (i - 6) from nI_nlt (a := 9) (by omega) (by decide))]
        simp only [f_X6_taken, e_in, hx, hy, bi_s, Bool.false_eq_true, ↓reduceIte, i10, c1, es, e_isThere h.1, hth', e6, e_within, ec, nI_3, nI_1, bd_nI (show 3 * (i - 6) + 1 < 30 by omega) (show 30 < 2 ^ 31 by decide), nI_clamp (show 3 * (i - 6) + 1 < 2 ^ 31 by omega), (h.1.2.2.1 (i - 6) (by omega)).2.1]
        split <;> rfl
end HOST
