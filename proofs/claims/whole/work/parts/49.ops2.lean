theorem bd_iff {x : Int32} {n : Nat} (hn : n < 2 ^ 31) : it_bd x n = true ↔ 0 ≤ x.toInt ∧ x.toInt < n := by
  rw [← vp_in_iff]
  constructor
  · exact it_bd_in
  · intro h
    obtain ⟨j, hj, rfl⟩ := vp_in_of h hn
    exact bd_nI hj hn
theorem in_bd {x : Int32} {G : Nat} (hG : G ≤ 1000) : sp_in x 0 (nI G - 1) = it_bd x G := by
  have h1 : (1 : Int32).toInt = 1 := by decide
  have hg : (nI G).toInt = (G : Int) := nI_toInt (by omega)
  have hs : (nI G - 1).toInt = (G : Int) - 1 := by
    rw [i_sub (by rw [hg, h1]; omega) (by rw [hg, h1]; omega), hg, h1]
  have key : sp_in x 0 (nI G - 1) = true ↔ it_bd x G = true := by
    rw [bd_iff (by omega)]
    simp only [sp_in, Bool.and_eq_true, decide_eq_true_eq, Int32.le_iff_toInt_le, i_0, hs]
    omega
  cases h : it_bd x G with
  | true => exact key.mpr h
  | false =>
    cases h2 : sp_in x 0 (nI G - 1) with
    | false => rfl
    | true => rw [key.mp h2] at h; cases h
theorem e_isOne {κ : it_KK} {S : it_SS} {G : Nat} (h : S 45 0 = nI G) (hG : G ≤ 6) (x : Int32) : f_X6_isOne κ x S = some (if it_bd x G = true then 1 else 0, S) := by
  rw [f_X6_isOne, h, e_in, it_bi_some, in_bd (by omega)]
  cases it_bd x G <;> rfl
theorem bd_mono {x : Int32} {m n : Nat} (h : it_bd x m = true) (hmn : m ≤ n) (hn : n < 2 ^ 31) : it_bd x n = true := by
  obtain ⟨j, hj, rfl⟩ := bd_of h
  exact bd_nI (by omega) hn
/-! a guest comes -/
def sp_adm (A : it_SS) (G : Nat) (x y : Int32) : it_SS := it_up (it_up (it_up (it_up (it_up A 2 G (x / 10)) 3 G (x - x / 10 * 10)) 4 G y) 5 G 0) 1 0 (nI (G + 1))
theorem e_admit {κ : it_KK} {S A : it_SS} {u G T : Nat} {x y : Int32} (hx : hX S u A) (hr : hR A G T) (h6 : G < 6) (hi : sp_in x 0 59 = true) (hj : sp_in y (-99) 99 = true) : ∃ S', f_X0_admit κ u x y S = some (nI G, S') ∧ hX S' u (sp_adm A G x y) ∧ ∀ b, b < u ∨ u + 7 < b → S' b = S b := by
  have h1 : S u 1 = nI G := hx.2.2.1.trans hr.1
  have hGc : (nI G).toNatClampNeg = G := nI_clamp (by omega)
  have hX1 := (((hx.up (k := 1) (j := G) (v := x / 10) (by decide) (by decide)).up (k := 2) (j := G) (v := x - x / 10 * 10) (by decide) (by decide)).up (k := 3) (j := G) (v := y) (by decide) (by decide)).up (k := 4) (j := G) (v := 0) (by decide) (by decide)
  refine ⟨_, ?_, hX1.upd0 (f := 1) (v := nI (G + 1)) (Or.inl rfl), fun b hb => ?_⟩
  · rw [f_X0_admit, e_isOutside, it_bi_some, hi, if_pos rfl, if_pos rfl, e_isOutside, it_bi_some, hj, if_pos rfl, if_pos rfl]
    simp only [it_up_ne (show u ≠ u + 1 by omega), it_up_ne (show u ≠ u + 2 by omega), it_up_ne (show u ≠ u + 3 by omega), it_up_ne (show u ≠ u + 4 by omega), h1, hGc, if_pos (show nI G < 6 from nI_lt (b := 6) h6 (by decide)), if_pos (bd_nI h6 (show 6 < 2 ^ 31 by decide)), it_up_eq, nI_1]
    simp only [upd, if_true, nI_pred]
  · rw [it_up_ne (by omega), it_up_ne (by omega), it_up_ne (by omega), it_up_ne (by omega), it_up_ne (by omega)]
theorem hM.adm {S A : it_SS} {G : Nat} {x y : Int32} (h : hM S A G) (h6 : G < 6) : hM (it_up (it_up (it_up (it_up (it_up S 46 G (x / 10)) 47 G (x - x / 10 * 10)) 48 (2 * G) y) 48 (2 * G + 1) 0) 45 0 (nI (G + 1))) (sp_adm A G x y) (G + 1) := by
  have h0 : hM (it_up (it_up S 46 G (x / 10)) 47 G (x - x / 10 * 10)) (it_up (it_up A 2 G (x / 10)) 3 G (x - x / 10 * 10)) (G + 1) := by
    obtain ⟨a1, a2, a3, a4, a5, a6⟩ := h
    refine ⟨fun p hp => ?_, fun p hp => ?_, fun j hj => ?_, ?_, ?_, ?_⟩
    · rw [it_up_ne (show (46 : Nat) ≠ 47 by decide), it_up_eq, it_up_eq, it_up_ne (show (47 : Nat) ≠ 46 by decide), it_up_ne (show (2 : Nat) ≠ 3 by decide), it_up_eq, it_up_eq, it_up_ne (show (3 : Nat) ≠ 2 by decide)]
      by_cases e : p = G
      · subst e
        simp [upd]
      · rw [upd, upd, upd, upd, if_neg e, if_neg e, if_neg e, if_neg e]
        exact a1 p (by omega)
    · rw [it_up_ne (by decide), it_up_ne (by decide), it_up_ne (show (4 : Nat) ≠ 3 by decide), it_up_ne (show (4 : Nat) ≠ 2 by decide), it_up_ne (show (5 : Nat) ≠ 3 by decide), it_up_ne (show (5 : Nat) ≠ 2 by decide)]
      exact a2 p hp
    · rw [it_up_ne (by decide), it_up_ne (by decide), it_up_ne (show (6 : Nat) ≠ 3 by decide), it_up_ne (show (6 : Nat) ≠ 2 by decide), it_up_ne (show (7 : Nat) ≠ 3 by decide), it_up_ne (show (7 : Nat) ≠ 2 by decide), it_up_ne (show (8 : Nat) ≠ 3 by decide), it_up_ne (show (8 : Nat) ≠ 2 by decide)]
      exact a3 j hj
    · rw [it_up_ne (by decide), it_up_ne (by decide), it_up_ne (show (1 : Nat) ≠ 3 by decide), it_up_ne (show (1 : Nat) ≠ 2 by decide)]
      exact a4
    · rw [it_up_ne (by decide), it_up_ne (by decide), it_up_ne (show (9 : Nat) ≠ 3 by decide), it_up_ne (show (9 : Nat) ≠ 2 by decide)]
      exact a5
    · rw [it_up_ne (by decide), it_up_ne (by decide), it_up_ne (show (10 : Nat) ≠ 3 by decide), it_up_ne (show (10 : Nat) ≠ 2 by decide)]
      exact a6
  exact ((h0.up48 (k := 0) (p := G) (v := y) (by decide)).up48 (k := 1) (p := G) (v := 0) (by decide)).upd0 (f := 1) (i := 0) (Or.inl ⟨rfl, rfl⟩)
theorem rem10 {x : Int32} (h : sp_in x 0 59 = true) : 0 ≤ (x - x / 10 * 10).toInt ∧ (x - x / 10 * 10).toInt ≤ 9 := by
  obtain ⟨j, hj, rfl⟩ := in_nI (m := 59) (by decide) h
  rw [show (10 : Int32) = nI 10 from rfl, pk_rem (by omega) (by decide) (by decide), nI_toInt (by omega)]
  omega
theorem hR.adm {A : it_SS} {G T : Nat} {x y : Int32} (hr : hR A G T) (h6 : G < 6) (hi : sp_in x 0 59 = true) (hj : sp_in y (-99) 99 = true) : hR (sp_adm A G x y) (G + 1) T := by
  have hm := rem10 hi
  have hy := in_rng hj
  rw [i_m99, i_99] at hy
  obtain ⟨a1, a2, a3, a4, a5, a6, a7⟩ := hr
  refine ⟨by simp [sp_adm, it_up, upd], by omega, fun j hj => ?_, ?_, fun p hp => ?_, fun p hp => ?_, fun j hj => ?_⟩
  · rw [sp_adm, it_up_ne (by decide), it_up_ne (by decide), it_up_ne (by decide), it_up_ne (by decide), it_up_ne (by decide)]
    rcases a3 j hj with h | ⟨p, hp, h⟩
    · exact Or.inl h
    · exact Or.inr ⟨p, by omega, h⟩
  · rw [sp_adm, it_up_ne (by decide), it_up_ne (by decide), it_up_ne (by decide), it_up_ne (by decide), it_up_ne (by decide)]
    exact a4
  · rw [sp_adm, it_up_ne (by decide), it_up_ne (by decide), it_up_ne (by decide), it_up_eq, it_up_ne (by decide), upd]
    by_cases e : p = G
    · rw [if_pos e]; exact hm
    · rw [if_neg e]; exact a5 p (by omega)
  · rw [sp_adm, it_up_ne (show (4 : Nat) ≠ 1 by decide), it_up_ne (show (4 : Nat) ≠ 5 by decide), it_up_eq, it_up_ne (show (4 : Nat) ≠ 3 by decide), it_up_ne (show (4 : Nat) ≠ 2 by decide), it_up_ne (show (5 : Nat) ≠ 1 by decide), it_up_eq, it_up_ne (show (5 : Nat) ≠ 4 by decide), it_up_ne (show (5 : Nat) ≠ 3 by decide), it_up_ne (show (5 : Nat) ≠ 2 by decide), upd, upd]
    by_cases e : p = G
    · rw [if_pos e, if_pos e, i_0]; omega
    · rw [if_neg e, if_neg e]; exact a6 p hp
  · rw [sp_adm, it_up_ne (show (7 : Nat) ≠ 1 by decide), it_up_ne (show (7 : Nat) ≠ 5 by decide), it_up_ne (show (7 : Nat) ≠ 4 by decide), it_up_ne (show (7 : Nat) ≠ 3 by decide), it_up_ne (show (7 : Nat) ≠ 2 by decide), it_up_ne (show (8 : Nat) ≠ 1 by decide), it_up_ne (show (8 : Nat) ≠ 5 by decide), it_up_ne (show (8 : Nat) ≠ 4 by decide), it_up_ne (show (8 : Nat) ≠ 3 by decide), it_up_ne (show (8 : Nat) ≠ 2 by decide)]
    exact a7 j hj
theorem adm_dR {A : it_SS} {G : Nat} {x y : Int32} (h : dR A) : dR (sp_adm A G x y) := by
  rw [dR, sp_adm, it_up_ne (by decide), it_up_ne (by decide), it_up_ne (by decide), it_up_ne (by decide), it_up_ne (by decide)]
  exact h
theorem e_guest6 {κ : it_KK} {S A : it_SS} {G T : Nat} {x y : Int32} (hx : hM S A G) (hr : hR A G T) (h6 : G < 6) (hi : sp_in x 0 59 = true) (hj : sp_in y (-99) 99 = true) : f_X6_guest κ x y S = some (nI G, it_up (it_up (it_up (it_up (it_up S 46 G (x / 10)) 47 G (x - x / 10 * 10)) 48 (2 * G) y) 48 (2 * G + 1) 0) 45 0 (nI (G + 1))) := by
  have h1 : S 45 0 = nI G := hx.2.2.2.1.trans hr.1
  have hGc : (nI G).toNatClampNeg = G := nI_clamp (by omega)
  rw [f_X6_guest, e_in, it_bi_some, hi, if_pos rfl, if_neg (by decide), e_in, it_bi_some, hj, if_pos rfl, if_neg (by decide), h1, if_neg (show ¬ nI G = 6 from fun q => absurd ((nI_eq (by omega) (by decide)).mp (show nI G = nI 6 from q)) (by omega))]
  simp only [it_up_ne (show (45 : Nat) ≠ 46 by decide), it_up_ne (show (45 : Nat) ≠ 47 by decide), it_up_ne (show (45 : Nat) ≠ 48 by decide), h1, hGc, nI_2, nI_1, nI_clamp (show 2 * G < 2 ^ 31 by omega), nI_clamp (show 2 * G + 1 < 2 ^ 31 by omega), if_pos (bd_nI h6 (show 6 < 2 ^ 31 by decide)), if_pos (bd_nI (show 2 * G < 12 by omega) (show 12 < 2 ^ 31 by decide)), if_pos (bd_nI (show 2 * G + 1 < 12 by omega) (show 12 < 2 ^ 31 by decide)), it_up_eq]
  simp only [upd, if_true, nI_pred]
theorem IR.adm {A : it_SS} {G : Nat} {tb : Nat → Nat → List Nat} {T n : Nat} {by' : Nat → Int32} {ik : Int32} {AK : it_SS} {GK : Nat} {so sz : Nat → Int32} {x y : Int32} (hr : IR A G tb T n by' ik AK GK so sz) (h6 : G < 6) (hi : sp_in x 0 59 = true) (hj : sp_in y (-99) 99 = true) : IR (sp_adm A G x y) (G + 1) tb T n by' ik AK GK so sz := by
  obtain ⟨j, hj5, rfl⟩ := in_nI (m := 59) (by decide) hi
  refine ⟨hr.1.adm h6 hi hj, adm_dR hr.2.1, hr.2.2.1, hr.2.2.2.1, hr.2.2.2.2.1, ?_, hr.2.2.2.2.2.2.1, fun p hp => ?_⟩
  case refine_2 =>
    rw [sp_adm, it_up_ne (show (2 : Nat) ≠ 1 by decide), it_up_ne (show (2 : Nat) ≠ 5 by decide), it_up_ne (show (2 : Nat) ≠ 4 by decide), it_up_ne (show (2 : Nat) ≠ 3 by decide), it_up_eq, upd]
    by_cases e : p = G
    · rw [if_pos e, show (10 : Int32) = nI 10 from rfl, pk_div (by omega) (by decide) (by decide), nI_toInt (by omega)]
      omega
    · rw [if_neg e]
      exact hr.2.2.2.2.2.2.2 p (by omega)
  rcases hr.2.2.2.2.2.1 with h | ⟨g1, g2, g3, g4, g5⟩
  · exact Or.inl h
  · refine Or.inr ⟨g1, g2, g3, by omega, fun p hp => ?_⟩
    have e : ¬ p = G := by omega
    rw [sp_adm, it_up_ne (show (2 : Nat) ≠ 1 by decide), it_up_ne (show (2 : Nat) ≠ 5 by decide), it_up_ne (show (2 : Nat) ≠ 4 by decide), it_up_ne (show (2 : Nat) ≠ 3 by decide), it_up_eq, it_up_ne (show (3 : Nat) ≠ 1 by decide), it_up_ne (show (3 : Nat) ≠ 5 by decide), it_up_ne (show (3 : Nat) ≠ 4 by decide), it_up_eq, it_up_ne (show (3 : Nat) ≠ 2 by decide), upd, upd, if_neg e, if_neg e]
    exact g5 p hp
section OPS2
variable {κ : it_KK}
theorem IX.house {S S' A A' : it_SS} {tb : Nat → Nat → List Nat} {T n : Nat} {by' : Nat → Int32} {ik : Int32} {AK : it_SS} {so sz : Nat → Int32} {ce : it_SS} (h : IX κ S A tb T n by' ik AK so sz ce) (hx : hX S' 9 A') (hf : fU 9 S S') : IX κ S' A' tb T n by' ik AK so sz ce := h.mk' hx (fun b b3 b4 b9 _ => hf b b3 b4 (by omega))
theorem IM.house {S S' A A' : it_SS} {G G' : Nat} {tb : Nat → Nat → List Nat} {T n : Nat} {by' : Nat → Int32} {ik : Int32} {AK : it_SS} {GK : Nat} {so sz : Nat → Int32} {ce : it_SS} (h : IM S A G tb T n by' ik AK GK so sz ce) (hx : hM S' A' G') (hf : fD S S') : IM S' A' G' tb T n by' ik AK GK so sz ce := h.mk' hx (fun j hj => hf.2 j (by omega)) (fun b h1 h2 => hf.1 b (by omega) (by omega) (by omega) (by omega) (by omega))
theorem q_guest (x y : Int32) : Eqv κ (f_X5_guest κ x y) (f_X6_guest κ x y) := Eqv.of fun A G tb T n by' ik AK GK so sz ce hr => by
  have hG := hr.1.2.1
  cases hi : sp_in x 0 59 with
  | false =>
    refine ⟨-2, A, G, n, by', ik, AK, GK, so, sz, ce, hr, fun S h => ⟨S, ?_, h, gM.refl S⟩, fun S h => ⟨S, ?_, h, gX.refl S⟩⟩
    · rw [f_X5_guest, f_X0_admit, e_isOutside, it_bi_some, hi]; rfl
    · rw [f_X6_guest, e_in, it_bi_some, hi]; rfl
  | true =>
    cases hj : sp_in y (-99) 99 with
    | false =>
      refine ⟨-2, A, G, n, by', ik, AK, GK, so, sz, ce, hr, fun S h => ⟨S, ?_, h, gM.refl S⟩, fun S h => ⟨S, ?_, h, gX.refl S⟩⟩
      · rw [f_X5_guest, f_X0_admit, e_isOutside, it_bi_some, hi, if_pos rfl, if_pos rfl, e_isOutside, it_bi_some, hj]; rfl
      · rw [f_X6_guest, e_in, it_bi_some, hi, if_pos rfl, if_neg (by decide), e_in, it_bi_some, hj]; rfl
    | true =>
      by_cases h6 : G < 6
      · refine ⟨nI G, sp_adm A G x y, G + 1, n, by', ik, AK, GK, so, sz, ce, hr.adm h6 hi hj, fun S h => ?_, fun S h => ?_⟩
        · obtain ⟨S1, e1, e2, e3⟩ := e_admit (κ := κ) h.1 hr.1 h6 hi hj
          exact ⟨S1, by rw [f_X5_guest, e1, it_bi_some], h.house e2 (fun b _ _ hb => e3 b hb), fun b h1 h2 => e3 b (by omega)⟩
        · refine ⟨_, e_guest6 h.1 hr.1 h6 hi hj, h.mk' (h.1.adm h6) (fun j hj => ?_) (fun b h1 h2 => ?_), fun b hb => ?_⟩
          · rw [it_up_eq, upd, if_neg (by omega), it_up_ne (by decide), it_up_ne (by decide), it_up_ne (by decide), it_up_ne (by decide)]
          · rw [it_up_ne (by omega), it_up_ne (by omega), it_up_ne (by omega), it_up_ne (by omega), it_up_ne (by omega)]
          · rw [it_up_ne (by omega), it_up_ne (by omega), it_up_ne (by omega), it_up_ne (by omega), it_up_ne (by omega)]
      · obtain rfl : G = 6 := by omega
        refine ⟨-4, A, 6, n, by', ik, AK, GK, so, sz, ce, hr, fun S h => ⟨S, ?_, h, gM.refl S⟩, fun S h => ⟨S, ?_, h, gX.refl S⟩⟩
        · rw [f_X5_guest, f_X0_admit, e_isOutside, it_bi_some, hi, if_pos rfl, if_pos rfl, e_isOutside, it_bi_some, hj, if_pos rfl, if_pos rfl, h.1.2.2.1, hr.1.1, if_neg (show ¬ nI 6 < 6 by decide)]
          rfl
        · rw [f_X6_guest, e_in, it_bi_some, hi, if_pos rfl, if_neg (by decide), e_in, it_bi_some, hj, if_pos rfl, if_neg (by decide), h.1.2.2.2.1, hr.1.1, if_pos (show nI 6 = 6 from rfl)]
theorem q_day : Eqv κ (f_X5_day κ) (f_X6_day κ) := Eqv.of fun A G tb T n by' ik AK GK so sz ce hr => by
  have hd := hr.2.1
  have e999 : (999 : Int32).toInt = 999 := by decide
  by_cases h9 : A 9 0 = 999
  · refine ⟨-3, A, G, n, by', ik, AK, GK, so, sz, ce, hr, fun S h => ⟨S, ?_, h, gM.refl S⟩, fun S h => ⟨S, ?_, h, gX.refl S⟩⟩
    · rw [f_X5_day, h.1.2.2.2.1, h9, if_neg (by decide)]
    · rw [f_X6_day, h.1.2.2.2.2.1, if_pos h9]
  · have hlt : A 9 0 < 999 := by
      rw [Int32.lt_iff_toInt_lt, e999]
      have : (A 9 0).toInt ≠ 999 := fun q => h9 (Int32.toInt_inj.mp (q.trans e999.symm))
      have := hd.2
      omega
    have hd9 : dR (sp_day tb G A) := by
      rw [Int32.lt_iff_toInt_lt, e999] at hlt
      have h1 : (1 : Int32).toInt = 1 := by decide
      rw [dR, sp_day, it_up_eq, upd, if_pos rfl, cd_ne (by decide), dl_ne (by decide) (by decide) (by decide), i_add (by have := hd.1; omega) (by omega), h1]
      have := hd.1
      omega
    refine ⟨sp_off1 tb A, sp_day tb G A, G, n, by', ik, AK, GK, so, sz, ce, hr.house hr.1.day hd9 (fun p hp => by rw [day_ne (by decide) (by decide) (by decide) (by decide) (by decide), day_ne (by decide) (by decide) (by decide) (by decide) (by decide)]; exact ⟨rfl, rfl⟩), fun S h => ?_, fun S h => ?_⟩
    · obtain ⟨S1, e1, e2, e3⟩ := e_passDay (κ := κ) (u := 9) ⟨by decide, by decide⟩ h.1 h.2.1 hr.lw hr.1
      exact ⟨S1, by rw [f_X5_day, h.1.2.2.2.1, if_pos hlt, e1, it_bi_some], h.house e2 e3, gM.of ⟨by decide, by decide⟩ e3⟩
    · obtain ⟨S1, e1, e2, e3⟩ := e_dayOf (κ := κ) h.1 h.2.1 hr.lw hr.1
      exact ⟨S1, by rw [f_X6_day, h.1.2.2.2.2.1, if_neg h9, e1, it_bi_some], h.house e2 e3, gX.fd e3⟩
theorem q_glass (x y : Int32) : Eqv κ (f_X5_glass κ x y) (f_X6_glass κ x y) := Eqv.ask fun A G tb T n by' ik AK GK so sz ce hr => by
  have hG := hr.1.2.1
  cases ht : sp_th A x with
  | false =>
    refine ⟨-6000, fun S h => ⟨S, ?_, h, gM.refl S⟩, fun S h => ⟨S, ?_, h, gX.refl S⟩⟩
    · rw [f_X5_glass, e_hasGlass h.1 hr.1, it_bi_some, ht]; rfl
    · rw [f_X6_glass, e_isThere h.1, it_bi_some, ht]; rfl
  | true =>
    obtain ⟨g, hg, rfl, h6⟩ := th_of ht
    obtain ⟨p, hp, hw, hpp⟩ := hr.1.p hg h6
    have hgc : (nI g).toNatClampNeg = g := nI_clamp (by omega)
    have hth : (if sp_th A (nI g) = true then (1 : Int32) else 0) = 1 := if_pos ht
    have e0 : 3 * nI g + 0 = nI (3 * g) := by rw [nI_3, Int32.add_zero]
    have e1 : 3 * nI g + 1 = nI (3 * g + 1) := by rw [nI_3, nI_1]
    have e2 : 3 * nI g + 2 = nI (3 * g + 2) := by rw [nI_3, nI_p2]
    refine ⟨if y = 0 then A 6 g else if y = 1 then A 7 g else if y = 2 then A 8 g else if y = 3 then sp_melt tb A g else if y = 4 then sp_feel tb A g else if y = 5 then sp_chill tb A g else -7000, fun S h => ?_, fun S h => ?_⟩
    · rw [f_X5_glass, e_hasGlass h.1 hr.1, it_bi_some, hth, if_neg (by decide), if_pos (bd_nI hg (by decide)), if_pos (bd_nI hg (by decide)), if_pos (bd_nI hg (by decide)), hgc, (h.1.2.1 g hg).1, (h.1.2.1 g hg).2.1, (h.1.2.1 g hg).2.2]
      obtain ⟨S3, a1, a2⟩ := e_melting (κ := κ) (u := 9) ⟨by decide, by decide⟩ h.1 h.2.1 hr.lw hg (by omega) hw
      obtain ⟨S4, b1, b2⟩ := e_feeling (κ := κ) (u := 9) ⟨by decide, by decide⟩ h.1 h.2.1 hr.lw hg (by omega) hw
      obtain ⟨S5, c1, c2⟩ := e_chilling (κ := κ) (u := 9) ⟨by decide, by decide⟩ h.1 h.2.1 hr.lw hg (by omega) hw
      rw [a1, b1, c1, it_bi_some, it_bi_some, it_bi_some]
      by_cases y0 : y = 0
      · rw [if_pos y0, if_pos y0]; exact ⟨S, rfl, h, gM.refl S⟩
      rw [if_neg y0, if_neg y0]
      by_cases y1 : y = 1
      · rw [if_pos y1, if_pos y1]; exact ⟨S, rfl, h, gM.refl S⟩
      rw [if_neg y1, if_neg y1]
      by_cases y2 : y = 2
      · rw [if_pos y2, if_pos y2]; exact ⟨S, rfl, h, gM.refl S⟩
      rw [if_neg y2, if_neg y2]
      by_cases y3 : y = 3
      · rw [if_pos y3, if_pos y3]; exact ⟨S3, rfl, h.thought (fun b b3 b4 _ _ => a2 b b3 b4), gM.fx a2⟩
      rw [if_neg y3, if_neg y3]
      by_cases y4 : y = 4
      · rw [if_pos y4, if_pos y4]; exact ⟨S4, rfl, h.thought (fun b b3 b4 _ _ => b2 b b3 b4), gM.fx b2⟩
      rw [if_neg y4, if_neg y4]
      by_cases y5 : y = 5
      · rw [if_pos y5, if_pos y5]; exact ⟨S5, rfl, h.thought (fun b b3 b4 _ _ => c2 b b3 b4), gM.fx c2⟩
      rw [if_neg y5, if_neg y5]
      exact ⟨S, rfl, h, gM.refl S⟩
    · rw [f_X6_glass, e_isThere h.1, it_bi_some, hth, if_neg (by decide)]
      obtain ⟨S3, a1, a2⟩ := e_meltsOf (κ := κ) h.1 h.2.1 hr.lw hG hg hp hw
      obtain ⟨S4, b1, b2⟩ := e_feelsOf (κ := κ) h.1 h.2.1 hr.lw hG hg hp hw
      obtain ⟨S5, c1, c2⟩ := e_chillsOf (κ := κ) h.1 h.2.1 hr.lw hG hg hp hw
      have fin : ∀ {S' : it_SS}, fM S S' → IM S' A G tb T n by' ik AK GK so sz ce ∧ gX S S' := fun hf => ⟨h.mk' (h.1.fr hf) (fun j _ => by rw [hf 45 (by decide) (by decide)]) (fun b h1 h2 => hf b (by omega) (by omega)), gX.fm hf⟩
      rw [a1, b1, c1, it_bi_some, it_bi_some, it_bi_some]
      by_cases y0 : y = 0
      · subst y0
        rw [if_pos rfl, if_pos rfl, e0, if_pos (bd_nI (show 3 * g < 30 by omega) (by decide)), nI_clamp (by omega), (h.1.2.2.1 g hg).1]
        exact ⟨S, rfl, h, gX.refl S⟩
      rw [if_neg y0, if_neg y0]
      by_cases y1 : y = 1
      · subst y1
        rw [if_pos rfl, if_pos rfl, e1, if_pos (bd_nI (show 3 * g + 1 < 30 by omega) (by decide)), nI_clamp (by omega), (h.1.2.2.1 g hg).2.1]
        exact ⟨S, rfl, h, gX.refl S⟩
      rw [if_neg y1, if_neg y1]
      by_cases y2 : y = 2
      · subst y2
        rw [if_pos rfl, if_pos rfl, e2, if_pos (bd_nI (show 3 * g + 2 < 30 by omega) (by decide)), nI_clamp (by omega), (h.1.2.2.1 g hg).2.2]
        exact ⟨S, rfl, h, gX.refl S⟩
      rw [if_neg y2, if_neg y2]
      by_cases y3 : y = 3
      · rw [if_pos y3, if_pos y3]; exact ⟨S3, rfl, (fin a2).1, (fin a2).2⟩
      rw [if_neg y3, if_neg y3]
      by_cases y4 : y = 4
      · rw [if_pos y4, if_pos y4]; exact ⟨S4, rfl, (fin b2).1, (fin b2).2⟩
      rw [if_neg y4, if_neg y4]
      by_cases y5 : y = 5
      · rw [if_pos y5, if_pos y5]; exact ⟨S5, rfl, (fin c2).1, (fin c2).2⟩
      rw [if_neg y5, if_neg y5]
      exact ⟨S, rfl, h, gX.refl S⟩
theorem ice_cl {a b : Int32} (ha : 0 ≤ a.toInt ∧ a.toInt ≤ 99) (hb : 0 ≤ b.toInt ∧ b.toInt ≤ 200) : sp_cl (a + b) 0 99 = (if a + b < 99 then a + b else 99) ∧ 0 ≤ (if a + b < 99 then a + b else 99 : Int32).toInt ∧ (if a + b < 99 then a + b else 99 : Int32).toInt ≤ 99 := by
  have hs : (a + b).toInt = a.toInt + b.toInt := i_add (by omega) (by omega)
  rw [sp_cl, if_neg (show ¬ a + b < 0 by rw [Int32.lt_iff_toInt_lt, i_0, hs]; omega)]
  by_cases h : a + b < 99
  · rw [if_pos h]
    rw [Int32.lt_iff_toInt_lt, i_99] at h
    rw [if_neg (show ¬ 99 < a + b by rw [Int32.lt_iff_toInt_lt, i_99]; omega)]
    exact ⟨rfl, by omega, by omega⟩
  · rw [if_neg h, i_99]
    refine ⟨?_, by omega, by omega⟩
    by_cases h2 : 99 < a + b
    · rw [if_pos h2]
    · rw [if_neg h2]
      rw [Int32.lt_iff_toInt_lt] at h h2
      exact Int32.toInt_inj.mp (by omega)
theorem q_iced (x y : Int32) : Eqv κ (f_X5_iced κ x y) (f_X6_iced κ x y) := Eqv.of fun A G tb T n by' ik AK GK so sz ce hr => by
  cases ht : sp_th A x with
  | false =>
    refine ⟨-6, A, G, n, by', ik, AK, GK, so, sz, ce, hr, fun S h => ⟨S, ?_, h, gM.refl S⟩, fun S h => ⟨S, ?_, h, gX.refl S⟩⟩
    · rw [f_X5_iced, e_hasGlass h.1 hr.1, it_bi_some, ht]; rfl
    · rw [f_X6_iced, e_isThere h.1, it_bi_some, ht]; rfl
  | true =>
    obtain ⟨g, hg, rfl, h6⟩ := th_of ht
    have hgc : (nI g).toNatClampNeg = g := nI_clamp (by omega)
    have hth : (if sp_th A (nI g) = true then (1 : Int32) else 0) = 1 := if_pos ht
    cases hi : sp_in y 0 99 with
    | false =>
      refine ⟨-7, A, G, n, by', ik, AK, GK, so, sz, ce, hr, fun S h => ⟨S, ?_, h, gM.refl S⟩, fun S h => ⟨S, ?_, h, gX.refl S⟩⟩
      · rw [f_X5_iced, e_hasGlass h.1 hr.1, it_bi_some, hth, if_neg (by decide), e_isOutside, it_bi_some, hi]; rfl
      · rw [f_X6_iced, e_isThere h.1, it_bi_some, hth, if_neg (by decide), e_in, it_bi_some, hi]; rfl
    | true =>
      have hy := in_rng hi
      rw [i_0, i_99] at hy
      have hice := hr.1.2.2.2.2.2.2 g hg
      obtain ⟨c1, c2, c3⟩ := ice_cl (a := A 8 g) (b := y) hice.2.2 ⟨hy.1, by omega⟩
      obtain ⟨v, hv⟩ : ∃ v : Int32, v = (if A 8 g + y < 99 then A 8 g + y else 99) := ⟨_, rfl⟩
      rw [← hv] at c1 c2 c3
      refine ⟨v, it_up A 8 g v, G, n, by', ik, AK, GK, so, sz, ce, hr.house (hr.1.up8 c2 c3) (by rw [dR, it_up_ne (by decide)]; exact hr.2.1) (fun p hp => by rw [it_up_ne (by decide), it_up_ne (by decide)]; exact ⟨rfl, rfl⟩), fun S h => ⟨it_up S (9 + 7) g v, ?_, h.house (h.1.up (k := 7) (by decide) (by decide)) (fU.up (by decide)), gM.up (by omega)⟩, fun S h => ⟨it_up S 49 (3 * g + 2) v, ?_, h.house (h.1.up49 (k := 2) (by decide)) fD.up49, gX.up (by omega) (by omega)⟩⟩
      · rw [f_X5_iced, e_hasGlass h.1 hr.1, it_bi_some, hth, if_neg (by decide), e_isOutside, it_bi_some, hi, if_pos rfl, if_pos rfl, f_X0_addIce, if_pos (bd_nI hg (by decide)), it_bi_some, if_pos (bd_nI hg (by decide)), hgc, (h.1.2.1 g hg).2.2, ← hv, it_up_eq]
        simp [upd]
      · rw [f_X6_iced, e_isThere h.1, it_bi_some, hth, if_neg (by decide), e_in, it_bi_some, hi, if_pos rfl, if_neg (by decide), nI_3, nI_p2, if_pos (bd_nI (show 3 * g + 2 < 30 by omega) (by decide)), nI_clamp (by omega), (h.1.2.2.1 g hg).2.2, e_within, it_bi_some, c1, it_up_eq]
        simp [upd]
theorem q_spill (x : Int32) : Eqv κ (f_X5_spill κ x) (f_X6_spill κ x) := Eqv.of fun A G tb T n by' ik AK GK so sz ce hr => by
  cases ht : sp_th A x with
  | false =>
    refine ⟨-6000, A, G, n, by', ik, AK, GK, so, sz, ce, hr, fun S h => ⟨S, ?_, h, gM.refl S⟩, fun S h => ⟨S, ?_, h, gX.refl S⟩⟩
    · rw [f_X5_spill, e_hasGlass h.1 hr.1, it_bi_some, ht]; rfl
    · rw [f_X6_spill, e_isThere h.1, it_bi_some, ht]; rfl
  | true =>
    obtain ⟨g, hg, rfl, h6⟩ := th_of ht
    have hgc : (nI g).toNatClampNeg = g := nI_clamp (by omega)
    have hth : (if sp_th A (nI g) = true then (1 : Int32) else 0) = 1 := if_pos ht
    refine ⟨A 7 g, it_up A 6 g (-1), G, n, by', ik, AK, GK, so, sz, ce, hr.house (hr.1.up6 (Or.inl rfl)) (by rw [dR, it_up_ne (by decide)]; exact hr.2.1) (fun p hp => by rw [it_up_ne (by decide), it_up_ne (by decide)]; exact ⟨rfl, rfl⟩), fun S h => ⟨it_up S (9 + 5) g (-1), ?_, h.house (h.1.up (k := 5) (by decide) (by decide)) (fU.up (by decide)), gM.up (by omega)⟩, fun S h => ⟨it_up S 49 (3 * g) (-1), ?_, h.house (h.1.up49 (k := 0) (g := g) (by decide)) fD.up49, gX.up (by omega) (by omega)⟩⟩
    · rw [f_X5_spill, e_hasGlass h.1 hr.1, it_bi_some, hth, if_neg (by decide), f_X0_take, if_pos (bd_nI hg (by decide)), it_bi_some, if_pos (bd_nI hg (by decide)), hgc, it_up_ne (show (9 + 6 : Nat) ≠ 9 + 5 by decide), (h.1.2.1 g hg).2.1]
    · rw [f_X6_spill, e_isThere h.1, it_bi_some, hth, if_neg (by decide), nI_3, nI_1, if_pos (bd_nI (show 3 * g < 30 by omega) (by decide)), if_pos (bd_nI (show 3 * g + 1 < 30 by omega) (by decide)), nI_clamp (by omega), nI_clamp (by omega), it_up_eq, upd, if_neg (by omega), (h.1.2.2.1 g hg).2.1]
end OPS2
