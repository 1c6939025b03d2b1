section IMAGE
variable {κ : it_KK} {S S' S0 A B : it_SS} {G : Nat} {tb : Nat → Nat → List Nat} {T n : Nat} {by' : Nat → Int32} {ik : Int32} {AK : it_SS} {GK : Nat} {so sz : Nat → Int32} {ce : it_SS}
/-! an image -/
theorem e_image_1 {κ : it_KK} {kont : it_SS → Option (Int32 × it_SS)} : ∀ (k i n : Nat) (S : it_SS), i + k = 12 → k < n → (∀ j, j < i → S 53 j = S 48 j) → ∃ S', lp_X6_image_7 κ kont n (nI i) S = kont S' ∧ (∀ j, j < 12 → S' 53 j = S 48 j) ∧ ∀ b, b ≠ 53 → S' b = S b := by
  intro k
  induction k with
  | zero =>
    intro i n S hi hn h
    obtain ⟨n, rfl⟩ : ∃ m, n = m + 1 := ⟨n - 1, by omega⟩
    obtain rfl : i = 12 := by omega
    exact ⟨S, by rw [lp_X6_image_7, if_pos (show (12 : Int32) ≤ nI 12 by decide)], h, fun _ _ => rfl⟩
  | succ k ih =>
    intro i n S hi hn h
    obtain ⟨n, rfl⟩ : ∃ m, n = m + 1 := ⟨n - 1, by omega⟩
    rw [lp_X6_image_7, if_neg (show ¬ 12 ≤ nI i from nI_ge (b := 12) (by omega) (by decide)), if_pos (bd_nI (show i < 12 by omega) (by decide)), if_pos (bd_nI (show i < 42 by omega) (by decide)), nI_clamp (show i < 2 ^ 31 by omega), nI_1]
    obtain ⟨S', e1, e2, e3⟩ := ih (i + 1) n (it_up S 53 i (S 48 i)) (by omega) (by omega) (fun j hj => by
      rw [it_up_eq, it_up_ne (show (48 : Nat) ≠ 53 by decide), upd]
      by_cases e : j = i
      · rw [if_pos e, e]
      · rw [if_neg e]; exact h j (by omega))
    exact ⟨S', e1, fun j hj => by rw [e2 j hj, it_up_ne (by decide)], fun b hb => (e3 b hb).trans (it_up_ne hb)⟩
theorem e_image_2 {κ : it_KK} {kont : it_SS → Option (Int32 × it_SS)} : ∀ (k i n : Nat) (S : it_SS), i + k = 30 → k < n → (∀ j, j < i → S 53 (12 + j) = S 49 j) → ∃ S', lp_X6_image_33 κ kont n (nI i) S = kont S' ∧ (∀ j, j < 30 → S' 53 (12 + j) = S 49 j) ∧ (∀ j, j < 12 → S' 53 j = S 53 j) ∧ ∀ b, b ≠ 53 → S' b = S b := by
  intro k
  induction k with
  | zero =>
    intro i n S hi hn h
    obtain ⟨n, rfl⟩ : ∃ m, n = m + 1 := ⟨n - 1, by omega⟩
    obtain rfl : i = 30 := by omega
    exact ⟨S, by rw [lp_X6_image_33, if_pos (show (30 : Int32) ≤ nI 30 by decide)], h, fun _ _ => rfl, fun _ _ => rfl⟩
  | succ k ih =>
    intro i n S hi hn h
    obtain ⟨n, rfl⟩ : ∃ m, n = m + 1 := ⟨n - 1, by omega⟩
    have e12 : 12 + nI i = nI (12 + i) := nI_add 12 i
    rw [lp_X6_image_33, if_neg (show ¬ 30 ≤ nI i from nI_ge (b := 30) (by omega) (by decide)), if_pos (bd_nI (show i < 30 by omega) (by decide)), e12, if_pos (bd_nI (show 12 + i < 42 by omega) (by decide)), nI_clamp (show i < 2 ^ 31 by omega), nI_clamp (show 12 + i < 2 ^ 31 by omega), nI_1]
    obtain ⟨S', e1, e2, e4, e3⟩ := ih (i + 1) n (it_up S 53 (12 + i) (S 49 i)) (by omega) (by omega) (fun j hj => by
      rw [it_up_eq, it_up_ne (show (49 : Nat) ≠ 53 by decide), upd]
      by_cases e : j = i
      · rw [if_pos (by omega), e]
      · rw [if_neg (by omega)]; exact h j (by omega))
    exact ⟨S', e1, fun j hj => by rw [e2 j hj, it_up_ne (by decide)], fun j hj => by rw [e4 j hj, it_up_eq, upd, if_neg (by omega)], fun b hb => (e3 b hb).trans (it_up_ne hb)⟩
theorem e_back_1 {κ : it_KK} {kont : it_SS → Option (Int32 × it_SS)} : ∀ (k i n : Nat) (S : it_SS), i + k = 12 → k < n → (∀ j, j < i → S 48 j = S 53 j) → ∃ S', lp_X6_back_12 κ kont n (nI i) S = kont S' ∧ (∀ j, j < 12 → S' 48 j = S 53 j) ∧ ∀ b, b ≠ 48 → S' b = S b := by
  intro k
  induction k with
  | zero =>
    intro i n S hi hn h
    obtain ⟨n, rfl⟩ : ∃ m, n = m + 1 := ⟨n - 1, by omega⟩
    obtain rfl : i = 12 := by omega
    exact ⟨S, by rw [lp_X6_back_12, if_pos (show (12 : Int32) ≤ nI 12 by decide)], h, fun _ _ => rfl⟩
  | succ k ih =>
    intro i n S hi hn h
    obtain ⟨n, rfl⟩ : ∃ m, n = m + 1 := ⟨n - 1, by omega⟩
    rw [lp_X6_back_12, if_neg (show ¬ 12 ≤ nI i from nI_ge (b := 12) (by omega) (by decide)), if_pos (bd_nI (show i < 42 by omega) (by decide)), if_pos (bd_nI (show i < 12 by omega) (by decide)), nI_clamp (show i < 2 ^ 31 by omega), nI_1]
    obtain ⟨S', e1, e2, e3⟩ := ih (i + 1) n (it_up S 48 i (S 53 i)) (by omega) (by omega) (fun j hj => by
      rw [it_up_eq, it_up_ne (show (53 : Nat) ≠ 48 by decide), upd]
      by_cases e : j = i
      · rw [if_pos e, e]
      · rw [if_neg e]; exact h j (by omega))
    exact ⟨S', e1, fun j hj => by rw [e2 j hj, it_up_ne (by decide)], fun b hb => (e3 b hb).trans (it_up_ne hb)⟩
theorem e_back_2 {κ : it_KK} {kont : it_SS → Option (Int32 × it_SS)} : ∀ (k i n : Nat) (S : it_SS), i + k = 30 → k < n → (∀ j, j < i → S 49 j = S 53 (12 + j)) → ∃ S', lp_X6_back_38 κ kont n (nI i) S = kont S' ∧ (∀ j, j < 30 → S' 49 j = S 53 (12 + j)) ∧ ∀ b, b ≠ 49 → S' b = S b := by
  intro k
  induction k with
  | zero =>
    intro i n S hi hn h
    obtain ⟨n, rfl⟩ : ∃ m, n = m + 1 := ⟨n - 1, by omega⟩
    obtain rfl : i = 30 := by omega
    exact ⟨S, by rw [lp_X6_back_38, if_pos (show (30 : Int32) ≤ nI 30 by decide)], h, fun _ _ => rfl⟩
  | succ k ih =>
    intro i n S hi hn h
    obtain ⟨n, rfl⟩ : ∃ m, n = m + 1 := ⟨n - 1, by omega⟩
    have e12 : 12 + nI i = nI (12 + i) := nI_add 12 i
    rw [lp_X6_back_38, if_neg (show ¬ 30 ≤ nI i from nI_ge (b := 30) (by omega) (by decide)), e12, if_pos (bd_nI (show 12 + i < 42 by omega) (by decide)), if_pos (bd_nI (show i < 30 by omega) (by decide)), nI_clamp (show i < 2 ^ 31 by omega), nI_clamp (show 12 + i < 2 ^ 31 by omega), nI_1]
    obtain ⟨S', e1, e2, e3⟩ := ih (i + 1) n (it_up S 49 i (S 53 (12 + i))) (by omega) (by omega) (fun j hj => by
      rw [it_up_eq, it_up_ne (show (53 : Nat) ≠ 49 by decide), upd]
      by_cases e : j = i
      · rw [if_pos e, e]
      · rw [if_neg e]; exact h j (by omega))
    exact ⟨S', e1, fun j hj => by rw [e2 j hj, it_up_ne (by decide)], fun b hb => (e3 b hb).trans (it_up_ne hb)⟩
theorem q_image : Eqv κ (f_X5_image κ) (f_X6_image κ) := Eqv.of fun A G tb T n by' ik AK GK so sz ce hr => by
  refine ⟨A 1 0, A, G, n, by', 1, A, G, so, sz, ce, ⟨hr.1, hr.2.1, hr.2.2.1, hr.2.2.2.1, hr.2.2.2.2.1, Or.inr ⟨rfl, hr.1, hr.2.1, Nat.le_refl _, fun p _ => ⟨rfl, rfl⟩⟩, hr.2.2.2.2.2.2.1, hr.2.2.2.2.2.2.2⟩, fun S h => ?_, fun S h => ?_⟩
  · obtain ⟨S1, e1, e2, e3⟩ := e_become (κ := κ) (u := 25) (o := 9) (Or.inr (by decide)) h.1
    have f : ∀ b, b ≠ 0 → (b < 25 ∨ 32 < b) → it_up S1 0 5 1 b = S b := fun b h0 hb => (it_up_ne h0).trans (e3 b hb)
    refine ⟨it_up S1 0 5 1, ?_, ⟨h.1.cg (fun k hk => f _ (by omega) (by omega)), h.2.1.fr2 (fun b hb => f _ (by omega) (by omega)), ⟨by rw [f 5 (by decide) (by decide)]; exact h.2.2.1.1, fun j hj => by rw [f 6 (by decide) (by decide)]; exact h.2.2.1.2 j hj⟩, ⟨by rw [it_up_eq, upd, if_pos rfl], fun _ => e2.cg (fun k hk => it_up_ne (by omega))⟩, fun s hs => ?_⟩, fun b h1 h2 => f b (by omega) (by omega)⟩
    · rw [f_X5_image, e1, it_bi_some, f 9 (by decide) (by decide), h.1.2.2.1]
    · have := h.2.2.2.2 s hs
      rw [it_el2_eq] at this ⊢
      rw [f _ (by omega) (by omega), f _ (by omega) (by omega)]
      exact this
  · obtain ⟨S1, a1, a2, a3⟩ := e_image_1 (κ := κ) (kont := fun S4 => lp_X6_image_33 κ (fun S8 => some (((it_up (it_up (it_up S8 54 0 (S8 45 0)) 54 1 ((it_up S8 54 0 (S8 45 0)) 45 5)) 54 2 ((it_up (it_up S8 54 0 (S8 45 0)) 54 1 ((it_up S8 54 0 (S8 45 0)) 45 5)) 45 11)) 45 0), it_up (it_up (it_up S8 54 0 (S8 45 0)) 54 1 ((it_up S8 54 0 (S8 45 0)) 45 5)) 54 2 ((it_up (it_up S8 54 0 (S8 45 0)) 54 1 ((it_up S8 54 0 (S8 45 0)) 45 5)) 45 11))) it_FU 0 S4) 12 0 it_FU (it_up S 45 12 1) rfl (by decide) (fun j hj => absurd hj (Nat.not_lt_zero _))
    obtain ⟨S2, b1, b2, b4, b3⟩ := e_image_2 (κ := κ) (kont := fun S8 => some (((it_up (it_up (it_up S8 54 0 (S8 45 0)) 54 1 ((it_up S8 54 0 (S8 45 0)) 45 5)) 54 2 ((it_up (it_up S8 54 0 (S8 45 0)) 54 1 ((it_up S8 54 0 (S8 45 0)) 45 5)) 45 11)) 45 0), it_up (it_up (it_up S8 54 0 (S8 45 0)) 54 1 ((it_up S8 54 0 (S8 45 0)) 45 5)) 54 2 ((it_up (it_up S8 54 0 (S8 45 0)) 54 1 ((it_up S8 54 0 (S8 45 0)) 45 5)) 45 11))) 30 0 it_FU S1 rfl (by decide) (fun j hj => absurd hj (Nat.not_lt_zero _))
    have e45 : ∀ j, S2 45 j = upd (S 45) 12 1 j := fun j => by rw [b3 45 (by decide), a3 45 (by decide), it_up_eq]
    have e45n : ∀ j, j ≠ 12 → S2 45 j = S 45 j := fun j hj => by rw [e45, upd, if_neg hj]
    have eb : ∀ b, b ≠ 45 → b ≠ 53 → S2 b = S b := fun b h1 h2 => by rw [b3 b h2, a3 b h2, it_up_ne h1]
    have e48 : ∀ j, j < 12 → S2 53 j = S 48 j := fun j hj => by rw [b4 j hj, a2 j hj, it_up_ne (by decide)]
    have e49 : ∀ j, j < 30 → S2 53 (12 + j) = S 49 j := fun j hj => by rw [b2 j hj, a3 49 (by decide), it_up_ne (by decide)]
    refine ⟨it_up (it_up (it_up S2 54 0 (S 45 0)) 54 1 (S 45 5)) 54 2 (S 45 11), ?_, ?_, fun b hb => by rw [it_up_ne (by omega), it_up_ne (by omega), it_up_ne (by omega), eb b (by omega) (by omega)]⟩
    · rw [f_X6_image, ix_0, ix_1, ix_2]
      refine (a1.trans b1).trans ?_
      rw [it_up_ne (show (45 : Nat) ≠ 54 by decide), it_up_ne (show (45 : Nat) ≠ 54 by decide), it_up_ne (show (45 : Nat) ≠ 54 by decide), e45n 0 (by decide), e45n 5 (by decide), e45n 11 (by decide), h.1.2.2.2.1]
    · have f : ∀ b, b ≠ 54 → it_up (it_up (it_up S2 54 0 (S 45 0)) 54 1 (S 45 5)) 54 2 (S 45 11) b = S2 b := fun b hb => by rw [it_up_ne hb, it_up_ne hb, it_up_ne hb]
      obtain ⟨h1, h2, h3, h4, h5⟩ := h
      refine ⟨h1.cg (fun j hj => by rw [f 45 (by decide)]; exact e45n j (by omega)) (by rw [f _ (by decide)]; exact eb _ (by decide) (by decide)) (by rw [f _ (by decide)]; exact eb _ (by decide) (by decide)) (by rw [f _ (by decide)]; exact eb _ (by decide) (by decide)) (by rw [f _ (by decide)]; exact eb _ (by decide) (by decide)), h2.fr (by rw [f 45 (by decide)]; exact e45n 10 (by decide)) (by rw [f _ (by decide)]; exact eb _ (by decide) (by decide)) (by rw [f _ (by decide)]; exact eb _ (by decide) (by decide)), ⟨by rw [f 45 (by decide), e45n 7 (by decide)]; exact h3.1, fun j hj => by rw [f 50 (by decide), eb 50 (by decide) (by decide)]; exact h3.2.1 j hj, fun j hj => by rw [f 59 (by decide), eb 59 (by decide) (by decide)]; exact h3.2.2 j hj⟩, ⟨by rw [f 45 (by decide), e45, upd, if_pos rfl], fun _ => ⟨fun p hp => ?_, fun j hj => ?_, ?_, ?_, ?_⟩⟩, fun s hs => by rw [f 55 (by decide), f 56 (by decide), f 57 (by decide), eb 55 (by decide) (by decide), eb 56 (by decide) (by decide), eb 57 (by decide) (by decide)]; exact h5 s hs⟩
      · rw [f 53 (by decide), e48 _ (by omega), e48 _ (by omega)]
        exact h1.2.1 p hp
      · rw [f 53 (by decide), e49 _ (by omega), e49 _ (by omega), e49 _ (by omega)]
        exact h1.2.2.1 j hj
      · rw [it_up_eq, upd, if_neg (by decide), it_up_eq, upd, if_neg (by decide), it_up_eq, upd, if_pos rfl]
        exact h1.2.2.2.1
      · rw [it_up_eq, upd, if_neg (by decide), it_up_eq, upd, if_pos rfl]
        exact h1.2.2.2.2.1
      · rw [it_up_eq, upd, if_pos rfl]
        exact h1.2.2.2.2.2
theorem q_back : Eqv κ (f_X5_back κ) (f_X6_back κ) := Eqv.of fun A G tb T n by' ik AK GK so sz ce hr => by
  rcases hr.2.2.2.2.2.1 with h0 | ⟨h0, k1, k2, k3, k4⟩
  · refine ⟨-3, A, G, n, by', ik, AK, GK, so, sz, ce, hr, fun S h => ⟨S, ?_, h, gM.refl S⟩, fun S h => ⟨S, ?_, h, gX.refl S⟩⟩
    · rw [f_X5_back, h.2.2.2.1.1, h0, if_pos rfl]
    · rw [f_X6_back, h.2.2.2.1.1, h0, if_pos rfl]
  · refine ⟨AK 1 0, AK, GK, n, by', ik, AK, GK, so, sz, ce, ⟨k1, k2, hr.2.2.1, hr.2.2.2.1, hr.2.2.2.2.1, Or.inr ⟨h0, k1, k2, Nat.le_refl _, fun p _ => ⟨rfl, rfl⟩⟩, hr.2.2.2.2.2.2.1, fun p hp => by rw [(k4 p hp).1]; exact hr.2.2.2.2.2.2.2 p (by omega)⟩, fun S h => ?_, fun S h => ?_⟩
    · obtain ⟨S1, e1, e2, e3⟩ := e_become (κ := κ) (u := 9) (o := 25) (Or.inl (by decide)) (h.2.2.2.1.2 h0)
      refine ⟨S1, ?_, h.house e2 (fun b _ _ hb => e3 b hb), fun b h1 h2 => e3 b (by omega)⟩
      rw [f_X5_back, h.2.2.2.1.1, h0, if_neg (by decide), e1, it_bi_some, e2.2.2.1]
    · obtain ⟨S1, a1, a2, a3⟩ := e_back_1 (κ := κ) (kont := fun S5 => lp_X6_back_38 κ (fun S9 => some (((it_up (it_up (it_up S9 45 0 (S9 54 0)) 45 5 ((it_up S9 45 0 (S9 54 0)) 54 1)) 45 11 ((it_up (it_up S9 45 0 (S9 54 0)) 45 5 ((it_up S9 45 0 (S9 54 0)) 54 1)) 54 2)) 45 0), it_up (it_up (it_up S9 45 0 (S9 54 0)) 45 5 ((it_up S9 45 0 (S9 54 0)) 54 1)) 45 11 ((it_up (it_up S9 45 0 (S9 54 0)) 45 5 ((it_up S9 45 0 (S9 54 0)) 54 1)) 54 2))) it_FU 0 S5) 12 0 it_FU S rfl (by decide) (fun j hj => absurd hj (Nat.not_lt_zero _))
      obtain ⟨S2, b1, b2, b3⟩ := e_back_2 (κ := κ) (kont := fun S9 => some (((it_up (it_up (it_up S9 45 0 (S9 54 0)) 45 5 ((it_up S9 45 0 (S9 54 0)) 54 1)) 45 11 ((it_up (it_up S9 45 0 (S9 54 0)) 45 5 ((it_up S9 45 0 (S9 54 0)) 54 1)) 54 2)) 45 0), it_up (it_up (it_up S9 45 0 (S9 54 0)) 45 5 ((it_up S9 45 0 (S9 54 0)) 54 1)) 45 11 ((it_up (it_up S9 45 0 (S9 54 0)) 45 5 ((it_up S9 45 0 (S9 54 0)) 54 1)) 54 2))) 30 0 it_FU S1 rfl (by decide) (fun j hj => absurd hj (Nat.not_lt_zero _))
      have eb : ∀ b, b ≠ 48 → b ≠ 49 → S2 b = S b := fun b h1 h2 => by rw [b3 b h2, a3 b h1]
      have e48 : ∀ j, j < 12 → S2 48 j = S 53 j := fun j hj => by rw [b3 48 (by decide), a2 j hj]
      have e49 : ∀ j, j < 30 → S2 49 j = S 53 (12 + j) := fun j hj => by rw [b2 j hj, a3 53 (by decide)]
      obtain ⟨i1, i2, i3, i4, i5⟩ := h.2.2.2.1.2 h0
      have f : ∀ b, b ≠ 45 → it_up (it_up (it_up S2 45 0 (S 54 0)) 45 5 (S 54 1)) 45 11 (S 54 2) b = S2 b := fun b hb => by rw [it_up_ne hb, it_up_ne hb, it_up_ne hb]
      have f45 : ∀ j, j ≠ 0 → j ≠ 5 → j ≠ 11 → it_up (it_up (it_up S2 45 0 (S 54 0)) 45 5 (S 54 1)) 45 11 (S 54 2) 45 j = S 45 j := fun j j0 j5 j11 => by rw [it_up_eq, upd, if_neg j11, it_up_eq, upd, if_neg j5, it_up_eq, upd, if_neg j0, eb 45 (by decide) (by decide)]
      refine ⟨it_up (it_up (it_up S2 45 0 (S 54 0)) 45 5 (S 54 1)) 45 11 (S 54 2), ?_, h.mk' ⟨fun p hp => ?_, fun p hp => ?_, fun j hj => ?_, ?_, ?_, ?_⟩ (fun j hj => f45 j (by omega) (by omega) (by omega)) (fun b h1 h2 => by rw [f b (by omega)]; exact eb b (by omega) (by omega)), fun b hb => by rw [f b (by omega)]; exact eb b (by omega) (by omega)⟩
      · rw [f_X6_back, h.2.2.2.1.1, h0, if_neg (by decide), ix_0, ix_1, ix_2]
        refine (a1.trans b1).trans ?_
        rw [it_up_ne (show (54 : Nat) ≠ 45 by decide), it_up_ne (show (54 : Nat) ≠ 45 by decide), it_up_ne (show (54 : Nat) ≠ 45 by decide), eb 54 (by decide) (by decide)]
        rw [show it_up (it_up (it_up S2 45 0 (S 54 0)) 45 5 (S 54 1)) 45 11 (S 54 2) 45 0 = AK 1 0 by rw [it_up_eq, upd, if_neg (by decide), it_up_eq, upd, if_neg (by decide), it_up_eq, upd, if_pos rfl, i3]]
      · rw [f 46 (by decide), f 47 (by decide), eb 46 (by decide) (by decide), eb 47 (by decide) (by decide), (k4 p hp).1, (k4 p hp).2]
        exact h.1.1 p (by omega)
      · rw [f 48 (by decide), e48 _ (by omega), e48 _ (by omega)]
        exact i1 p hp
      · rw [f 49 (by decide), e49 _ (by omega), e49 _ (by omega), e49 _ (by omega)]
        exact i2 j hj
      · rw [it_up_eq, upd, if_neg (by decide), it_up_eq, upd, if_neg (by decide), it_up_eq, upd, if_pos rfl, i3]
      · rw [it_up_eq, upd, if_neg (by decide), it_up_eq, upd, if_pos rfl, i4]
      · rw [it_up_eq, upd, if_pos rfl, i5]
end IMAGE
