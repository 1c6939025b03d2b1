theorem ix_6 : (6 : Int32).toNatClampNeg = 6 := by decide
theorem ix_10 : (10 : Int32).toNatClampNeg = 10 := by decide
theorem ix_42 : (42 : Int32).toNatClampNeg = 42 := by decide
theorem cpy_ne {S : it_SS} {a0 a1 sp dp n q : Nat} (h : q ≠ a1) : it_cpy S a0 a1 sp dp n q = S q := by simp [it_cpy, h]
theorem cpy_at {S : it_SS} {a0 a1 n j : Nat} (h : j < n) : it_cpy S a0 a1 0 0 n a1 j = S a0 j := by simp [it_cpy, va_cpy, h]
section PM2
variable {κ : it_KK} {T G : Nat} {tb : Nat → Nat → List Nat}
theorem cold_cl {A : it_SS} {p : Nat} (h : 0 ≤ (A 5 p).toInt ∧ (A 5 p).toInt ≤ 99) : sp_cl (A 5 p - 2) 0 99 = if 0 < A 5 p - 2 then A 5 p - 2 else 0 := by
  have h2 : (2 : Int32).toInt = 2 := by decide
  have hs : (A 5 p - 2).toInt = (A 5 p).toInt - 2 := by rw [i_sub (by omega) (by omega), h2]
  rw [sp_cl]
  by_cases h1 : A 5 p - 2 < 0
  · rw [if_pos h1, if_neg]
    rw [Int32.lt_iff_toInt_lt] at h1 ⊢
    omega
  · rw [if_neg h1, if_neg (show ¬ 99 < A 5 p - 2 by rw [Int32.lt_iff_toInt_lt, i_99, hs]; omega)]
    by_cases h3 : 0 < A 5 p - 2
    · rw [if_pos h3]
    · rw [if_neg h3]
      rw [Int32.lt_iff_toInt_lt] at h1 h3
      exact Int32.toInt_inj.mp (by omega)
theorem e_coldM_loop {kont : Int32 → it_SS → Option (Int32 × it_SS)} (hG : G ≤ 6) : ∀ (k p n : Nat) (b : Int32) (S A : it_SS), p + k = G → k < n → hM S A G → hR A G T → ∃ S', lp_X6_dayOf_127 κ kont n b (nI p) S = kont b S' ∧ hM S' (sp_cd k p A) G ∧ fD S S' := by
  intro k
  induction k with
  | zero =>
    intro p n b S A hp hn hx h1
    obtain ⟨n, rfl⟩ : ∃ m, n = m + 1 := ⟨n - 1, by omega⟩
    obtain rfl : p = G := by omega
    exact ⟨S, by rw [lp_X6_dayOf_127, hx.2.2.2.1, h1.1, if_pos (Int32.le_refl _)], hx, fD.refl S⟩
  | succ k ih =>
    intro p n b S A hp hn hx h1
    obtain ⟨n, rfl⟩ : ∃ m, n = m + 1 := ⟨n - 1, by omega⟩
    have hp6 : p < 6 := by omega
    have hc := h1.2.2.2.2.2.1 p hp6
    rw [lp_X6_dayOf_127, hx.2.2.2.1, h1.1, if_neg (show ¬ nI G ≤ nI p from nI_ge (by omega) (by omega)), nI_2, nI_1, if_pos (bd_nI (show 2 * p + 1 < 12 by omega) (by decide)), nI_clamp (show 2 * p + 1 < 2 ^ 31 by omega), (hx.2.1 p hp6).2, e_within, it_bi_some, cold_cl hc.2.2, nI_1]
    obtain ⟨S', e1, e2, e3⟩ := ih (p + 1) n b _ (sp_c1 A p) (by omega) (by omega) (hx.up48 (k := 1) (p := p) (v := if 0 < A 5 p - 2 then A 5 p - 2 else 0) (by decide)) (h1.c1 hp6)
    exact ⟨S', e1, e2, fD.up48.trans e3⟩
theorem e_dayOf {S A : it_SS} (hx : hM S A G) (ht : tM S tb T) (hl : sp_lw tb T A) (hr : hR A G T) : ∃ S', f_X6_dayOf κ S = some (sp_off1 tb A, S') ∧ hM S' (sp_day tb G A) G ∧ fD S S' := by
  obtain ⟨S1, a1, a2, a3⟩ := e_dayOf_loop (κ := κ) (kont := fun v27 S28 => lp_X6_dayOf_127 κ (fun v33 S34 => some (v33, it_up S34 45 5 ((S34 45 5) + 1))) it_FU v27 0 S28) 10 0 it_FU 0 S A rfl (by decide) hx ht hl hr
  have hr1 := hR.dl (tb := tb) 10 0 A 0 hr (by decide)
  obtain ⟨S2, b1, b2, b3⟩ := e_coldM_loop (κ := κ) (G := G) (T := T) (kont := fun v33 S34 => some (v33, it_up S34 45 5 ((S34 45 5) + 1))) hr.2.1 G 0 it_FU (sp_dl tb 10 0 A 0).2 S1 (sp_dl tb 10 0 A 0).1 (by omega) (by have := hr.2.1; show G < 100000; omega) a2 hr1
  refine ⟨it_up S2 45 5 ((S2 45 5) + 1), ?_, ?_, (a3.trans b3).trans ⟨fun b h _ _ _ _ => it_up_ne h, fun j hj => by rw [it_up_eq]; simp [upd, hj]⟩⟩
  · rw [f_X6_dayOf]
    exact a1.trans b1
  · obtain ⟨c1, c2, c3, c4, c5, c6⟩ := b2
    refine ⟨fun p hp => ?_, fun p hp => ?_, fun j hj => ?_, ?_, ?_, ?_⟩
    · rw [it_up_ne (show (46 : Nat) ≠ 45 by decide), it_up_ne (show (47 : Nat) ≠ 45 by decide), sp_day, it_up_ne (show (2 : Nat) ≠ 9 by decide), it_up_ne (show (3 : Nat) ≠ 9 by decide)]
      exact c1 p hp
    · rw [it_up_ne (show (48 : Nat) ≠ 45 by decide), sp_day, it_up_ne (show (4 : Nat) ≠ 9 by decide), it_up_ne (show (5 : Nat) ≠ 9 by decide)]
      exact c2 p hp
    · rw [it_up_ne (show (49 : Nat) ≠ 45 by decide), sp_day, it_up_ne (show (6 : Nat) ≠ 9 by decide), it_up_ne (show (7 : Nat) ≠ 9 by decide), it_up_ne (show (8 : Nat) ≠ 9 by decide)]
      exact c3 j hj
    · rw [it_up_eq, sp_day, it_up_ne (show (1 : Nat) ≠ 9 by decide)]
      exact c4
    · rw [it_up_eq, sp_day, it_up_eq, c5]
      rfl
    · rw [it_up_eq, sp_day, it_up_ne (show (10 : Nat) ≠ 9 by decide)]
      exact c6
end PM2
/-! a house becomes another -/
theorem e_become {κ : it_KK} {S A : it_SS} {u o : Nat} (hd : u + 7 < o ∨ o + 7 < u) (hx : hX S o A) : ∃ S', f_X0_become κ u o S = some ((), S') ∧ hX S' u A ∧ ∀ b, (b < u ∨ u + 7 < b) → S' b = S b := by
  rw [f_X0_become, ix_0, ix_6, ix_10]
  obtain ⟨T0, hT0⟩ : ∃ X, X = it_up S u 1 (S o 1) := ⟨_, rfl⟩
  rw [← hT0]
  obtain ⟨T1, hT1⟩ : ∃ X, X = it_cpy T0 (o + 1) (u + 1) 0 0 6 := ⟨_, rfl⟩
  rw [← hT1]
  obtain ⟨T2, hT2⟩ : ∃ X, X = it_cpy T1 (o + 2) (u + 2) 0 0 6 := ⟨_, rfl⟩
  rw [← hT2]
  obtain ⟨T3, hT3⟩ : ∃ X, X = it_cpy T2 (o + 3) (u + 3) 0 0 6 := ⟨_, rfl⟩
  rw [← hT3]
  obtain ⟨T4, hT4⟩ : ∃ X, X = it_cpy T3 (o + 4) (u + 4) 0 0 6 := ⟨_, rfl⟩
  rw [← hT4]
  obtain ⟨T5, hT5⟩ : ∃ X, X = it_cpy T4 (o + 5) (u + 5) 0 0 10 := ⟨_, rfl⟩
  rw [← hT5]
  obtain ⟨T6, hT6⟩ : ∃ X, X = it_cpy T5 (o + 6) (u + 6) 0 0 10 := ⟨_, rfl⟩
  rw [← hT6]
  obtain ⟨T7, hT7⟩ : ∃ X, X = it_cpy T6 (o + 7) (u + 7) 0 0 10 := ⟨_, rfl⟩
  rw [← hT7]
  obtain ⟨T8, hT8⟩ : ∃ X, X = it_up T7 u 9 (T7 o 9) := ⟨_, rfl⟩
  rw [← hT8]
  have n0 : ∀ b, b ≠ u → T0 b = S b := fun b h => by rw [hT0]; exact it_up_ne h
  have n1 : ∀ b, b ≠ u + 1 → T1 b = T0 b := fun b h => by rw [hT1]; exact cpy_ne h
  have n2 : ∀ b, b ≠ u + 2 → T2 b = T1 b := fun b h => by rw [hT2]; exact cpy_ne h
  have n3 : ∀ b, b ≠ u + 3 → T3 b = T2 b := fun b h => by rw [hT3]; exact cpy_ne h
  have n4 : ∀ b, b ≠ u + 4 → T4 b = T3 b := fun b h => by rw [hT4]; exact cpy_ne h
  have n5 : ∀ b, b ≠ u + 5 → T5 b = T4 b := fun b h => by rw [hT5]; exact cpy_ne h
  have n6 : ∀ b, b ≠ u + 6 → T6 b = T5 b := fun b h => by rw [hT6]; exact cpy_ne h
  have n7 : ∀ b, b ≠ u + 7 → T7 b = T6 b := fun b h => by rw [hT7]; exact cpy_ne h
  have n8 : ∀ b, b ≠ u → T8 b = T7 b := fun b h => by rw [hT8]; exact it_up_ne h
  have n9 : ∀ b, b ≠ u → it_up T8 u 10 (T8 o 10) b = T8 b := fun b h => it_up_ne h
  obtain ⟨a1, a2, a3, a4, a5⟩ := hx
  refine ⟨_, rfl, ⟨fun p hp => ⟨?_, ?_, ?_, ?_⟩, fun j hj => ⟨?_, ?_, ?_⟩, ?_, ?_, ?_⟩, fun b hb => ?_⟩
  · rw [n9 _ (by omega), n8 _ (by omega), n7 _ (by omega), n6 _ (by omega), n5 _ (by omega), n4 _ (by omega), n3 _ (by omega), n2 _ (by omega), hT1, cpy_at hp, n0 _ (by omega)]
    exact (a1 p hp).1
  · rw [n9 _ (by omega), n8 _ (by omega), n7 _ (by omega), n6 _ (by omega), n5 _ (by omega), n4 _ (by omega), n3 _ (by omega), hT2, cpy_at hp, n1 _ (by omega), n0 _ (by omega)]
    exact (a1 p hp).2.1
  · rw [n9 _ (by omega), n8 _ (by omega), n7 _ (by omega), n6 _ (by omega), n5 _ (by omega), n4 _ (by omega), hT3, cpy_at hp, n2 _ (by omega), n1 _ (by omega), n0 _ (by omega)]
    exact (a1 p hp).2.2.1
  · rw [n9 _ (by omega), n8 _ (by omega), n7 _ (by omega), n6 _ (by omega), n5 _ (by omega), hT4, cpy_at hp, n3 _ (by omega), n2 _ (by omega), n1 _ (by omega), n0 _ (by omega)]
    exact (a1 p hp).2.2.2
  · rw [n9 _ (by omega), n8 _ (by omega), n7 _ (by omega), n6 _ (by omega), hT5, cpy_at hj, n4 _ (by omega), n3 _ (by omega), n2 _ (by omega), n1 _ (by omega), n0 _ (by omega)]
    exact (a2 j hj).1
  · rw [n9 _ (by omega), n8 _ (by omega), n7 _ (by omega), hT6, cpy_at hj, n5 _ (by omega), n4 _ (by omega), n3 _ (by omega), n2 _ (by omega), n1 _ (by omega), n0 _ (by omega)]
    exact (a2 j hj).2.1
  · rw [n9 _ (by omega), n8 _ (by omega), hT7, cpy_at hj, n6 _ (by omega), n5 _ (by omega), n4 _ (by omega), n3 _ (by omega), n2 _ (by omega), n1 _ (by omega), n0 _ (by omega)]
    exact (a2 j hj).2.2
  · rw [it_up_eq, upd, if_neg (by decide), hT8, it_up_eq, upd, if_neg (by decide), n7 _ (by omega), n6 _ (by omega), n5 _ (by omega), n4 _ (by omega), n3 _ (by omega), n2 _ (by omega), n1 _ (by omega), hT0, it_up_eq, upd, if_pos rfl]
    exact a3
  · rw [it_up_eq, upd, if_neg (by decide), hT8, it_up_eq, upd, if_pos rfl, n7 _ (by omega), n6 _ (by omega), n5 _ (by omega), n4 _ (by omega), n3 _ (by omega), n2 _ (by omega), n1 _ (by omega), n0 _ (by omega)]
    exact a4
  · rw [it_up_eq, upd, if_pos rfl, n8 _ (by omega), n7 _ (by omega), n6 _ (by omega), n5 _ (by omega), n4 _ (by omega), n3 _ (by omega), n2 _ (by omega), n1 _ (by omega), n0 _ (by omega)]
    exact a5
  · rw [n9 _ (by omega), n8 _ (by omega), n7 _ (by omega), n6 _ (by omega), n5 _ (by omega), n4 _ (by omega), n3 _ (by omega), n2 _ (by omega), n1 _ (by omega), n0 _ (by omega)]
theorem e_think {κ : it_KK} {S A : it_SS} (hx : hX S 9 A) : ∃ S', f_X5_think κ S = some ((), S') ∧ hX S' 17 A ∧ ∀ b, (b < 17 ∨ 24 < b) → S' b = S b := by
  obtain ⟨S', e1, e2, e3⟩ := e_become (κ := κ) (u := 17) (o := 9) (Or.inr (by decide)) hx
  exact ⟨S', by rw [f_X5_think, e1, it_bi_some], e2, e3⟩
/-! what the reference keeps and lays back -/
theorem e_keeps_1 {κ : it_KK} {kont : it_SS → Option (Unit × it_SS)} : ∀ (k i n : Nat) (S : it_SS), i + k = 12 → k < n → (∀ j, j < i → S 63 j = S 48 j) → ∃ S', lp_X6_keeps_2 κ kont n (nI i) S = kont S' ∧ (∀ j, j < 12 → S' 63 j = S 48 j) ∧ ∀ b, b ≠ 63 → S' b = S b := by
  intro k
  induction k with
  | zero =>
    intro i n S hi hn h
    obtain ⟨n, rfl⟩ : ∃ m, n = m + 1 := ⟨n - 1, by omega⟩
    obtain rfl : i = 12 := by omega
    exact ⟨S, by rw [lp_X6_keeps_2, if_pos (show (12 : Int32) ≤ nI 12 by decide)], h, fun _ _ => rfl⟩
  | succ k ih =>
    intro i n S hi hn h
    obtain ⟨n, rfl⟩ : ∃ m, n = m + 1 := ⟨n - 1, by omega⟩
    rw [lp_X6_keeps_2, if_neg (show ¬ 12 ≤ nI i from nI_ge (b := 12) (by omega) (by decide)), if_pos (bd_nI (show i < 12 by omega) (by decide)), if_pos (bd_nI (show i < 43 by omega) (by decide)), nI_clamp (show i < 2 ^ 31 by omega), nI_1]
    obtain ⟨S', e1, e2, e3⟩ := ih (i + 1) n (it_up S 63 i (S 48 i)) (by omega) (by omega) (fun j hj => by
      rw [it_up_eq, it_up_ne (show (48 : Nat) ≠ 63 by decide), upd]
      by_cases e : j = i
      · rw [if_pos e, e]
      · rw [if_neg e]; exact h j (by omega))
    exact ⟨S', e1, fun j hj => by rw [e2 j hj, it_up_ne (by decide)], fun b hb => (e3 b hb).trans (it_up_ne hb)⟩
theorem e_keeps_2 {κ : it_KK} {kont : it_SS → Option (Unit × it_SS)} : ∀ (k i n : Nat) (S : it_SS), i + k = 30 → k < n → (∀ j, j < i → S 63 (12 + j) = S 49 j) → ∃ S', lp_X6_keeps_28 κ kont n (nI i) S = kont S' ∧ (∀ j, j < 30 → S' 63 (12 + j) = S 49 j) ∧ (∀ j, j < 12 → S' 63 j = S 63 j) ∧ ∀ b, b ≠ 63 → S' b = S b := by
  intro k
  induction k with
  | zero =>
    intro i n S hi hn h
    obtain ⟨n, rfl⟩ : ∃ m, n = m + 1 := ⟨n - 1, by omega⟩
    obtain rfl : i = 30 := by omega
    exact ⟨S, by rw [lp_X6_keeps_28, if_pos (show (30 : Int32) ≤ nI 30 by decide)], h, fun _ _ => rfl, fun _ _ => rfl⟩
  | succ k ih =>
    intro i n S hi hn h
    obtain ⟨n, rfl⟩ : ∃ m, n = m + 1 := ⟨n - 1, by omega⟩
    have e12 : 12 + nI i = nI (12 + i) := nI_add 12 i
    rw [lp_X6_keeps_28, if_neg (show ¬ 30 ≤ nI i from nI_ge (b := 30) (by omega) (by decide)), if_pos (bd_nI (show i < 30 by omega) (by decide)), e12, if_pos (bd_nI (show 12 + i < 43 by omega) (by decide)), nI_clamp (show i < 2 ^ 31 by omega), nI_clamp (show 12 + i < 2 ^ 31 by omega), nI_1]
    obtain ⟨S', e1, e2, e4, e3⟩ := ih (i + 1) n (it_up S 63 (12 + i) (S 49 i)) (by omega) (by omega) (fun j hj => by
      rw [it_up_eq, it_up_ne (show (49 : Nat) ≠ 63 by decide), upd]
      by_cases e : j = i
      · rw [if_pos (by omega), e]
      · rw [if_neg (by omega)]; exact h j (by omega))
    exact ⟨S', e1, fun j hj => by rw [e2 j hj, it_up_ne (by decide)], fun j hj => by rw [e4 j hj, it_up_eq, upd, if_neg (by omega)], fun b hb => (e3 b hb).trans (it_up_ne hb)⟩
/-- moods, glasses, day as they were kept -/
def kM (S A : it_SS) : Prop := (∀ p, p < 6 → S 63 (2 * p) = A 4 p ∧ S 63 (2 * p + 1) = A 5 p) ∧ (∀ j, j < 10 → S 63 (12 + 3 * j) = A 6 j ∧ S 63 (12 + (3 * j + 1)) = A 7 j ∧ S 63 (12 + (3 * j + 2)) = A 8 j) ∧ S 63 42 = A 9 0
theorem e_keeps {κ : it_KK} {S A : it_SS} {G : Nat} (hx : hM S A G) : ∃ S', f_X6_keeps κ S = some ((), S') ∧ kM S' A ∧ ∀ b, b ≠ 63 → S' b = S b := by
  obtain ⟨S1, a1, a2, a3⟩ := e_keeps_1 (κ := κ) (kont := fun S4 => lp_X6_keeps_28 κ (fun S8 => some ((), it_up S8 63 42 (S8 45 5))) it_FU 0 S4) 12 0 it_FU S rfl (by decide) (fun j hj => absurd hj (Nat.not_lt_zero _))
  obtain ⟨S2, b1, b2, b4, b3⟩ := e_keeps_2 (κ := κ) (kont := fun S8 => some ((), it_up S8 63 42 (S8 45 5))) 30 0 it_FU S1 rfl (by decide) (fun j hj => absurd hj (Nat.not_lt_zero _))
  have c : ∀ j, j ≠ 42 → it_up S2 63 42 (S2 45 5) 63 j = S2 63 j := fun j hj => by rw [it_up_eq, upd, if_neg hj]
  obtain ⟨h1, h2, h3, h4, h5, h6⟩ := hx
  refine ⟨it_up S2 63 42 (S2 45 5), ?_, ⟨fun p hp => ?_, fun j hj => ?_, ?_⟩, fun b hb => (it_up_ne hb).trans ((b3 b hb).trans (a3 b hb))⟩
  · rw [f_X6_keeps, ix_42]
    exact a1.trans b1
  · rw [c _ (by omega), c _ (by omega), b4 _ (by omega), b4 _ (by omega), a2 _ (by omega), a2 _ (by omega)]
    exact h2 p hp
  · rw [c _ (by omega), c _ (by omega), c _ (by omega), b2 _ (by omega), b2 _ (by omega), b2 _ (by omega), a3 49 (by decide)]
    exact h3 j hj
  · rw [it_up_eq, upd, if_pos rfl, b3 45 (by decide), a3 45 (by decide)]
    exact h5
theorem e_lays_1 {κ : it_KK} {kont : it_SS → Option (Unit × it_SS)} : ∀ (k i n : Nat) (S : it_SS), i + k = 12 → k < n → (∀ j, j < i → S 48 j = S 63 j) → ∃ S', lp_X6_lays_2 κ kont n (nI i) S = kont S' ∧ (∀ j, j < 12 → S' 48 j = S 63 j) ∧ ∀ b, b ≠ 48 → S' b = S b := by
  intro k
  induction k with
  | zero =>
    intro i n S hi hn h
    obtain ⟨n, rfl⟩ : ∃ m, n = m + 1 := ⟨n - 1, by omega⟩
    obtain rfl : i = 12 := by omega
    exact ⟨S, by rw [lp_X6_lays_2, if_pos (show (12 : Int32) ≤ nI 12 by decide)], h, fun _ _ => rfl⟩
  | succ k ih =>
    intro i n S hi hn h
    obtain ⟨n, rfl⟩ : ∃ m, n = m + 1 := ⟨n - 1, by omega⟩
    rw [lp_X6_lays_2, if_neg (show ¬ 12 ≤ nI i from nI_ge (b := 12) (by omega) (by decide)), if_pos (bd_nI (show i < 43 by omega) (by decide)), if_pos (bd_nI (show i < 12 by omega) (by decide)), nI_clamp (show i < 2 ^ 31 by omega), nI_1]
    obtain ⟨S', e1, e2, e3⟩ := ih (i + 1) n (it_up S 48 i (S 63 i)) (by omega) (by omega) (fun j hj => by
      rw [it_up_eq, it_up_ne (show (63 : Nat) ≠ 48 by decide), upd]
      by_cases e : j = i
      · rw [if_pos e, e]
      · rw [if_neg e]; exact h j (by omega))
    exact ⟨S', e1, fun j hj => by rw [e2 j hj, it_up_ne (by decide)], fun b hb => (e3 b hb).trans (it_up_ne hb)⟩
theorem e_lays_2 {κ : it_KK} {kont : it_SS → Option (Unit × it_SS)} : ∀ (k i n : Nat) (S : it_SS), i + k = 30 → k < n → (∀ j, j < i → S 49 j = S 63 (12 + j)) → ∃ S', lp_X6_lays_28 κ kont n (nI i) S = kont S' ∧ (∀ j, j < 30 → S' 49 j = S 63 (12 + j)) ∧ ∀ b, b ≠ 49 → S' b = S b := by
  intro k
  induction k with
  | zero =>
    intro i n S hi hn h
    obtain ⟨n, rfl⟩ : ∃ m, n = m + 1 := ⟨n - 1, by omega⟩
    obtain rfl : i = 30 := by omega
    exact ⟨S, by rw [lp_X6_lays_28, if_pos (show (30 : Int32) ≤ nI 30 by decide)], h, fun _ _ => rfl⟩
  | succ k ih =>
    intro i n S hi hn h
    obtain ⟨n, rfl⟩ : ∃ m, n = m + 1 := ⟨n - 1, by omega⟩
    have e12 : 12 + nI i = nI (12 + i) := nI_add 12 i
    rw [lp_X6_lays_28, if_neg (show ¬ 30 ≤ nI i from nI_ge (b := 30) (by omega) (by decide)), e12, if_pos (bd_nI (show 12 + i < 43 by omega) (by decide)), if_pos (bd_nI (show i < 30 by omega) (by decide)), nI_clamp (show i < 2 ^ 31 by omega), nI_clamp (show 12 + i < 2 ^ 31 by omega), nI_1]
    obtain ⟨S', e1, e2, e3⟩ := ih (i + 1) n (it_up S 49 i (S 63 (12 + i))) (by omega) (by omega) (fun j hj => by
      rw [it_up_eq, it_up_ne (show (63 : Nat) ≠ 49 by decide), upd]
      by_cases e : j = i
      · rw [if_pos e, e]
      · rw [if_neg e]; exact h j (by omega))
    exact ⟨S', e1, fun j hj => by rw [e2 j hj, it_up_ne (by decide)], fun b hb => (e3 b hb).trans (it_up_ne hb)⟩
/-- what is laid back is as it was kept; guests, kinds, law as they are -/
theorem e_lays {κ : it_KK} {S A B : it_SS} {G : Nat} (hk : kM S A) (hx : hM S B G) (h1 : B 1 0 = A 1 0) (h23 : ∀ p, p < G → B 2 p = A 2 p ∧ B 3 p = A 3 p) (h10 : B 10 0 = A 10 0) : ∃ S', f_X6_lays κ S = some ((), S') ∧ hM S' A G ∧ fD S S' := by
  obtain ⟨S1, a1, a2, a3⟩ := e_lays_1 (κ := κ) (kont := fun S4 => lp_X6_lays_28 κ (fun S8 => some ((), it_up S8 45 5 (S8 63 42))) it_FU 0 S4) 12 0 it_FU S rfl (by decide) (fun j hj => absurd hj (Nat.not_lt_zero _))
  obtain ⟨S2, b1, b2, b3⟩ := e_lays_2 (κ := κ) (kont := fun S8 => some ((), it_up S8 45 5 (S8 63 42))) 30 0 it_FU S1 rfl (by decide) (fun j hj => absurd hj (Nat.not_lt_zero _))
  obtain ⟨k1, k2, k3⟩ := hk
  obtain ⟨x1, x2, x3, x4, x5, x6⟩ := hx
  have e63 : S1 63 = S 63 := a3 63 (by decide)
  refine ⟨it_up S2 45 5 (S2 63 42), ?_, ⟨fun p hp => ?_, fun p hp => ?_, fun j hj => ?_, ?_, ?_, ?_⟩, fun b q1 q2 q3 _ _ => ?_, fun j hj => ?_⟩
  · rw [f_X6_lays, ix_42]
    exact a1.trans b1
  · rw [it_up_ne (show (46 : Nat) ≠ 45 by decide), it_up_ne (show (47 : Nat) ≠ 45 by decide), b3 46 (by decide), b3 47 (by decide), a3 46 (by decide), a3 47 (by decide), (x1 p hp).1, (x1 p hp).2]
    exact h23 p hp
  · rw [it_up_ne (by decide), b3 48 (by decide), a2 _ (by omega), a2 _ (by omega)]
    exact k1 p hp
  · rw [it_up_ne (by decide), b2 _ (by omega), b2 _ (by omega), b2 _ (by omega), e63]
    exact k2 j hj
  · rw [it_up_eq, upd, if_neg (by decide), b3 45 (by decide), a3 45 (by decide), x4]
    exact h1
  · rw [it_up_eq, upd, if_pos rfl, b3 63 (by decide), e63]
    exact k3
  · rw [it_up_eq, upd, if_neg (by decide), b3 45 (by decide), a3 45 (by decide), x6]
    exact h10
  · rw [it_up_ne q1, b3 b q3, a3 b q2]
  · rw [it_up_eq, upd, if_neg hj, b3 45 (by decide), a3 45 (by decide)]
