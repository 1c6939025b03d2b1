/-- a method of a house changes that house alone, and the book's own rows -/
def fU (u : Nat) (S S' : it_SS) : Prop := ∀ b, b ≠ 3 → b ≠ 4 → (b < u ∨ u + 7 < b) → S' b = S b
theorem fU.trans {u : Nat} {S S1 S2 : it_SS} (h : fU u S S1) (h1 : fU u S1 S2) : fU u S S2 := fun b a c d => (h1 b a c d).trans (h b a c d)
theorem fU.of {u : Nat} {S S1 : it_SS} (h : fX S S1) : fU u S S1 := fun b a c _ => h b a c
theorem fU.up {u k j : Nat} {v : Int32} {S : it_SS} (hk : k ≤ 7) : fU u S (it_up S (u + k) j v) := fun b _ _ d => it_up_ne (by omega)
theorem fU.refl (u : Nat) (S : it_SS) : fU u S S := fun _ _ _ _ => rfl
theorem tX.frU {κ : it_KK} {S S' : it_SS} {tb : Nat → Nat → List Nat} {T u : Nat} (hu : it_u u) (h : tX κ S tb T) (hf : fU u S S') : tX κ S' tb T := h.fr (fun b hb => hf b (by omega) (by omega) (by have := hu.1; have := hu.2; omega))
theorem sp_lw.of {tb : Nat → Nat → List Nat} {T : Nat} {A A1 : it_SS} (h : sp_lw tb T A) (e : A1 10 = A 10) : sp_lw tb T A1 := ⟨h.1, by rw [e]; exact h.2⟩
section PX
variable {κ : it_KK} {u T G : Nat} {tb : Nat → Nat → List Nat}
theorem e_pass_loop {kont : Int32 → it_SS → Option (Int32 × it_SS)} (hu : it_u u) : ∀ (k g n : Nat) (b : Int32) (S A : it_SS), g + k = 10 → k < n → hX S u A → tX κ S tb T → sp_lw tb T A → hR A G T → ∃ S', lp_X0_passDay_4 κ u kont n b (nI g) S = kont (sp_dl tb k g A b).2 S' ∧ hX S' u (sp_dl tb k g A b).1 ∧ fU u S S' := by
  intro k
  induction k with
  | zero =>
    intro g n b S A hg hn hx ht hl hr
    obtain ⟨n, rfl⟩ : ∃ m, n = m + 1 := ⟨n - 1, by omega⟩
    obtain rfl : g = 10 := by omega
    exact ⟨S, by rw [lp_X0_passDay_4, if_pos (show (10 : Int32) ≤ nI 10 by decide)]; rfl, hx, fU.refl u S⟩
  | succ k ih =>
    intro g n b S A hg hn hx ht hl hr
    obtain ⟨n, rfl⟩ : ∃ m, n = m + 1 := ⟨n - 1, by omega⟩
    have hg10 : g < 10 := by omega
    have hgc : (nI g).toNatClampNeg = g := nI_clamp (by omega)
    have hu1 := hu.1
    have hu2 := hu.2
    rw [lp_X0_passDay_4, if_neg (show ¬ 10 ≤ nI g from nI_ge (b := 10) hg10 (by decide)), e_hasGlass hx hr, it_bi_some, th_nI hg10]
    by_cases h6 : A 6 g = -1
    · rw [show (if (decide (¬ A 6 g = -1)) = true then (1 : Int32) else 0) = 0 by simp [h6], if_pos rfl, nI_1]
      obtain ⟨S', e1, e2, e3⟩ := ih (g + 1) n b S A (by omega) (by omega) hx ht hl hr
      have ed : sp_d1 tb A g = A := if_pos h6
      have eb : sp_b1 tb A g b = b := if_pos h6
      refine ⟨S', ?_, ?_, e3⟩
      · rw [e1, show sp_dl tb (k + 1) g A b = sp_dl tb k (g + 1) (sp_d1 tb A g) (sp_b1 tb A g b) from rfl, ed, eb]
      · rw [show sp_dl tb (k + 1) g A b = sp_dl tb k (g + 1) (sp_d1 tb A g) (sp_b1 tb A g b) from rfl, ed, eb]
        exact e2
    · obtain ⟨p, hp, hw, hpp⟩ := hr.p hg10 h6
      have hp6 : p < 6 := by have := hr.2.1; omega
      have hpc : (nI p).toNatClampNeg = p := nI_clamp (by omega)
      obtain ⟨S6, m1, m2⟩ := e_melting hu hx ht hl hg10 hp6 hw
      have hx6 := hx.fr hu m2
      have hx7 : hX (it_up S6 (u + 7) g (sp_ic tb A g)) u (sp_d0 tb A g) := hx6.up (k := 7) (by decide) (by decide)
      have hf7 : fU u S (it_up S6 (u + 7) g (sp_ic tb A g)) := (fU.of m2).trans (fU.up (by decide))
      have hA7 : ∀ f, f ≠ 8 → sp_d0 tb A g f = A f := fun f hf => it_up_ne hf
      rw [show (if (decide (¬ A 6 g = -1)) = true then (1 : Int32) else 0) = 1 by simp [h6], if_neg (by decide), if_pos (bd_nI hg10 (by decide)), m1, it_bi_some, hgc, (hx.2.1 g hg10).2.2, show (if 0 < A 8 g - sp_melt tb A g then A 8 g - sp_melt tb A g else 0) = sp_ic tb A g from rfl, show it_up S6 (u + 7) g (sp_ic tb A g) (u + 7) g = sp_ic tb A g by simp [it_up, upd]]
      by_cases hic : sp_ic tb A g = 0
      · rw [if_pos hic, (hx7.2.1 g hg10).1, hA7 6 (by decide), hw, if_pos (bd_nI hp6 (by decide)), hpc]
        obtain ⟨S10, f1, f2⟩ := e_feeling (κ := κ) hu hx7 (ht.frU hu hf7) (hl.of (hA7 10 (by decide))) hg10 hp6 (by rw [hA7 6 (by decide)]; exact hw)
        have hx10 := hx7.fr hu f2
        rw [f1, it_bi_some, (hx7.1 p hp6).2.2.1, hA7 4 (by decide), e_bounded κ _ _ _ (by decide), it_bi_some, f_X0_take, if_pos (bd_nI hg10 (by decide)), it_bi_some, hgc, nI_1]
        have ed : sp_d1 tb A g = it_up (it_up (sp_d0 tb A g) 4 p (sp_cl (A 4 p + sp_feel tb (sp_d0 tb A g) g) (-99) 99)) 6 g (-1) := by
          rw [sp_d1, if_neg h6, if_pos hic, hpp]
        have eb : sp_b1 tb A g b = b ||| (1 <<< (nI g &&& 31)) := by rw [sp_b1, if_neg h6, if_pos hic]
        have hx14 : hX (it_up (it_up S10 (u + 3) p (sp_cl (A 4 p + sp_feel tb (sp_d0 tb A g) g) (-99) 99)) (u + 5) g (-1)) u (sp_d1 tb A g) := by
          rw [ed]
          exact (hx10.up (k := 3) (by decide) (by decide)).up (k := 5) (by decide) (by decide)
        have hf14 : fU u S (it_up (it_up S10 (u + 3) p (sp_cl (A 4 p + sp_feel tb (sp_d0 tb A g) g) (-99) 99)) (u + 5) g (-1)) := ((hf7.trans (fU.of f2)).trans (fU.up (by decide))).trans (fU.up (by decide))
        obtain ⟨S', e1, e2, e3⟩ := ih (g + 1) n (b ||| (1 <<< (nI g &&& 31))) _ (sp_d1 tb A g) (by omega) (by omega) hx14 (ht.frU hu hf14) (hl.of (d1_ne (by decide) (by decide) (by decide))) (hr.d1 hg10)
        refine ⟨S', ?_, ?_, hf14.trans e3⟩
        · rw [e1, show sp_dl tb (k + 1) g A b = sp_dl tb k (g + 1) (sp_d1 tb A g) (sp_b1 tb A g b) from rfl, eb]
        · rw [show sp_dl tb (k + 1) g A b = sp_dl tb k (g + 1) (sp_d1 tb A g) (sp_b1 tb A g b) from rfl, eb]
          exact e2
      · rw [if_neg hic, nI_1]
        have ed : sp_d1 tb A g = sp_d0 tb A g := by rw [sp_d1, if_neg h6, if_neg hic]
        have eb : sp_b1 tb A g b = b := by rw [sp_b1, if_neg h6, if_neg hic]
        obtain ⟨S', e1, e2, e3⟩ := ih (g + 1) n b _ (sp_d0 tb A g) (by omega) (by omega) hx7 (ht.frU hu hf7) (hl.of (hA7 10 (by decide))) (hr.d0 hg10 h6)
        refine ⟨S', ?_, ?_, hf7.trans e3⟩
        · rw [e1, show sp_dl tb (k + 1) g A b = sp_dl tb k (g + 1) (sp_d1 tb A g) (sp_b1 tb A g b) from rfl, eb, ed]
        · rw [show sp_dl tb (k + 1) g A b = sp_dl tb k (g + 1) (sp_d1 tb A g) (sp_b1 tb A g b) from rfl, eb, ed]
          exact e2
theorem e_cold_loop {kont : Int32 → it_SS → Option (Int32 × it_SS)} (hu : it_u u) (hG : G ≤ 6) : ∀ (k p n : Nat) (b : Int32) (S A : it_SS), p + k = G → k < n → hX S u A → A 1 0 = nI G → ∃ S', lp_X0_passDay_100 κ u kont n b (nI p) S = kont b S' ∧ hX S' u (sp_cd k p A) ∧ fU u S S' := by
  intro k
  induction k with
  | zero =>
    intro p n b S A hp hn hx h1
    obtain ⟨n, rfl⟩ : ∃ m, n = m + 1 := ⟨n - 1, by omega⟩
    obtain rfl : p = G := by omega
    exact ⟨S, by rw [lp_X0_passDay_100, hx.2.2.1, h1, if_pos (Int32.le_refl _)], hx, fU.refl u S⟩
  | succ k ih =>
    intro p n b S A hp hn hx h1
    obtain ⟨n, rfl⟩ : ∃ m, n = m + 1 := ⟨n - 1, by omega⟩
    have hp6 : p < 6 := by omega
    rw [lp_X0_passDay_100, hx.2.2.1, h1, if_neg (show ¬ nI G ≤ nI p from nI_ge (by omega) (by omega)), if_pos (bd_nI hp6 (by decide)), nI_clamp (show p < 2 ^ 31 by omega), (hx.1 p hp6).2.2.2, nI_1]
    obtain ⟨S', e1, e2, e3⟩ := ih (p + 1) n b _ (sp_c1 A p) (by omega) (by omega) (hx.up (k := 4) (j := p) (v := if 0 < A 5 p - 2 then A 5 p - 2 else 0) (by decide) (by decide)) (by rw [sp_c1, it_up_ne (by decide)]; exact h1)
    exact ⟨S', e1, e2, (fU.up (by decide)).trans e3⟩
theorem e_passDay {S A : it_SS} (hu : it_u u) (hx : hX S u A) (ht : tX κ S tb T) (hl : sp_lw tb T A) (hr : hR A G T) : ∃ S', f_X0_passDay κ u S = some (sp_off1 tb A, S') ∧ hX S' u (sp_day tb G A) ∧ fU u S S' := by
  obtain ⟨S1, a1, a2, a3⟩ := e_pass_loop (κ := κ) (kont := fun v16 S17 => lp_X0_passDay_100 κ u (fun v20 S21 => some (v20, it_up S21 u 9 ((S21 u 9) + 1))) it_FU v16 0 S17) hu 10 0 it_FU 0 S A rfl (by decide) hx ht hl hr
  have hr1 := hR.dl (tb := tb) 10 0 A 0 hr (by decide)
  obtain ⟨S2, b1, b2, b3⟩ := e_cold_loop (κ := κ) (G := G) (kont := fun v20 S21 => some (v20, it_up S21 u 9 ((S21 u 9) + 1))) hu hr.2.1 G 0 it_FU (sp_dl tb 10 0 A 0).2 S1 (sp_dl tb 10 0 A 0).1 (by omega) (by have := hr.2.1; show G < 100000; omega) a2 hr1.1
  refine ⟨it_up S2 u 9 ((S2 u 9) + 1), ?_, ?_, (a3.trans b3).trans (fU.up (k := 0) (by decide))⟩
  · rw [f_X0_passDay]
    exact a1.trans b1
  · obtain ⟨c1, c2, c3, c4, c5⟩ := b2
    have e : ∀ k, 1 ≤ k → it_up S2 u 9 ((S2 u 9) + 1) (u + k) = S2 (u + k) := fun k hk => it_up_ne (by omega)
    refine ⟨fun p hp => ?_, fun j hj => ?_, ?_, ?_, ?_⟩
    · rw [e 1 (by decide), e 2 (by decide), e 3 (by decide), e 4 (by decide), sp_day, it_up_ne (by decide), it_up_ne (by decide), it_up_ne (by decide), it_up_ne (by decide)]
      exact c1 p hp
    · rw [e 5 (by decide), e 6 (by decide), e 7 (by decide), sp_day, it_up_ne (by decide), it_up_ne (by decide), it_up_ne (by decide)]
      exact c2 j hj
    · rw [it_up_eq, sp_day, it_up_ne (by decide)]
      exact c3
    · rw [it_up_eq, sp_day, it_up_eq, c4]
      rfl
    · rw [it_up_eq, sp_day, it_up_ne (by decide)]
      exact c5
end PX
/-- the reference's: the rows of moods and glasses, its own rows, and the day -/
def fD (S S' : it_SS) : Prop := (∀ b, b ≠ 45 → b ≠ 48 → b ≠ 49 → b ≠ 61 → b ≠ 62 → S' b = S b) ∧ ∀ j, j ≠ 5 → S' 45 j = S 45 j
theorem fD.trans {S S1 S2 : it_SS} (h : fD S S1) (h1 : fD S1 S2) : fD S S2 := ⟨fun b a c d e f => (h1.1 b a c d e f).trans (h.1 b a c d e f), fun j hj => (h1.2 j hj).trans (h.2 j hj)⟩
theorem fD.of {S S1 : it_SS} (h : fM S S1) : fD S S1 := ⟨fun b _ _ _ e f => h b e f, fun j _ => by rw [h 45 (by decide) (by decide)]⟩
theorem fD.up48 {j : Nat} {v : Int32} {S : it_SS} : fD S (it_up S 48 j v) := ⟨fun b _ c _ _ _ => it_up_ne c, fun j _ => by rw [it_up_ne (by decide)]⟩
theorem fD.up49 {j : Nat} {v : Int32} {S : it_SS} : fD S (it_up S 49 j v) := ⟨fun b _ _ d _ _ => it_up_ne d, fun j _ => by rw [it_up_ne (by decide)]⟩
theorem fD.refl (S : it_SS) : fD S S := ⟨fun _ _ _ _ _ _ => rfl, fun _ _ => rfl⟩
theorem tM.frD {S S' : it_SS} {tb : Nat → Nat → List Nat} {T : Nat} (h : tM S tb T) (hf : fD S S') : tM S' tb T := h.fr (hf.2 10 (by decide)) (hf.1 51 (by decide) (by decide) (by decide) (by decide) (by decide)) (hf.1 52 (by decide) (by decide) (by decide) (by decide) (by decide))
section PM
variable {κ : it_KK} {T G : Nat} {tb : Nat → Nat → List Nat}
theorem e_dayOf_loop {kont : Int32 → it_SS → Option (Int32 × it_SS)} : ∀ (k g n : Nat) (b : Int32) (S A : it_SS), g + k = 10 → k < n → hM S A G → tM S tb T → sp_lw tb T A → hR A G T → ∃ S', lp_X6_dayOf_4 κ kont n b (nI g) S = kont (sp_dl tb k g A b).2 S' ∧ hM S' (sp_dl tb k g A b).1 G ∧ fD S S' := by
  intro k
  induction k with
  | zero =>
    intro g n b S A hg hn hx ht hl hr
    obtain ⟨n, rfl⟩ : ∃ m, n = m + 1 := ⟨n - 1, by omega⟩
    obtain rfl : g = 10 := by omega
    exact ⟨S, by rw [lp_X6_dayOf_4, if_pos (show (10 : Int32) ≤ nI 10 by decide)]; rfl, hx, fD.refl S⟩
  | succ k ih =>
    intro g n b S A hg hn hx ht hl hr
    obtain ⟨n, rfl⟩ : ∃ m, n = m + 1 := ⟨n - 1, by omega⟩
    have hg10 : g < 10 := by omega
    have hG := hr.2.1
    rw [lp_X6_dayOf_4, if_neg (show ¬ 10 ≤ nI g from nI_ge (b := 10) hg10 (by decide)), e_isThere hx, it_bi_some, th_nI hg10]
    by_cases h6 : A 6 g = -1
    · rw [show (if (decide (¬ A 6 g = -1)) = true then (1 : Int32) else 0) = 0 by simp [h6], if_pos rfl, nI_1]
      obtain ⟨S', e1, e2, e3⟩ := ih (g + 1) n b S A (by omega) (by omega) hx ht hl hr
      have ed : sp_d1 tb A g = A := if_pos h6
      have eb : sp_b1 tb A g b = b := if_pos h6
      refine ⟨S', ?_, ?_, e3⟩
      · rw [e1, show sp_dl tb (k + 1) g A b = sp_dl tb k (g + 1) (sp_d1 tb A g) (sp_b1 tb A g b) from rfl, ed, eb]
      · rw [show sp_dl tb (k + 1) g A b = sp_dl tb k (g + 1) (sp_d1 tb A g) (sp_b1 tb A g b) from rfl, ed, eb]
        exact e2
    · obtain ⟨p, hp, hw, hpp⟩ := hr.p hg10 h6
      have hp6 : p < 6 := by omega
      have hpc : (nI p).toNatClampNeg = p := nI_clamp (by omega)
      obtain ⟨S6, m1, m2⟩ := e_meltsOf (κ := κ) hx ht hl hG hg10 hp hw
      have hx6 := hx.fr m2
      have hA7 : ∀ f, f ≠ 8 → sp_d0 tb A g f = A f := fun f hf => it_up_ne hf
      have e0 : nI (3 * g) + 2 = nI (3 * g + 2) := nI_add _ 2
      rw [show (if (decide (¬ A 6 g = -1)) = true then (1 : Int32) else 0) = 1 by simp [h6], if_neg (by decide), nI_3, e0, if_pos (bd_nI (show 3 * g + 2 < 30 by omega) (by decide)), m1, it_bi_some, nI_clamp (show 3 * g + 2 < 2 ^ 31 by omega), nI_clamp (show 3 * g < 2 ^ 31 by omega), (hx.2.2.1 g hg10).2.2, if_pos (bd_nI (show 3 * g < 30 by omega) (by decide)), if_pos (bd_nI (show 3 * g < 30 by omega) (by decide))]
      have hx7 : hM (it_up S6 49 (3 * g + 2) (sp_ic tb A g)) (sp_d0 tb A g) G := hx6.up49 (k := 2) (by decide)
      have hf7 : fD S (it_up S6 49 (3 * g + 2) (sp_ic tb A g)) := (fD.of m2).trans fD.up49
      have w49 : it_up S6 49 (3 * g + 2) (sp_ic tb A g) 49 (3 * g) = nI p := by
        rw [(hx7.2.2.1 g hg10).1, hA7 6 (by decide)]; exact hw
      obtain ⟨S10, f1, f2⟩ := e_feelsOf (κ := κ) hx7 (ht.frD hf7) (hl.of (hA7 10 (by decide))) hG hg10 hp (by rw [hA7 6 (by decide)]; exact hw)
      have hx10 := hx7.fr f2
      have tail0 : sp_ic tb A g = 0 → ∃ S', (it_bi (f_X6_within κ (it_up S6 49 (3 * g + 2) (sp_ic tb A g) 49 (3 * g)) 0 5 (it_up S6 49 (3 * g + 2) (sp_ic tb A g))) fun r S11 => if it_bd (2 * r) 12 = true then it_bi (f_X6_feelsOf κ (nI g) S11) fun r15 S14 => it_bi (f_X6_within κ (S11 48 (2 * r).toNatClampNeg + r15) (-99) 99 S14) fun r17 S16 => lp_X6_dayOf_4 κ kont n (b ||| 1 <<< (nI g &&& 31)) (nI g + 1) (it_up (it_up S16 48 (2 * r).toNatClampNeg r17) 49 (3 * g) (-1)) else none) = kont (sp_dl tb (k + 1) g A b).2 S' ∧ hM S' (sp_dl tb (k + 1) g A b).1 G ∧ fD S S' := by
        intro hic
        rw [w49, e_within, it_bi_some, cl_p hp6, nI_2, if_pos (bd_nI (show 2 * p < 12 by omega) (by decide)), f1, it_bi_some, nI_clamp (show 2 * p < 2 ^ 31 by omega), (hx7.2.1 p hp6).1, hA7 4 (by decide), e_within, it_bi_some, nI_1]
        have ed : sp_d1 tb A g = it_up (it_up (sp_d0 tb A g) 4 p (sp_cl (A 4 p + sp_feel tb (sp_d0 tb A g) g) (-99) 99)) 6 g (-1) := by
          rw [sp_d1, if_neg h6, if_pos hic, hpp]
        have eb : sp_b1 tb A g b = b ||| (1 <<< (nI g &&& 31)) := by rw [sp_b1, if_neg h6, if_pos hic]
        have hx14 : hM (it_up (it_up S10 48 (2 * p) (sp_cl (A 4 p + sp_feel tb (sp_d0 tb A g) g) (-99) 99)) 49 (3 * g) (-1)) (sp_d1 tb A g) G := by
          rw [ed]
          exact (hx10.up48 (k := 0) (p := p) (by decide)).up49 (k := 0) (g := g) (by decide)
        have hf14 : fD S (it_up (it_up S10 48 (2 * p) (sp_cl (A 4 p + sp_feel tb (sp_d0 tb A g) g) (-99) 99)) 49 (3 * g) (-1)) := ((hf7.trans (fD.of f2)).trans fD.up48).trans fD.up49
        obtain ⟨S', e1, e2, e3⟩ := ih (g + 1) n (b ||| (1 <<< (nI g &&& 31))) _ (sp_d1 tb A g) (by omega) (by omega) hx14 (ht.frD hf14) (hl.of (d1_ne (by decide) (by decide) (by decide))) (hr.d1 hg10)
        refine ⟨S', ?_, ?_, hf14.trans e3⟩
        · rw [e1, show sp_dl tb (k + 1) g A b = sp_dl tb k (g + 1) (sp_d1 tb A g) (sp_b1 tb A g b) from rfl, eb]
        · rw [show sp_dl tb (k + 1) g A b = sp_dl tb k (g + 1) (sp_d1 tb A g) (sp_b1 tb A g b) from rfl, eb]
          exact e2
      by_cases hpos : 0 < A 8 g - sp_melt tb A g
      · have hic0 : sp_ic tb A g = A 8 g - sp_melt tb A g := if_pos hpos
        have hne : ¬ sp_ic tb A g = 0 := fun q => by
          rw [← hic0, q, Int32.lt_iff_toInt_lt] at hpos
          omega
        have hle : 0 ≤ A 8 g - sp_melt tb A g := by
          rw [Int32.lt_iff_toInt_lt] at hpos
          rw [Int32.le_iff_toInt_le]
          omega
        rw [if_pos hle, if_pos hpos, ← hic0, nI_1]
        have ed : sp_d1 tb A g = sp_d0 tb A g := by rw [sp_d1, if_neg h6, if_neg hne]
        have eb : sp_b1 tb A g b = b := by rw [sp_b1, if_neg h6, if_neg hne]
        obtain ⟨S', e1, e2, e3⟩ := ih (g + 1) n b _ (sp_d0 tb A g) (by omega) (by omega) hx7 (ht.frD hf7) (hl.of (hA7 10 (by decide))) (hr.d0 hg10 h6)
        refine ⟨S', ?_, ?_, hf7.trans e3⟩
        · rw [e1, show sp_dl tb (k + 1) g A b = sp_dl tb k (g + 1) (sp_d1 tb A g) (sp_b1 tb A g b) from rfl, eb, ed]
        · rw [show sp_dl tb (k + 1) g A b = sp_dl tb k (g + 1) (sp_d1 tb A g) (sp_b1 tb A g b) from rfl, eb, ed]
          exact e2
      · have hic0 : sp_ic tb A g = 0 := if_neg hpos
        have ht0 := tail0 hic0
        rw [hic0] at ht0
        by_cases hle : 0 ≤ A 8 g - sp_melt tb A g
        · have hz : A 8 g - sp_melt tb A g = 0 := by
            rw [Int32.lt_iff_toInt_lt] at hpos
            rw [Int32.le_iff_toInt_le] at hle
            exact Int32.toInt_inj.mp (by omega)
          rw [if_pos hle, if_neg hpos, hz]
          exact ht0
        · rw [if_neg hle, if_neg hpos]
          exact ht0
end PM
