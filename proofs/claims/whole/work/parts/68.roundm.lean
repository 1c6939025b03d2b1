section ROUNDM
variable {κ : it_KK} {S S' S0 A B : it_SS} {G : Nat} {tb : Nat → Nat → List Nat} {T n : Nat} {by' : Nat → Int32} {ik : Int32} {AK : it_SS} {GK : Nat} {so sz : Nat → Int32} {ce : it_SS}
def QI (tb : Nat → Nat → List Nat) (T : Nat) (S0 S B : it_SS) (G : Nat) : Prop := hM S B G ∧ tM S tb T ∧ (∀ b, (b < 45 ∨ (49 < b ∧ b < 61) ∨ 63 < b) → S b = S0 b) ∧ ∀ j, (j = 7 ∨ j = 10 ∨ j = 12) → S 45 j = S0 45 j
theorem QI.q (h : QI tb T S0 S A G) : QM tb T S S A G := ⟨h.1, h.2.1, fK.refl S⟩
theorem QI.of (h : QI tb T S0 S A G) (q : QM tb T S S' B G) : QI tb T S0 S' B G := ⟨q.1, q.2.1, fun b hb => (q.2.2.1 b hb).trans (h.2.2.1 b hb), fun j hj => (q.2.2.2 j (by omega)).trans (h.2.2.2 j hj)⟩
theorem QI.up31 {v : Int32} (h : QI tb T S0 S A G) : QI tb T S0 (it_up S 45 31 v) A G := ⟨h.1.cg (fun j hj => by rw [it_up_eq, upd, if_neg (by omega)]) (it_up_ne (by decide)) (it_up_ne (by decide)) (it_up_ne (by decide)) (it_up_ne (by decide)), h.2.1.fr (by rw [it_up_eq, upd, if_neg (by decide)]) (it_up_ne (by decide)) (it_up_ne (by decide)), fun b hb => by rw [it_up_ne (by omega)]; exact h.2.2.1 b hb, fun j hj => by rw [it_up_eq, upd, if_neg (by omega)]; exact h.2.2.2 j hj⟩
theorem QI.up49 {g k : Nat} {v : Int32} (hk : k < 3) (h : QI tb T S0 S A G) : QI tb T S0 (it_up S 49 (3 * g + k) v) (it_up A (6 + k) g v) G := h.of (h.q.up49 hk)
theorem QI.fin (q : QI tb T S0 S A G) (h : IM S0 A G tb T n by' ik AK GK so sz ce) : IM S A G tb T n by' ik AK GK so sz ce := h.mk' q.1 (fun j hj => q.2.2.2 j hj) (fun b h1 h2 => q.2.2.1 b (by omega))
def cntk : Nat → Nat → Nat
  | 0, _ => 0
  | k + 1, w => if w.testBit k = true then cntk k w + 1 else cntk k w
def lowk : Nat → Nat → Nat
  | 0, _ => 0
  | k + 1, w => if w.testBit k = true then lowk k w ||| 2 ^ k else lowk k w
theorem cntk_all : ∀ w, w < 1024 → cntk 10 w = cst w / 1024 := by decide +kernel
theorem lowk_all : ∀ w, w < 1024 → lowk 10 w = w := by decide +kernel
theorem e_ices_loop {nb w : Nat} {x : Int32} (hn : nb < 1024) (hwb : ∀ g, g < 10 → w.testBit g = nb.testBit (9 - g)) (hr : hR A G T) (hx : 0 ≤ x.toInt ∧ x.toInt ≤ 99) : ∀ (k g f : Nat) (S : it_SS), g + k = 10 → k < f → QI tb T S0 S (sp_iced A w x g) G → S 45 31 = nI (lowk g w) →
    ∃ S', ((∀ j, g ≤ j → j < 10 → w.testBit j = true → ¬ A 6 j = -1) ∧ lp_X6_ices_10 κ (nI nb) x (fun v9 S10 => some (v9, S10)) f (nI (cntk g w)) (nI g) S = some (nI (cntk 10 w), S') ∧ QI tb T S0 S' (sp_iced A w x 10) G ∧ S' 45 31 = nI (lowk 10 w)) ∨
      ((∃ j, j < 10 ∧ w.testBit j = true ∧ A 6 j = -1) ∧ lp_X6_ices_10 κ (nI nb) x (fun v9 S10 => some (v9, S10)) f (nI (cntk g w)) (nI g) S = some (-1, S') ∧ ∃ q, QI tb T S0 S' (sp_iced A w x q) G) := by
  intro k
  induction k with
  | zero =>
    intro g f S hg hf h h31
    obtain ⟨f, rfl⟩ : ∃ q, f = q + 1 := ⟨f - 1, by omega⟩
    obtain rfl : g = 10 := by omega
    exact ⟨S, Or.inl ⟨fun j h1 h2 => absurd h1 (by omega), by rw [lp_X6_ices_10, if_pos (show (10 : Int32) ≤ nI 10 by decide)], h, h31⟩⟩
  | succ k ih =>
    intro g f S hg hf h h31
    obtain ⟨f, rfl⟩ : ∃ q, f = q + 1 := ⟨f - 1, by omega⟩
    have hg10 : g < 10 := by omega
    rw [lp_X6_ices_10, if_neg (show ¬ 10 ≤ nI g from nI_ge (b := 10) (by omega) (by decide)), show (9 : Int32) - nI g = nI (9 - g) from pk_sub (a := 9) (by omega), bit_at hn (by omega), ← hwb g hg10]
    by_cases q : w.testBit g = true
    · rw [if_pos q, if_pos rfl, e_isThere h.1, it_bi_some, th_nI hg10, iced_ne (show (6 : Nat) ≠ 8 by decide)]
      by_cases h6 : A 6 g = -1
      · rw [show (if (decide (¬ A 6 g = -1)) = true then (1 : Int32) else 0) = 0 by simp [h6], if_pos rfl]
        exact ⟨S, Or.inr ⟨⟨g, hg10, q, h6⟩, rfl, g, h⟩⟩
      · have hc := cap_R (x := x) hr hg10 hx
        have e8 : sp_iced A w x g 8 g = A 8 g := by simp [sp_iced]
        rw [show (if (decide (¬ A 6 g = -1)) = true then (1 : Int32) else 0) = 1 by simp [h6], if_neg (by decide), nI_3, nI_p2, if_pos (bd_nI (show 3 * g + 2 < 30 by omega) (by decide)), nI_clamp (by omega), (h.1.2.2.1 g hg10).2.2, e8, e_within, it_bi_some, hc.1, it_up_ne (show (45 : Nat) ≠ 49 by decide), h31, sh_1 g hg10, nI_or, nI_1, nI_1]
        have h1 := (h.up49 (g := g) (k := 2) (v := sp_cap (A 8 g + x)) (by decide)).up31 (v := nI (lowk g w ||| 2 ^ g))
        rw [show (6 + 2 : Nat) = 8 from rfl, iced_s q] at h1
        obtain ⟨S', b⟩ := ih (g + 1) f _ (by omega) (by omega) h1 (by rw [it_up_eq, upd, if_pos rfl, lowk, if_pos q])
        rw [cntk, if_pos q] at b
        rcases b with ⟨b1, b2⟩ | b
        · refine ⟨S', Or.inl ⟨fun j h1 h2 h3 => ?_, b2⟩⟩
          by_cases e : j = g
          · rw [e]; exact h6
          · exact b1 j (by omega) h2 h3
        · exact ⟨S', Or.inr b⟩
    · rw [if_neg q, if_neg (by decide), nI_1]
      rw [iced_n q] at h
      obtain ⟨S', b⟩ := ih (g + 1) f S (by omega) (by omega) h (by rw [lowk, if_neg q]; exact h31)
      rw [cntk, if_neg q] at b
      rcases b with ⟨b1, b2⟩ | b
      · refine ⟨S', Or.inl ⟨fun j h1 h2 h3 => ?_, b2⟩⟩
        by_cases e : j = g
        · rw [e] at h3; exact absurd h3 q
        · exact b1 j (by omega) h2 h3
      · exact ⟨S', Or.inr b⟩
theorem e_laysIce_loop (h64 : ∀ j, j < 10 → S0 64 j = A 8 j) : ∀ (k g f : Nat) (S B : it_SS), g + k = 10 → k < f → QI tb T S0 S B G → ∃ S' B', lp_X6_laysIce_2 κ (fun S4 => some ((), S4)) f (nI g) S = some ((), S') ∧ QI tb T S0 S' B' G ∧ (∀ f, f ≠ 8 → B' f = B f) ∧ (∀ j, j < 10 → g ≤ j → B' 8 j = A 8 j) ∧ ∀ j, j < g → B' 8 j = B 8 j := by
  intro k
  induction k with
  | zero =>
    intro g f S B hg hf h
    obtain ⟨f, rfl⟩ : ∃ q, f = q + 1 := ⟨f - 1, by omega⟩
    obtain rfl : g = 10 := by omega
    exact ⟨S, B, by rw [lp_X6_laysIce_2, if_pos (show (10 : Int32) ≤ nI 10 by decide)], h, fun _ _ => rfl, fun j h1 h2 => absurd h1 (by omega), fun _ _ => rfl⟩
  | succ k ih =>
    intro g f S B hg hf h
    obtain ⟨f, rfl⟩ : ∃ q, f = q + 1 := ⟨f - 1, by omega⟩
    rw [lp_X6_laysIce_2, if_neg (show ¬ 10 ≤ nI g from nI_ge (b := 10) (by omega) (by decide)), if_pos (bd_nI (show g < 10 by omega) (by decide)), nI_3, nI_p2, if_pos (bd_nI (show 3 * g + 2 < 30 by omega) (by decide)), nI_clamp (show g < 2 ^ 31 by omega), nI_clamp (show 3 * g + 2 < 2 ^ 31 by omega), h.2.2.1 64 (by omega), h64 g (by omega), nI_1]
    obtain ⟨S', B', b1, b2, b3, b4, b5⟩ := ih (g + 1) f _ _ (by omega) (by omega) (h.up49 (g := g) (k := 2) (v := A 8 g) (by decide))
    refine ⟨S', B', b1, b2, fun f hf => (b3 f hf).trans (it_up_ne hf), fun j h1 h2 => ?_, fun j hj => ?_⟩
    · by_cases e : j = g
      · rw [e, b5 g (by omega), it_up_eq, upd, if_pos rfl]
      · exact b4 j h1 (by omega)
    · rw [b5 j (by omega), it_up_eq, upd, if_neg (by omega)]
theorem e_laysIce (h64 : ∀ j, j < 10 → S0 64 j = A 8 j) (h : QI tb T S0 S B G) (hB : ∀ f, f ≠ 8 → B f = A f) : ∃ S', f_X6_laysIce κ S = some ((), S') ∧ QI tb T S0 S' A G := by
  obtain ⟨S', B', b1, b2, b3, b4, b5⟩ := e_laysIce_loop (κ := κ) h64 10 0 it_FU S B rfl (by decide) h
  have e : ∀ f, f ≠ 8 → B' f = A f := fun f hf => (b3 f hf).trans (hB f hf)
  obtain ⟨⟨a1, a2, a3, a4, a5, a6⟩, c⟩ := b2
  refine ⟨S', b1, ⟨fun p hp => ?_, fun p hp => ?_, fun j hj => ?_, ?_, ?_, ?_⟩, c⟩
  · rw [← e 2 (by decide), ← e 3 (by decide)]; exact a1 p hp
  · rw [← e 4 (by decide), ← e 5 (by decide)]; exact a2 p hp
  · rw [← e 6 (by decide), ← e 7 (by decide), ← b4 j hj (Nat.zero_le j)]; exact a3 j hj
  · rw [← e 1 (by decide)]; exact a4
  · rw [← e 9 (by decide)]; exact a5
  · rw [← e 10 (by decide)]; exact a6
theorem e_keepIce_loop {x1 x2 x3 : Int32} {kont : it_SS → Option (Int32 × it_SS)} (h : hM S A G) : ∀ (k g f : Nat) (S1 : it_SS), g + k = 10 → k < f → (∀ b, b ≠ 64 → S1 b = S b) → (∀ j, j < g → S1 64 j = A 8 j) → ∃ S', lp_X6_round_36 κ x1 x2 x3 kont f (nI g) S1 = kont S' ∧ (∀ b, b ≠ 64 → S' b = S b) ∧ ∀ j, j < 10 → S' 64 j = A 8 j := by
  intro k
  induction k with
  | zero =>
    intro g f S1 hg hf h1 h2
    obtain ⟨f, rfl⟩ : ∃ q, f = q + 1 := ⟨f - 1, by omega⟩
    obtain rfl : g = 10 := by omega
    exact ⟨S1, by rw [lp_X6_round_36, if_pos (show (10 : Int32) ≤ nI 10 by decide)], h1, h2⟩
  | succ k ih =>
    intro g f S1 hg hf h1 h2
    obtain ⟨f, rfl⟩ : ∃ q, f = q + 1 := ⟨f - 1, by omega⟩
    rw [lp_X6_round_36, if_neg (show ¬ 10 ≤ nI g from nI_ge (b := 10) (by omega) (by decide)), nI_3, nI_p2, if_pos (bd_nI (show 3 * g + 2 < 30 by omega) (by decide)), if_pos (bd_nI (show g < 10 by omega) (by decide)), nI_clamp (show g < 2 ^ 31 by omega), nI_clamp (show 3 * g + 2 < 2 ^ 31 by omega), h1 49 (by decide), (h.2.2.1 g (by omega)).2.2, nI_1]
    refine ih (g + 1) f _ (by omega) (by omega) (fun b hb => (it_up_ne hb).trans (h1 b hb)) (fun j hj => ?_)
    rw [it_up_eq, upd]
    by_cases e : j = g
    · rw [if_pos e, e]
    · rw [if_neg e]; exact h2 j (by omega)
theorem e_roundM_loop {m : Nat} {x x3 : Int32} {kont : Int32 → Int32 → it_SS → Option (Int32 × it_SS)} (hm : m < 1000) (ht : sp_tb tb T) (hr : hR A G T) (hx : 0 ≤ x.toInt ∧ x.toInt ≤ 99) (h64 : ∀ j, j < 10 → S0 64 j = A 8 j) : ∀ (k nb f be : Nat) (S : it_SS), nb + k = 1024 → k < f → QI tb T S0 S A G → be < 1024 → thr A be → rvk 10 be < nb → (∀ v, v < 1024 → thr A v → rvk 10 v < nb → vv tb G m A x v ≤ vv tb G m A x be) →
    ∃ be' S', lp_X6_round_83 κ x (nI m) x3 kont f (nI be) (nI (cst be / 1024)) (sp_mi tb G m (sp_iced A be x 10)) (nI nb) S = kont (nI be') (sp_mi tb G m (sp_iced A be' x 10)) S' ∧ QI tb T S0 S' A G ∧ bst tb G m A x be' := by
  intro k
  induction k with
  | zero =>
    intro nb f be S hs hf h hb1 hb2 hb3 hb4
    obtain ⟨f, rfl⟩ : ∃ q, f = q + 1 := ⟨f - 1, by omega⟩
    obtain rfl : nb = 1024 := by omega
    exact ⟨be, S, by rw [lp_X6_round_83, if_pos (show (1024 : Int32) ≤ nI 1024 by decide)], h, hb1, hb2, fun v h1 h2 => hb4 v h1 h2 (rv_lt v)⟩
  | succ k ih =>
    intro nb f be S hs hf h hb1 hb2 hb3 hb4
    obtain ⟨f, rfl⟩ : ∃ q, f = q + 1 := ⟨f - 1, by omega⟩
    have hn : nb < 1024 := by omega
    obtain ⟨w, hw⟩ : ∃ w, w = rvk 10 nb := ⟨_, rfl⟩
    have hw1 : w < 1024 := by rw [hw]; exact rv_lt nb
    have hw2 : rvk 10 w = nb := by rw [hw]; exact rv_rv nb hn
    have hne : ∀ v, v < 1024 → rvk 10 v = nb → v = w := fun v h1 h2 => by rw [← rv_rv v h1, h2, hw]
    obtain ⟨S1, a⟩ := e_ices_loop (κ := κ) (tb := tb) (T := T) (S0 := S0) (nb := nb) (w := w) (x := x) (A := A) (G := G) hn (fun g hg => by rw [hw]; exact rv_bit nb hn g hg) hr hx 10 0 it_FU (it_up S 45 31 0) rfl (by decide) (by rw [iced_0]; exact h.up31) (by rw [it_up_eq, upd, if_pos rfl]; rfl)
    rw [lp_X6_round_83, if_neg (show ¬ 1024 ≤ nI nb from nI_ge (b := 1024) (by omega) (by decide)), f_X6_ices, nI_1]
    rcases a with ⟨a0, a1, a2, a3⟩ | ⟨⟨j, j1, j2, j3⟩, a1, q, a2⟩
    · rw [show lp_X6_ices_10 κ (nI nb) x _ it_FU 0 0 (it_up S 45 31 0) = _ from a1, it_bi_some, if_neg (by rw [cntk_all w hw1]; exact nI_nm1 (by have := cst_lt w hw1; omega))]
      have hth : thr A w := fun g hg hb => a0 g (Nat.zero_le g) hg hb
      obtain ⟨S2, b1, b2⟩ := a2.q.moodBehind (κ := κ) hm ht (hr.iced hx)
      have b3 := a2.of b2
      have e31 : S2 45 31 = nI w := by rw [b2.2.2.2 31 (by omega), a3, lowk_all w hw1]
      obtain ⟨S3, c1, c2⟩ := e_laysIce (κ := κ) h64 b3 (fun f hf => iced_ne hf)
      rw [b1, it_bi_some, e31, cntk_all w hw1]
      have better : vv tb G m A x be < vv tb G m A x w → ∃ be' S', lp_X6_round_83 κ x (nI m) x3 kont f (nI w) (nI (cst w / 1024)) (sp_mi tb G m (sp_iced A w x 10)) (nI (nb + 1)) S3 = kont (nI be') (sp_mi tb G m (sp_iced A be' x 10)) S' ∧ QI tb T S0 S' A G ∧ bst tb G m A x be' := fun hl =>
        ih (nb + 1) f w S3 (by omega) (by omega) c2 hw1 hth (by omega) (fun v h1 h2 h3 => by
          by_cases e : rvk 10 v = nb
          · rw [hne v h1 e]
            exact Int.le_refl _
          · exact Int.le_trans (hb4 v h1 h2 (by omega)) (Int.le_of_lt hl))
      have worse : ¬ vv tb G m A x be < vv tb G m A x w → ∃ be' S', lp_X6_round_83 κ x (nI m) x3 kont f (nI be) (nI (cst be / 1024)) (sp_mi tb G m (sp_iced A be x 10)) (nI (nb + 1)) S3 = kont (nI be') (sp_mi tb G m (sp_iced A be' x 10)) S' ∧ QI tb T S0 S' A G ∧ bst tb G m A x be' := fun hl =>
        ih (nb + 1) f be S3 (by omega) (by omega) c2 hb1 hb2 (by omega) (fun v h1 h2 h3 => by
          by_cases e : rvk 10 v = nb
          · rw [hne v h1 e]
            exact Int.not_lt.mp hl
          · exact hb4 v h1 h2 (by omega))
      rw [show sp_md G (sp_days tb G m (sp_iced A w x 10)) = sp_mi tb G m (sp_iced A w x 10) from rfl, c1]
      simp only [it_bi_some]
      by_cases q1 : sp_mi tb G m (sp_iced A be x 10) < sp_mi tb G m (sp_iced A w x 10)
      · rw [if_pos q1]
        exact better (vv_of_mv hw1 hb1 (Int32.lt_iff_toInt_lt.mp q1))
      · rw [if_neg q1]
        by_cases q2 : sp_mi tb G m (sp_iced A w x 10) = sp_mi tb G m (sp_iced A be x 10)
        · have q3 : mv tb G m A x w = mv tb G m A x be := congrArg Int32.toInt q2
          have cw := cst_lt w hw1
          have cb := cst_lt be hb1
          have rw' := cst_rv w hw1
          have rb := cst_rv be hb1
          rw [if_pos q2]
          by_cases q4 : cst be / 1024 ≤ cst w / 1024
          · rw [if_pos (nI_le q4 (by omega))]
            refine worse (fun c => ?_)
            have := (vv_of_cst q3).mp c
            omega
          · rw [if_neg (nI_ge (by omega) (by omega))]
            exact better ((vv_of_cst q3).mpr (by omega))
        · rw [if_neg q2]
          refine worse (fun c => ?_)
          have q3 : mv tb G m A x w < mv tb G m A x be := by
            have h1 : ¬ mv tb G m A x be < mv tb G m A x w := fun c => q1 (Int32.lt_iff_toInt_lt.mpr c)
            have h2 : ¬ mv tb G m A x w = mv tb G m A x be := fun c => q2 (Int32.toInt_inj.mp c)
            omega
          have := vv_of_mv hb1 hw1 q3
          omega
    · rw [show lp_X6_ices_10 κ (nI nb) x _ it_FU 0 0 (it_up S 45 31 0) = _ from a1, it_bi_some, if_pos rfl]
      obtain ⟨S3, c1, c2⟩ := e_laysIce (κ := κ) h64 a2 (fun f hf => iced_ne hf)
      rw [c1, it_bi_some]
      exact ih (nb + 1) f be S3 (by omega) (by omega) c2 hb1 hb2 (by omega) (fun v h1 h2 h3 => by
        by_cases e : rvk 10 v = nb
        · have := hne v h1 e
          subst this
          exact absurd j3 (h2 j j1 j2)
        · exact hb4 v h1 h2 (by omega))
theorem q_round (x y z : Int32) : Eqv κ (f_X5_round κ x y z) (f_X6_round κ x y z) := Eqv.ask fun A G tb T n by' ik AK GK so sz ce hr => by
  cases hx : sp_in x 1 99 with
  | false =>
    refine ⟨-1000, fun S h => ⟨S, ?_, h, gM.refl S⟩, fun S h => ⟨S, ?_, h, gX.refl S⟩⟩
    · simp only [f_X5_round, e_isOutside, hx, bi_s, Bool.false_eq_true, ↓reduceIte, i10]
    · simp only [f_X6_round, e_in, hx, bi_s, Bool.false_eq_true, ↓reduceIte, i10]
  | true =>
  cases hy : sp_in y 1 10 with
  | false =>
    refine ⟨-1000, fun S h => ⟨S, ?_, h, gM.refl S⟩, fun S h => ⟨S, ?_, h, gX.refl S⟩⟩
    · simp only [f_X5_round, e_isOutside, hx, hy, bi_s, Bool.false_eq_true, ↓reduceIte, i10]
    · simp only [f_X6_round, e_in, hx, hy, bi_s, Bool.false_eq_true, ↓reduceIte, i10]
  | true =>
  cases hz : sp_in z 0 1 with
  | false =>
    refine ⟨-1000, fun S h => ⟨S, ?_, h, gM.refl S⟩, fun S h => ⟨S, ?_, h, gX.refl S⟩⟩
    · simp only [f_X5_round, e_isOutside, hx, hy, hz, bi_s, Bool.false_eq_true, ↓reduceIte, i10]
    · simp only [f_X6_round, e_in, hx, hy, hz, bi_s, Bool.false_eq_true, ↓reduceIte, i10]
  | true =>
  obtain ⟨m, hm1, hm, rfl⟩ := in_1 (m := 10) (by decide) hy
  have hxr := in_rng hx
  rw [show (1 : Int32).toInt = 1 by decide, i_99] at hxr
  have hx0 : 0 ≤ x.toInt ∧ x.toInt ≤ 99 := ⟨by omega, hxr.2⟩
  obtain ⟨W, hW⟩ := bst_ex (tb := tb) (G := G) (m := m) (A := A) (x := x)
  refine ⟨if z = 0 then nI W else sp_mi tb G m (sp_iced A W x 10), fun S h => ?_, fun S h => ?_⟩
  · obtain ⟨w, S1, a1, a2, a3, a4⟩ := e_round (κ := κ) (m := m) (x := x) (x3 := z) (kont := fun v13 S14 => if z = 0 then some (v13, S14) else it_bi (f_X5_moodIfIced κ v13 x (nI m) S14) (fun r17 S16 => some (r17, S16))) (by omega) hr hx0 h
    obtain rfl := bst_un a4 hW
    obtain ⟨S2, b1, b2, b3⟩ := e_moodIfIced (κ := κ) (x := x) a4.1 (show m < 1000 by omega) a2 hr hx0
    by_cases z0 : z = 0
    · refine ⟨S1, ?_, a2, a3⟩
      simp only [f_X5_round, e_isOutside, hx, hy, hz, bi_s, Bool.false_eq_true, ↓reduceIte, i10]
      refine Eq.trans a1 ?_
      rw [if_pos z0, if_pos z0]
    · refine ⟨S2, ?_, b2, a3.trans b3⟩
      simp only [f_X5_round, e_isOutside, hx, hy, hz, bi_s, Bool.false_eq_true, ↓reduceIte, i10]
      refine Eq.trans a1 ?_
      rw [if_neg z0, if_neg z0, b1, it_bi_some]
  · obtain ⟨S0, k1, k2, k3⟩ := e_keepIce_loop (κ := κ) (x1 := x) (x2 := nI m) (x3 := z) (kont := fun S13 => it_bi (f_X6_moodBehind κ (nI m) S13) (fun r15 S14 => lp_X6_round_83 κ x (nI m) z (fun v35 v36 S37 => if z = 0 then some (v35, S37) else some (v36, S37)) it_FU 0 0 r15 1 S14)) h.1 10 0 it_FU S rfl (by decide) (fun _ _ => rfl) (fun j hj => absurd hj (Nat.not_lt_zero _))
    have h0 : IM S0 A G tb T n by' ik AK GK so sz ce := h.mk' (h.1.cg (fun j _ => by rw [k2 45 (by decide)]) (k2 46 (by decide)) (k2 47 (by decide)) (k2 48 (by decide)) (k2 49 (by decide))) (fun j _ => by rw [k2 45 (by decide)]) (fun b h1 h2 => k2 b (by omega))
    obtain ⟨S1, a1, a2⟩ := (QM.start h0).moodBehind (κ := κ) (m := m) (by omega) hr.2.2.1 hr.1
    have q0 : QI tb T S0 S1 A G := ⟨a2.1, a2.2.1, a2.2.2.1, fun j hj => a2.2.2.2 j (by omega)⟩
    obtain ⟨w, S2, b1, b2, b3⟩ := e_roundM_loop (κ := κ) (m := m) (x := x) (x3 := z) (kont := fun v35 v36 S37 => if z = 0 then some (v35, S37) else some (v36, S37)) (by omega) hr.2.2.1 hr.1 hx0 k3 1023 1 it_FU 0 S1 rfl (by decide) q0 (by decide) thr_0 (by decide) (fun v h1 _ h3 => by
      have : v = 0 := by
        rw [← rv_rv v h1, show rvk 10 v = 0 by omega]
        decide
      rw [this]
      exact Int.le_refl _)
    obtain rfl := bst_un b3 hW
    refine ⟨S2, ?_, b2.fin h0, fun b hb => (b2.2.2.1 b (by omega)).trans (k2 b (by omega))⟩
    simp only [f_X6_round, e_in, hx, hy, hz, bi_s, Bool.false_eq_true, ↓reduceIte, i10]
    refine Eq.trans k1 ?_
    rw [a1, it_bi_some]
    rw [iced_z] at b1
    refine Eq.trans b1 ?_
    split <;> rfl
end ROUNDM
