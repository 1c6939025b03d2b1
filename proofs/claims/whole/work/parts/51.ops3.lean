theorem i10 : ((1 : Int32) = 0) = False := eq_false (by decide)
section OPS3
variable {κ : it_KK} {S S' S0 A B : it_SS} {G : Nat} {tb : Nat → Nat → List Nat} {T n : Nat} {by' : Nat → Int32} {ik : Int32} {AK : it_SS} {GK : Nat} {so sz : Nat → Int32} {ce : it_SS}
theorem IX.g (h : IX κ S A tb T n by' ik AK so sz ce) (hr : IR A G tb T n by' ik AK GK so sz) : S 9 1 = nI G := h.1.2.2.1.trans hr.1.1
theorem IM.g (h : IM S A G tb T n by' ik AK GK so sz ce) (hr : IR A G tb T n by' ik AK GK so sz) : S 45 0 = nI G := h.1.2.2.2.1.trans hr.1.1
theorem IX.tape {n' : Nat} {by1 : Nat → Int32} (h : IX κ S A tb T n by' ik AK so sz ce) (hf : ∀ b, b ≠ 5 → b ≠ 6 → b < 45 ∨ 65 ≤ b → S' b = S b) (h5 : S' 5 1 = nI n') (h6 : ∀ j, j < n' → S' 6 j = by1 j) : IX κ S' A tb T n' by1 ik AK so sz ce := by
  obtain ⟨h1, h2, h3, h4, h7⟩ := h
  refine ⟨h1.cg (fun k hk => hf _ (by omega) (by omega) (by omega)), h2.fr2 (fun b hb => hf b (by omega) (by omega) (by omega)), ⟨h5, h6⟩, ⟨by rw [hf 0 (by omega) (by omega) (by omega)]; exact h4.1, fun q => (h4.2 q).cg (fun k hk => hf _ (by omega) (by omega) (by omega))⟩, fun s hs => ?_⟩
  have := h7 s hs
  rw [it_el2_eq] at this ⊢
  rw [hf _ (by omega) (by omega) (by omega), hf _ (by omega) (by omega) (by omega)]
  exact this
theorem IM.tape {n' : Nat} {by1 : Nat → Int32} (h : IM S A G tb T n by' ik AK GK so sz ce) (hf : ∀ b, 45 < b → b < 65 → b ≠ 50 → S' b = S b) (h45 : ∀ j, j ≠ 7 → S' 45 j = S 45 j) (h5 : S' 45 7 = nI n') (h6 : ∀ j, j < n' → S' 50 j = by1 j) : IM S' A G tb T n' by1 ik AK GK so sz ce := by
  obtain ⟨h1, h2, h3, h4, h7⟩ := h
  refine ⟨h1.cg (fun j hj => h45 j (by omega)) (hf 46 (by omega) (by omega) (by omega)) (hf 47 (by omega) (by omega) (by omega)) (hf 48 (by omega) (by omega) (by omega)) (hf 49 (by omega) (by omega) (by omega)), h2.fr (h45 10 (by omega)) (hf 51 (by omega) (by omega) (by omega)) (hf 52 (by omega) (by omega) (by omega)), ⟨h5, h6, fun j hj => by rw [hf 59 (by omega) (by omega) (by omega)]; exact h3.2.2 j hj⟩, ⟨by rw [h45 12 (by omega)]; exact h4.1, fun q => ?_⟩, fun s hs => by rw [hf 55 (by omega) (by omega) (by omega), hf 56 (by omega) (by omega) (by omega), hf 57 (by omega) (by omega) (by omega)]; exact h7 s hs⟩
  obtain ⟨i1, i2, i3⟩ := h4.2 q
  exact ⟨fun p hp => by rw [hf 53 (by omega) (by omega) (by omega)]; exact i1 p hp, fun j hj => by rw [hf 53 (by omega) (by omega) (by omega)]; exact i2 j hj, by rw [hf 54 (by omega) (by omega) (by omega)]; exact i3⟩
/-! bytes come -/
theorem e_isNoByte (κ : it_KK) (x : Int32) (S : it_SS) : f_X5_isNoByte κ x S = some (if sp_in x 0 255 = true then 0 else 1, S) := by
  rw [f_X5_isNoByte, e_isOutside, it_bi_some]
  cases sp_in x 0 255 <;> rfl
theorem e_isByte (κ : it_KK) (x : Int32) (S : it_SS) : f_X6_isByte κ x S = some (if sp_in x 0 255 = true then 1 else 0, S) := by
  rw [f_X6_isByte, e_in, it_bi_some]
  cases sp_in x 0 255 <;> rfl
def sp_arg (a b c d e : Int32) (i : Nat) : Int32 := if i = 0 then a else if i = 1 then b else if i = 2 then c else if i = 3 then d else e
def sp_byt (f : Nat → Int32) (n : Nat) (g : Nat → Int32) : Nat → Int32 := fun j => if j < n then f j else g (j - n)
theorem e_feed_x {a b c d e : Int32} {n m : Nat} {kont : it_SS → Option (Int32 × it_SS)} (hm : m ≤ 5) (hn : n + m ≤ 160) : ∀ (k i f : Nat) (S : it_SS), i + k = m → k < f → S 5 1 = nI (n + i) → ∃ S', lp_X5_feed_71 κ (nI m) a b c d e kont f (nI i) S = kont S' ∧ S' 5 1 = nI (n + m) ∧ (∀ j, j < n + m → S' 6 j = if j < n + i then S 6 j else sp_arg a b c d e (j - n)) ∧ ∀ b, b ≠ 5 → b ≠ 6 → S' b = S b := by
  intro k
  induction k with
  | zero =>
    intro i f S hi hf h5
    obtain ⟨f, rfl⟩ : ∃ q, f = q + 1 := ⟨f - 1, by omega⟩
    obtain rfl : i = m := by omega
    exact ⟨S, by rw [lp_X5_feed_71, if_pos (Int32.le_refl _)], h5, fun j hj => by rw [if_pos hj], fun _ _ _ => rfl⟩
  | succ k ih =>
    intro i f S hi hf h5
    obtain ⟨f, rfl⟩ : ∃ q, f = q + 1 := ⟨f - 1, by omega⟩
    have hadd : ∀ v, f_X3_add κ v S = some ((), it_up (it_up S 6 (n + i) v) 5 1 (nI (n + i + 1))) := fun v => by
      rw [f_X3_add, h5, if_neg (show ¬ 160 ≤ nI (n + i) from nI_ge (b := 160) (by omega) (by decide)), if_pos (bd_nI (show n + i < 160 by omega) (by decide)), nI_clamp (by omega), it_up_ne (by decide), h5, nI_1]
    have key : lp_X5_feed_71 κ (nI m) a b c d e kont (f + 1) (nI i) S = lp_X5_feed_71 κ (nI m) a b c d e kont f (nI (i + 1)) (it_up (it_up S 6 (n + i) (sp_arg a b c d e i)) 5 1 (nI (n + i + 1))) := by
      rw [lp_X5_feed_71, if_neg (nI_ge (by omega) (by omega)), hadd, hadd, hadd, hadd, hadd, nI_1]
      simp only [it_bi_some]
      rcases (show i = 0 ∨ i = 1 ∨ i = 2 ∨ i = 3 ∨ i = 4 by omega) with rfl | rfl | rfl | rfl | rfl
      · rw [if_pos (show nI 0 = 0 from rfl)]; rfl
      · rw [if_neg (show ¬ nI 1 = 0 by decide), if_pos (show nI 1 = 1 from rfl)]; rfl
      · rw [if_neg (show ¬ nI 2 = 0 by decide), if_neg (show ¬ nI 2 = 1 by decide), if_pos (show nI 2 = 2 from rfl)]; rfl
      · rw [if_neg (show ¬ nI 3 = 0 by decide), if_neg (show ¬ nI 3 = 1 by decide), if_neg (show ¬ nI 3 = 2 by decide), if_pos (show nI 3 = 3 from rfl)]; rfl
      · rw [if_neg (show ¬ nI 4 = 0 by decide), if_neg (show ¬ nI 4 = 1 by decide), if_neg (show ¬ nI 4 = 2 by decide), if_neg (show ¬ nI 4 = 3 by decide)]; rfl
    obtain ⟨S', e1, e2, e3, e4⟩ := ih (i + 1) f _ (by omega) (by omega) (show (it_up (it_up S 6 (n + i) (sp_arg a b c d e i)) 5 1 (nI (n + i + 1))) 5 1 = nI (n + (i + 1)) by rw [it_up_eq, upd, if_pos rfl]; rfl)
    refine ⟨S', key.trans e1, e2, fun j hj => ?_, fun b b5 b6 => by rw [e4 b b5 b6, it_up_ne b5, it_up_ne b6]⟩
    rw [e3 j hj, it_up_ne (by decide), it_up_eq, upd]
    by_cases q : j = n + i
    · rw [if_pos (by omega), if_pos q, if_neg (by omega), q, Nat.add_sub_cancel_left]
    · rw [if_neg q]
      by_cases q2 : j < n + i
      · rw [if_pos (by omega), if_pos q2]
      · rw [if_neg (by omega), if_neg q2]
theorem e_feed_m {a b c d e : Int32} {n m : Nat} {kont : it_SS → Option (Int32 × it_SS)} (hm : m ≤ 5) (hn : n + m ≤ 160) : ∀ (k i f : Nat) (S : it_SS), i + k = m → k < f → S 45 7 = nI (n + i) → ∃ S', lp_X6_feed_68 κ (nI m) a b c d e kont f (nI i) S = kont S' ∧ S' 45 7 = nI (n + m) ∧ (∀ j, j < n + m → S' 50 j = if j < n + i then S 50 j else sp_arg a b c d e (j - n)) ∧ (∀ b, b ≠ 45 → b ≠ 50 → S' b = S b) ∧ ∀ j, j ≠ 7 → S' 45 j = S 45 j := by
  intro k
  induction k with
  | zero =>
    intro i f S hi hf h5
    obtain ⟨f, rfl⟩ : ∃ q, f = q + 1 := ⟨f - 1, by omega⟩
    obtain rfl : i = m := by omega
    exact ⟨S, by rw [lp_X6_feed_68, if_pos (Int32.le_refl _)], h5, fun j hj => by rw [if_pos hj], fun _ _ _ => rfl, fun _ _ => rfl⟩
  | succ k ih =>
    intro i f S hi hf h5
    obtain ⟨f, rfl⟩ : ∃ q, f = q + 1 := ⟨f - 1, by omega⟩
    have key : lp_X6_feed_68 κ (nI m) a b c d e kont (f + 1) (nI i) S = lp_X6_feed_68 κ (nI m) a b c d e kont f (nI (i + 1)) (it_up (it_up S 50 (n + i) (sp_arg a b c d e i)) 45 7 (nI (n + i + 1))) := by
      rw [lp_X6_feed_68, if_neg (nI_ge (by omega) (by omega)), h5, if_pos (bd_nI (show n + i < 160 by omega) (by decide)), if_pos (bd_nI (show n + i < 160 by omega) (by decide)), if_pos (bd_nI (show n + i < 160 by omega) (by decide)), if_pos (bd_nI (show n + i < 160 by omega) (by decide)), if_pos (bd_nI (show n + i < 160 by omega) (by decide)), nI_clamp (by omega)]
      simp only [it_up_ne (show (45 : Nat) ≠ 50 by decide), h5, nI_1]
      rcases (show i = 0 ∨ i = 1 ∨ i = 2 ∨ i = 3 ∨ i = 4 by omega) with rfl | rfl | rfl | rfl | rfl
      · rw [if_pos (show nI 0 = 0 from rfl)]; rfl
      · rw [if_neg (show ¬ nI 1 = 0 by decide), if_pos (show nI 1 = 1 from rfl)]; rfl
      · rw [if_neg (show ¬ nI 2 = 0 by decide), if_neg (show ¬ nI 2 = 1 by decide), if_pos (show nI 2 = 2 from rfl)]; rfl
      · rw [if_neg (show ¬ nI 3 = 0 by decide), if_neg (show ¬ nI 3 = 1 by decide), if_neg (show ¬ nI 3 = 2 by decide), if_pos (show nI 3 = 3 from rfl)]; rfl
      · rw [if_neg (show ¬ nI 4 = 0 by decide), if_neg (show ¬ nI 4 = 1 by decide), if_neg (show ¬ nI 4 = 2 by decide), if_neg (show ¬ nI 4 = 3 by decide)]; rfl
    obtain ⟨S', e1, e2, e3, e4, e5⟩ := ih (i + 1) f _ (by omega) (by omega) (show (it_up (it_up S 50 (n + i) (sp_arg a b c d e i)) 45 7 (nI (n + i + 1))) 45 7 = nI (n + (i + 1)) by rw [it_up_eq, upd, if_pos rfl]; rfl)
    refine ⟨S', key.trans e1, e2, fun j hj => ?_, fun b b5 b6 => by rw [e4 b b5 b6, it_up_ne b5, it_up_ne b6], fun j hj => by rw [e5 j hj, it_up_eq, upd, if_neg hj, it_up_ne (by decide)]⟩
    rw [e3 j hj, it_up_ne (by decide), it_up_eq, upd]
    by_cases q : j = n + i
    · rw [if_pos (by omega), if_pos q, if_neg (by omega), q, Nat.add_sub_cancel_left]
    · rw [if_neg q]
      by_cases q2 : j < n + i
      · rw [if_pos (by omega), if_pos q2]
      · rw [if_neg (by omega), if_neg q2]
theorem q_feed (x a b c d e : Int32) : Eqv κ (f_X5_feed κ x a b c d e) (f_X6_feed κ x a b c d e) := Eqv.of fun A G tb T n by' ik AK GK so sz ce hr => by
  cases hx : sp_in x 1 5 with
  | false =>
    refine ⟨-2, A, G, n, by', ik, AK, GK, so, sz, ce, hr, fun S h => ⟨S, ?_, h, gM.refl S⟩, fun S h => ⟨S, ?_, h, gX.refl S⟩⟩
    · simp only [f_X5_feed, e_isOutside, hx, it_bi_some, Bool.false_eq_true, ↓reduceIte, i10]
    · simp only [f_X6_feed, e_in, hx, it_bi_some, Bool.false_eq_true, ↓reduceIte, i10]
  | true =>
  cases ha : sp_in a 0 255 with
  | false =>
    refine ⟨-2, A, G, n, by', ik, AK, GK, so, sz, ce, hr, fun S h => ⟨S, ?_, h, gM.refl S⟩, fun S h => ⟨S, ?_, h, gX.refl S⟩⟩
    · simp only [f_X5_feed, e_isOutside, e_isNoByte, hx, ha, it_bi_some, Bool.false_eq_true, ↓reduceIte, i10]
    · simp only [f_X6_feed, e_in, e_isByte, hx, ha, it_bi_some, Bool.false_eq_true, ↓reduceIte, i10]
  | true =>
  cases hb : sp_in b 0 255 with
  | false =>
    refine ⟨-2, A, G, n, by', ik, AK, GK, so, sz, ce, hr, fun S h => ⟨S, ?_, h, gM.refl S⟩, fun S h => ⟨S, ?_, h, gX.refl S⟩⟩
    · simp only [f_X5_feed, e_isOutside, e_isNoByte, hx, ha, hb, it_bi_some, Bool.false_eq_true, ↓reduceIte, i10]
    · simp only [f_X6_feed, e_in, e_isByte, hx, ha, hb, it_bi_some, Bool.false_eq_true, ↓reduceIte, i10]
  | true =>
  cases hc : sp_in c 0 255 with
  | false =>
    refine ⟨-2, A, G, n, by', ik, AK, GK, so, sz, ce, hr, fun S h => ⟨S, ?_, h, gM.refl S⟩, fun S h => ⟨S, ?_, h, gX.refl S⟩⟩
    · simp only [f_X5_feed, e_isOutside, e_isNoByte, hx, ha, hb, hc, it_bi_some, Bool.false_eq_true, ↓reduceIte, i10]
    · simp only [f_X6_feed, e_in, e_isByte, hx, ha, hb, hc, it_bi_some, Bool.false_eq_true, ↓reduceIte, i10]
  | true =>
  cases hd : sp_in d 0 255 with
  | false =>
    refine ⟨-2, A, G, n, by', ik, AK, GK, so, sz, ce, hr, fun S h => ⟨S, ?_, h, gM.refl S⟩, fun S h => ⟨S, ?_, h, gX.refl S⟩⟩
    · simp only [f_X5_feed, e_isOutside, e_isNoByte, hx, ha, hb, hc, hd, it_bi_some, Bool.false_eq_true, ↓reduceIte, i10]
    · simp only [f_X6_feed, e_in, e_isByte, hx, ha, hb, hc, hd, it_bi_some, Bool.false_eq_true, ↓reduceIte, i10]
  | true =>
  cases he : sp_in e 0 255 with
  | false =>
    refine ⟨-2, A, G, n, by', ik, AK, GK, so, sz, ce, hr, fun S h => ⟨S, ?_, h, gM.refl S⟩, fun S h => ⟨S, ?_, h, gX.refl S⟩⟩
    · simp only [f_X5_feed, e_isOutside, e_isNoByte, hx, ha, hb, hc, hd, he, it_bi_some, Bool.false_eq_true, ↓reduceIte, i10]
    · simp only [f_X6_feed, e_in, e_isByte, hx, ha, hb, hc, hd, he, it_bi_some, Bool.false_eq_true, ↓reduceIte, i10]
  | true =>
  obtain ⟨m, hm, rfl⟩ : ∃ m, m ≤ 5 ∧ x = nI m := in_nI (by decide) (show sp_in x 0 (nI 5) = true by
    simp only [sp_in, Bool.and_eq_true, decide_eq_true_eq] at hx ⊢
    exact ⟨Int32.le_trans (by decide) hx.1, hx.2⟩)
  have hn := hr.2.2.2.2.1
  by_cases hf : n + m ≤ 160
  · have hle : nI n + nI m ≤ 160 := by rw [nI_add]; exact nI_le (b := 160) hf (by decide)
    refine ⟨nI (n + m), A, G, n + m, sp_byt by' n (sp_arg a b c d e), ik, AK, GK, so, sz, ce, ⟨hr.1, hr.2.1, hr.2.2.1, hr.2.2.2.1, ⟨hf, fun j hj => ?_⟩, hr.2.2.2.2.2⟩, fun S h => ?_, fun S h => ?_⟩
    · rw [sp_byt]
      split
      · exact hn.2 j (by assumption)
      · rw [sp_arg]
        have r255 : ∀ {v : Int32}, sp_in v 0 255 = true → 0 ≤ v.toInt ∧ v.toInt ≤ 255 := fun q => by
          have := in_rng q
          rw [i_0, show (255 : Int32).toInt = 255 by decide] at this
          exact this
        repeat' split
        all_goals first | exact r255 ha | exact r255 hb | exact r255 hc | exact r255 hd | exact r255 he
    · obtain ⟨S', e1, e2, e3, e4⟩ := e_feed_x (κ := κ) (a := a) (b := b) (c := c) (d := d) (e := e) (n := n) (kont := fun S35 => some (S35 5 1, S35)) hm hf m 0 it_FU S (by omega) (by show m < 100000; omega) h.2.2.1.1
      refine ⟨S', ?_, h.tape (fun b b5 b6 _ => e4 b b5 b6) e2 (fun j hj => ?_), fun b h1 h2 => e4 b (by omega) (by omega)⟩
      · simp only [f_X5_feed, e_isOutside, e_isNoByte, hx, ha, hb, hc, hd, he, it_bi_some, Bool.false_eq_true, ↓reduceIte, i10, h.2.2.1.1, if_pos hle]
        exact e1.trans (by rw [e2])
      · rw [e3 j hj, sp_byt]
        by_cases q : j < n
        · rw [if_pos (show j < n + 0 from q), if_pos q]
          exact h.2.2.1.2 j q
        · rw [if_neg (show ¬ j < n + 0 from q), if_neg q]
    · obtain ⟨S', e1, e2, e3, e4, e5⟩ := e_feed_m (κ := κ) (a := a) (b := b) (c := c) (d := d) (e := e) (n := n) (kont := fun S35 => some (S35 45 7, S35)) hm hf m 0 it_FU S (by omega) (by show m < 100000; omega) h.2.2.1.1
      refine ⟨S', ?_, h.tape (fun b b5 _ b6 => e4 b (by omega) b6) e5 e2 (fun j hj => ?_), fun b hb => e4 b (by omega) (by omega)⟩
      · simp only [f_X6_feed, e_in, e_isByte, hx, ha, hb, hc, hd, he, it_bi_some, Bool.false_eq_true, ↓reduceIte, i10, h.2.2.1.1, if_pos hle]
        exact e1.trans (by rw [e2])
      · rw [e3 j hj, sp_byt]
        by_cases q : j < n
        · rw [if_pos (show j < n + 0 from q), if_pos q]
          exact h.2.2.1.2.1 j q
        · rw [if_neg (show ¬ j < n + 0 from q), if_neg q]
  · have hle : ¬ nI n + nI m ≤ 160 := by rw [nI_add]; exact nI_ge (a := 160) (by omega) (by omega)
    refine ⟨-4, A, G, n, by', ik, AK, GK, so, sz, ce, hr, fun S h => ⟨S, ?_, h, gM.refl S⟩, fun S h => ⟨S, ?_, h, gX.refl S⟩⟩
    · simp only [f_X5_feed, e_isOutside, e_isNoByte, hx, ha, hb, hc, hd, he, it_bi_some, Bool.false_eq_true, ↓reduceIte, i10, h.2.2.1.1, if_neg hle]
    · simp only [f_X6_feed, e_in, e_isByte, hx, ha, hb, hc, hd, he, it_bi_some, Bool.false_eq_true, ↓reduceIte, i10, h.2.2.1.1, if_neg hle]
/-! a glass is brought -/
def sp_fst : Nat → Nat → it_SS → Nat
  | 0, g, _ => g
  | k + 1, g, A => if A 6 g = -1 then g else sp_fst k (g + 1) A
def sp_pour (A : it_SS) (g : Nat) (x h m : Int32) : it_SS := it_up (it_up (it_up A 6 g x) 7 g h) 8 g m
def sp_cold (tb : Nat → Nat → List Nat) (A : it_SS) (g p : Nat) (h m : Int32) : Int32 := if A 5 p + sp_chill tb (sp_pour A g (nI p) h m) g < 99 then A 5 p + sp_chill tb (sp_pour A g (nI p) h m) g else 99
def sp_srvAt (tb : Nat → Nat → List Nat) (A : it_SS) (g p : Nat) (h m : Int32) : it_SS := if g = 10 then A else it_up (sp_pour A g (nI p) h m) 5 p (sp_cold tb A g p h m)
def sp_srv (tb : Nat → Nat → List Nat) (A : it_SS) (p : Nat) (h m : Int32) : it_SS := sp_srvAt tb A (sp_fst 10 0 A) p h m
theorem fst_le {A : it_SS} : ∀ k g, g + k = 10 → sp_fst k g A ≤ 10 ∧ g ≤ sp_fst k g A
  | 0, g, h => by rw [sp_fst]; omega
  | k + 1, g, h => by
    rw [sp_fst]
    have := fst_le (A := A) k (g + 1) (by omega)
    split <;> omega
theorem pour_R {h m : Int32} {g p : Nat} (hr : hR A G T) (hp : p < G) (hh : -99 ≤ h.toInt ∧ h.toInt ≤ 99) (hm : 0 ≤ m.toInt ∧ m.toInt ≤ 99) : hR (sp_pour A g (nI p) h m) G T := ((hr.up6 (Or.inr ⟨p, hp, rfl⟩)).up7 hh.1 hh.2).up8 hm.1 hm.2
theorem pour_6 {x h m : Int32} {g : Nat} : sp_pour A g x h m 6 g = x := by rw [sp_pour, it_up_ne (by decide), it_up_ne (by decide), it_up_eq, upd, if_pos rfl]
theorem pour_ne {x h m : Int32} {g f : Nat} (h6 : f ≠ 6) (h7 : f ≠ 7) (h8 : f ≠ 8) : sp_pour A g x h m f = A f := by rw [sp_pour, it_up_ne h8, it_up_ne h7, it_up_ne h6]
theorem cold_R {h m : Int32} {g p : Nat} (hr : hR A G T) (hp : p < G) : sp_cl (A 5 p + sp_chill tb (sp_pour A g (nI p) h m) g) 0 99 = sp_cold tb A g p h m ∧ 0 ≤ (sp_cold tb A g p h m).toInt ∧ (sp_cold tb A g p h m).toInt ≤ 99 := by
  have hG := hr.2.1
  have hc := chill_rng (tb := tb) (A := sp_pour A g (nI p) h m) (g := g) (by rw [sp_p, pour_6, nI_clamp (by omega), pour_ne (by decide) (by decide) (by decide)]; exact hr.2.2.2.2.1 p hp)
  exact ice_cl (hr.2.2.2.2.2.1 p (by omega)).2.2 ⟨hc.1, by omega⟩
theorem hR.srvAt {h m : Int32} {g p : Nat} (hr : hR A G T) (hp : p < G) (hh : -99 ≤ h.toInt ∧ h.toInt ≤ 99) (hm : 0 ≤ m.toInt ∧ m.toInt ≤ 99) : hR (sp_srvAt tb A g p h m) G T := by
  rw [sp_srvAt]
  split
  · exact hr
  · have hc := cold_R (tb := tb) (g := g) (h := h) (m := m) hr hp
    exact (pour_R hr hp hh hm).up5 hc.2.1 hc.2.2
theorem srvAt_ne {h m : Int32} {g p f : Nat} (h5 : f ≠ 5) (h6 : f ≠ 6) (h7 : f ≠ 7) (h8 : f ≠ 8) : sp_srvAt tb A g p h m f = A f := by
  rw [sp_srvAt]
  split
  · rfl
  · rw [it_up_ne h5, pour_ne h6 h7 h8]
theorem sm.srv {A0 : it_SS} {h m : Int32} {g p : Nat} (hs : sm A0 A) : sm A0 (sp_srvAt tb A g p h m) := hs.trans ⟨srvAt_ne (by decide) (by decide) (by decide) (by decide), srvAt_ne (by decide) (by decide) (by decide) (by decide), srvAt_ne (by decide) (by decide) (by decide) (by decide), srvAt_ne (by decide) (by decide) (by decide) (by decide)⟩
theorem e_serve_loop {h m : Int32} {u p : Nat} {kont : it_SS → Option (Int32 × it_SS)} (hu : it_u u) (hx : hX S u A) (ht : tX κ S tb T) (htb : sp_tb tb T) (hr : hR A G T) (hp : p < G) (hk : kont S = some (-4, S)) : ∀ (k g n : Nat), g + k = 10 → k < n → ∃ S', lp_X0_serve_3 κ u (nI p) h m kont n (nI g) S = some (if sp_fst k g A = 10 then -4 else nI (sp_fst k g A), S') ∧ hX S' u (sp_srvAt tb A (sp_fst k g A) p h m) ∧ fU u S S' := by
  have hG := hr.2.1
  have hu1 := hu.1
  intro k
  induction k with
  | zero =>
    intro g n hg hn
    obtain ⟨n, rfl⟩ : ∃ q, n = q + 1 := ⟨n - 1, by omega⟩
    obtain rfl : g = 10 := by omega
    exact ⟨S, by rw [lp_X0_serve_3, if_pos (show (10 : Int32) ≤ nI 10 by decide), hk]; rfl, by rw [sp_fst, sp_srvAt, if_pos rfl]; exact hx, fU.refl u S⟩
  | succ k ih =>
    intro g n hg hn
    obtain ⟨n, rfl⟩ : ∃ q, n = q + 1 := ⟨n - 1, by omega⟩
    rw [lp_X0_serve_3, if_neg (show ¬ 10 ≤ nI g from nI_ge (b := 10) (by omega) (by decide)), e_hasGlass hx hr, it_bi_some, th_nI (by omega), nI_1]
    by_cases h6 : A 6 g = -1
    · have hg10 : ¬ g = 10 := by omega
      have hX1 := ((hx.up (k := 5) (j := g) (v := nI p) (by decide) (by decide)).up (k := 6) (j := g) (v := h) (by decide) (by decide)).up (k := 7) (j := g) (v := m) (by decide) (by decide)
      have ht1 : tX κ (it_up (it_up (it_up S (u + 5) g (nI p)) (u + 6) g h) (u + 7) g m) tb T := ht.frU hu (((fU.up (by decide)).trans (fU.up (by decide))).trans (fU.up (by decide)))
      obtain ⟨S1, a1, a2⟩ := e_chilling (κ := κ) (A := sp_pour A g (nI p) h m) (g := g) (p := p) hu hX1 ht1 ⟨htb, by rw [pour_ne (by decide) (by decide) (by decide)]; exact hr.2.2.2.1⟩ (by omega) (by omega) pour_6
      refine ⟨it_up S1 (u + 4) p (sp_cold tb A g p h m), ?_, ?_, ?_⟩
      · rw [show (if (decide (¬ A 6 g = -1)) = true then (1 : Int32) else 0) = 0 by simp [h6], if_pos rfl, if_pos (bd_nI (by omega) (by decide)), if_pos (bd_nI (by omega) (by decide)), nI_clamp (by omega), nI_clamp (by omega), a1, it_bi_some, sp_fst, if_pos h6, if_neg hg10, it_up_ne (by omega), it_up_ne (by omega), it_up_ne (by omega), (hx.1 p (by omega)).2.2.2]
        rfl
      · rw [sp_fst, if_pos h6, sp_srvAt, if_neg hg10]
        exact (hX1.fr hu a2).up (k := 4) (by decide) (by decide)
      · exact ((((fU.up (by decide)).trans (fU.up (by decide))).trans (fU.up (by decide))).trans (fU.of a2)).trans (fU.up (by decide))
    · rw [show (if (decide (¬ A 6 g = -1)) = true then (1 : Int32) else 0) = 1 by simp [h6], if_neg (by decide), sp_fst, if_neg h6]
      exact ih (g + 1) n (by omega) (by omega)
theorem e_serve {h m : Int32} {u p : Nat} (hu : it_u u) (hx : hX S u A) (ht : tX κ S tb T) (htb : sp_tb tb T) (hr : hR A G T) (hp : p < G) : ∃ S', f_X0_serve κ u (nI p) h m S = some (if sp_fst 10 0 A = 10 then -4 else nI (sp_fst 10 0 A), S') ∧ hX S' u (sp_srv tb A p h m) ∧ fU u S S' := by
  rw [f_X0_serve]
  exact e_serve_loop (kont := fun S9 => some (-4, S9)) hu hx ht htb hr hp rfl 10 0 it_FU rfl (by decide)
theorem e_ordered_loop {x h m : Int32} {kont : Int32 → it_SS → Option (Int32 × it_SS)} (hx : hM S A G) : ∀ (k g n : Nat), g + k = 10 → k < n → lp_X6_ordered_3 κ x h m kont n (nI g) S = kont (nI (sp_fst k g A)) S := by
  intro k
  induction k with
  | zero =>
    intro g n hg hn
    obtain ⟨n, rfl⟩ : ∃ q, n = q + 1 := ⟨n - 1, by omega⟩
    obtain rfl : g = 10 := by omega
    rw [lp_X6_ordered_3, if_pos (show (10 : Int32) ≤ nI 10 by decide)]
    rfl
  | succ k ih =>
    intro g n hg hn
    obtain ⟨n, rfl⟩ : ∃ q, n = q + 1 := ⟨n - 1, by omega⟩
    rw [lp_X6_ordered_3, if_neg (show ¬ 10 ≤ nI g from nI_ge (b := 10) (by omega) (by decide)), e_isThere hx, it_bi_some, th_nI (by omega), nI_1, sp_fst]
    by_cases h6 : A 6 g = -1
    · rw [show (if (decide (¬ A 6 g = -1)) = true then (1 : Int32) else 0) = 0 by simp [h6], if_pos rfl, if_pos h6]
    · rw [show (if (decide (¬ A 6 g = -1)) = true then (1 : Int32) else 0) = 1 by simp [h6], if_neg (by decide), if_neg h6]
      exact ih (g + 1) n (by omega) (by omega)
theorem e_ordered {h m : Int32} {p : Nat} (hx : hM S A G) (ht : tM S tb T) (htb : sp_tb tb T) (hr : hR A G T) (hp : p < G) : ∃ S', f_X6_ordered κ (nI p) h m S = some (if sp_fst 10 0 A = 10 then -1 else nI (sp_fst 10 0 A), S') ∧ hM S' (sp_srv tb A p h m) G ∧ fD S S' := by
  have hG := hr.2.1
  rw [f_X6_ordered]
  rw [show lp_X6_ordered_3 κ (nI p) h m _ it_FU 0 S = _ from e_ordered_loop hx 10 0 it_FU rfl (by decide)]
  have hle := (fst_le (A := A) 10 0 rfl).1
  rw [sp_srv]
  generalize sp_fst 10 0 A = g at hle ⊢
  by_cases h10 : g = 10
  · subst h10
    exact ⟨S, by rw [if_pos (show nI 10 = 10 from rfl), if_pos rfl], by rw [sp_srvAt, if_pos rfl]; exact hx, fD.refl S⟩
  · have hX1 := ((hx.up49 (k := 0) (g := g) (v := nI p) (by decide)).up49 (k := 1) (g := g) (v := h) (by decide)).up49 (k := 2) (g := g) (v := m) (by decide)
    have hf1 : fD S (it_up (it_up (it_up S 49 (3 * g + 0) (nI p)) 49 (3 * g + 1) h) 49 (3 * g + 2) m) := (fD.up49.trans fD.up49).trans fD.up49
    obtain ⟨S1, a1, a2⟩ := e_chillsOf (κ := κ) (A := sp_pour A g (nI p) h m) (g := g) (p := p) hX1 (ht.frD hf1) ⟨htb, by rw [pour_ne (by decide) (by decide) (by decide)]; exact hr.2.2.2.1⟩ hG (by omega) hp pour_6
    refine ⟨it_up S1 48 (2 * p + 1) (sp_cold tb A g p h m), ?_, ?_, ?_⟩
    · rw [Nat.add_zero] at a1
      rw [if_neg (show ¬ nI g = 10 from fun q => h10 ((nI_eq (by omega) (by decide)).mp (show nI g = nI 10 from q))), nI_3, nI_1, nI_p2, if_pos (bd_nI (by omega) (by decide)), if_pos (bd_nI (by omega) (by decide)), if_pos (bd_nI (by omega) (by decide)), nI_2, nI_1, if_pos (bd_nI (by omega) (by decide)), nI_clamp (by omega), nI_clamp (by omega), nI_clamp (by omega), nI_clamp (by omega), a1, it_bi_some, it_up_ne (by decide), it_up_ne (by decide), it_up_ne (by decide), (hx.2.1 p (by omega)).2, e_within, it_bi_some, (cold_R hr hp).1, if_neg h10]
    · rw [sp_srvAt, if_neg h10]
      exact (hM.fr hX1 a2).up48 (k := 1) (by decide)
    · exact (hf1.trans (fD.of a2)).trans fD.up48
theorem q_order (x y z : Int32) : Eqv κ (f_X5_order κ x y z) (f_X6_order κ x y z) := Eqv.of fun A G tb T n by' ik AK GK so sz ce hr => by
  cases hb : it_bd x G with
  | false =>
    refine ⟨-5, A, G, n, by', ik, AK, GK, so, sz, ce, hr, fun S h => ⟨S, ?_, h, gM.refl S⟩, fun S h => ⟨S, ?_, h, gX.refl S⟩⟩
    · simp only [f_X5_order, e_hasGuest (h.g hr) hr.1.2.1, hb, it_bi_some, Bool.false_eq_true, ↓reduceIte, i10]
    · simp only [f_X6_order, e_isOne (h.g hr) hr.1.2.1, hb, it_bi_some, Bool.false_eq_true, ↓reduceIte, i10]
  | true =>
  cases hy : sp_in y (-99) 99 with
  | false =>
    refine ⟨-7, A, G, n, by', ik, AK, GK, so, sz, ce, hr, fun S h => ⟨S, ?_, h, gM.refl S⟩, fun S h => ⟨S, ?_, h, gX.refl S⟩⟩
    · simp only [f_X5_order, e_hasGuest (h.g hr) hr.1.2.1, e_isOutside, hy, hb, it_bi_some, Bool.false_eq_true, ↓reduceIte, i10]
    · simp only [f_X6_order, e_isOne (h.g hr) hr.1.2.1, e_in, hy, hb, it_bi_some, Bool.false_eq_true, ↓reduceIte, i10]
  | true =>
  cases hz : sp_in z 1 99 with
  | false =>
    refine ⟨-7, A, G, n, by', ik, AK, GK, so, sz, ce, hr, fun S h => ⟨S, ?_, h, gM.refl S⟩, fun S h => ⟨S, ?_, h, gX.refl S⟩⟩
    · simp only [f_X5_order, e_hasGuest (h.g hr) hr.1.2.1, e_isOutside, hy, hz, hb, it_bi_some, Bool.false_eq_true, ↓reduceIte, i10]
    · simp only [f_X6_order, e_isOne (h.g hr) hr.1.2.1, e_in, hy, hz, hb, it_bi_some, Bool.false_eq_true, ↓reduceIte, i10]
  | true =>
  obtain ⟨p, hp, rfl⟩ := bd_of hb
  have hyr := in_rng hy
  have hzr := in_rng hz
  rw [i_m99, i_99] at hyr
  rw [show (1 : Int32).toInt = 1 by decide, i_99] at hzr
  have hle := (fst_le (A := A) 10 0 rfl).1
  refine ⟨if sp_fst 10 0 A = 10 then -4 else nI (sp_fst 10 0 A), sp_srv tb A p y z, G, n, by', ik, AK, GK, so, sz, ce, hr.house (hr.1.srvAt hp hyr ⟨by omega, hzr.2⟩) (by rw [dR, sp_srv, srvAt_ne (by decide) (by decide) (by decide) (by decide)]; exact hr.2.1) (fun q hq => by rw [sp_srv, srvAt_ne (by decide) (by decide) (by decide) (by decide), srvAt_ne (by decide) (by decide) (by decide) (by decide)]; exact ⟨rfl, rfl⟩), fun S h => ?_, fun S h => ?_⟩
  · obtain ⟨S1, e1, e2, e3⟩ := e_serve (κ := κ) (h := y) (m := z) (u := 9) ⟨by decide, by decide⟩ h.1 h.2.1 hr.2.2.1 hr.1 hp
    exact ⟨S1, by simp only [f_X5_order, e_hasGuest (h.g hr) hr.1.2.1, e_isOutside, hy, hz, hb, it_bi_some, Bool.false_eq_true, ↓reduceIte, i10, e1], h.house e2 e3, gM.of ⟨by decide, by decide⟩ e3⟩
  · obtain ⟨S1, e1, e2, e3⟩ := e_ordered (κ := κ) (h := y) (m := z) h.1 h.2.1 hr.2.2.1 hr.1 hp
    refine ⟨S1, ?_, h.house e2 e3, gX.fd e3⟩
    simp only [f_X6_order, e_isOne (h.g hr) hr.1.2.1, e_in, hy, hz, hb, it_bi_some, Bool.false_eq_true, ↓reduceIte, i10, e1]
    by_cases q : sp_fst 10 0 A = 10
    · rw [if_pos q, if_pos rfl, if_pos q]
    · rw [if_neg q, if_neg (nI_nm1 (by omega)), if_neg q]
end OPS3
