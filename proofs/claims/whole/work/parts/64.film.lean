section FILM
variable {κ : it_KK} {S S' S0 A B : it_SS} {G : Nat} {tb : Nat → Nat → List Nat} {T n : Nat} {by' : Nat → Int32} {ik : Int32} {AK : it_SS} {GK : Nat} {so sz : Nat → Int32} {ce : it_SS}
/-! a film -/
theorem days_succ : ∀ (k : Nat) (A : it_SS), sp_days tb G (k + 1) A = sp_day tb G (sp_days tb G k A)
  | 0, _ => rfl
  | k + 1, A => days_succ k (sp_day tb G A)
theorem byte_id {v : Int32} (h : -99 ≤ v.toInt ∧ v.toInt ≤ 99) : sp_cut 0 v = v := by
  rw [sp_cut, if_pos rfl]
  apply Int32.toInt_inj.mp
  rw [Int8.toInt_toInt32, Int32.toInt_toInt8, Int.bmod_eq_of_le (by omega) (by omega)]
theorem e_film_loop {s p m : Nat} {kont : it_SS → Option (Int32 × it_SS)} (ht : sp_tb tb T) (hr : hR A G T) (hs : s < 4) (hp : p < G) (hm : m ≤ 20) : ∀ (k i f : Nat) (S : it_SS), i + k = m → k < f → PX κ tb T S S (sp_days tb G i A) → S (34 + 2 * s) 0 = 0 → (∀ b, b ≠ 3 → b ≠ 4 → (b < 17 ∨ 24 < b) → b ≠ 34 + 2 * s + 1 → S b = S0 b) → (∀ j, j < 40 → S (34 + 2 * s + 1) j = if j < i then sp_days tb G (j + 1) A 4 p else 0) → ∃ S', lp_X5_film_55 κ (nI s) (nI p) (nI m) kont f (nI i) S = kont S' ∧ (∀ b, b ≠ 3 → b ≠ 4 → (b < 17 ∨ 24 < b) → b ≠ 34 + 2 * s + 1 → S' b = S0 b) ∧ ∀ j, j < 40 → S' (34 + 2 * s + 1) j = if j < m then sp_days tb G (j + 1) A 4 p else 0 := by
  intro k
  induction k with
  | zero =>
    intro i f S hi hf hpx h0 hb hc
    obtain ⟨f, rfl⟩ : ∃ m, f = m + 1 := ⟨f - 1, by omega⟩
    obtain rfl : i = m := by omega
    exact ⟨S, by rw [lp_X5_film_55, if_pos (Int32.le_refl _)], hb, hc⟩
  | succ k ih =>
    intro i f S hi hf hpx h0 hb hc
    obtain ⟨f, rfl⟩ : ∃ m, f = m + 1 := ⟨f - 1, by omega⟩
    have hG := hr.2.1
    have hri := hR.days (tb := tb) i A hr
    obtain ⟨S1, a1, a2⟩ := hpx.day (κ := κ) ht hri
    rw [← days_succ] at a2
    have hr1 := hR.days (tb := tb) (i + 1) A hr
    have hrg := (hr1.2.2.2.2.2.1 p (by omega))
    have e0 : S1 (it_el 2 s) 0 = 0 := by rw [it_el2_eq, a2.2.2 _ (by omega) (by omega) (by omega)]; exact h0
    rw [lp_X5_film_55, if_neg (nI_ge (by omega) (by omega)), a1, it_bi_some, if_pos (bd_nI (by omega) (by decide)), nI_clamp (show s < 2 ^ 31 by omega), nI_clamp (show p < 2 ^ 31 by omega), (a2.1.1 p (by omega)).2.2.1, e_write e0 (show i < 40 by omega), it_bi_some, nI_1, byte_id ⟨hrg.1, hrg.2.1⟩, it_el2_eq]
    refine ih (i + 1) f (it_up S1 (34 + 2 * s + 1) i (sp_days tb G (i + 1) A 4 p)) (by omega) (by omega) ⟨a2.1.cg (fun k hk => it_up_ne (by omega)), a2.2.1.fr (fun b hb => it_up_ne (by omega)), fun _ _ _ _ => rfl⟩ ?_ (fun b b3 b4 b17 hb' => ?_) (fun j hj => ?_)
    · rw [it_up_ne (by omega), ← it_el2_eq]
      exact e0
    · rw [it_up_ne hb', a2.2.2 b b3 b4 b17]
      exact hb b b3 b4 b17 hb'
    · rw [it_up_eq, upd]
      by_cases e : j = i
      · rw [if_pos e, if_pos (by omega), e]
      · rw [if_neg e, a2.2.2 _ (by omega) (by omega) (by omega), hc j hj]
        by_cases e2 : j < i
        · rw [if_pos e2, if_pos (by omega)]
        · rw [if_neg e2, if_neg (by omega)]
theorem PM.wr57 {q : Nat} {v : Int32} (h : PM tb T S0 S A B G) : PM tb T (it_up S 57 q v) (it_up S 57 q v) A B G :=
  ⟨⟨fun p hp => by rw [it_up_ne (show (63 : Nat) ≠ 57 by decide)]; exact h.1.1 p hp, fun p hp => by rw [it_up_ne (show (63 : Nat) ≠ 57 by decide)]; exact h.1.2.1 p hp, by rw [it_up_ne (show (63 : Nat) ≠ 57 by decide)]; exact h.1.2.2⟩, h.2.1.cg (fun j _ => by rw [it_up_ne (by decide)]) (it_up_ne (by decide)) (it_up_ne (by decide)) (it_up_ne (by decide)) (it_up_ne (by decide)), h.2.2.1.fr (by rw [it_up_ne (by decide)]) (it_up_ne (by decide)) (it_up_ne (by decide)), fK.refl _⟩
/-- all but the film's cells -/
def fF (s : Nat) (S0 S : it_SS) : Prop := (∀ b, (b < 45 ∨ (49 < b ∧ b < 61 ∧ b ≠ 57) ∨ 63 < b) → S b = S0 b) ∧ (∀ j, (j = 7 ∨ j = 10 ∨ j = 12 ∨ j = 31) → S 45 j = S0 45 j) ∧ ∀ q, (q < 40 * s ∨ 40 * s + 40 ≤ q) → S 57 q = S0 57 q
theorem fF.fk {s : Nat} (h : fF s S0 S) (hk : fK S S') : fF s S0 S' := ⟨fun b hb => (hk.1 b (by omega)).trans (h.1 b hb), fun j hj => (hk.2 j hj).trans (h.2.1 j hj), fun q hq => by rw [hk.1 57 (by omega)]; exact h.2.2 q hq⟩
theorem fF.up {s i : Nat} {v : Int32} (h : fF s S0 S) (hi : i < 40) : fF s S0 (it_up S 57 (40 * s + i) v) := ⟨fun b hb => by rw [it_up_ne (by omega)]; exact h.1 b hb, fun j hj => by rw [it_up_ne (by decide)]; exact h.2.1 j hj, fun q hq => by rw [it_up_eq, upd, if_neg (by omega)]; exact h.2.2 q hq⟩
theorem e_filmM_loop {s p m : Nat} {kont : it_SS → Option (Int32 × it_SS)} (ht : sp_tb tb T) (hr : hR A G T) (hs : s < 4) (hp : p < G) (hm : m ≤ 20) : ∀ (k i f : Nat) (S : it_SS), i + k = 40 → k < f → PM tb T S S A (sp_days tb G (if i ≤ m then i else m) A) G → fF s S0 S → (∀ j, j < i → S 57 (40 * s + j) = if j < m then sp_days tb G (j + 1) A 4 p else 0) → ∃ S', lp_X6_film_57 κ (nI s) (nI p) (nI m) kont f (nI i) S = kont S' ∧ PM tb T S' S' A (sp_days tb G m A) G ∧ fF s S0 S' ∧ ∀ j, j < 40 → S' 57 (40 * s + j) = if j < m then sp_days tb G (j + 1) A 4 p else 0 := by
  intro k
  induction k with
  | zero =>
    intro i f S hi hf hpm hF hc
    obtain ⟨f, rfl⟩ : ∃ m, f = m + 1 := ⟨f - 1, by omega⟩
    obtain rfl : i = 40 := by omega
    rw [if_neg (by omega)] at hpm
    exact ⟨S, by rw [lp_X6_film_57, if_pos (show (40 : Int32) ≤ nI 40 by decide)], hpm, hF, hc⟩
  | succ k ih =>
    intro i f S hi hf hpm hF hc
    obtain ⟨f, rfl⟩ : ∃ m, f = m + 1 := ⟨f - 1, by omega⟩
    have hG := hr.2.1
    rw [lp_X6_film_57, if_neg (show ¬ 40 ≤ nI i from nI_ge (b := 40) (by omega) (by decide)), nI_40, nI_add, if_pos (bd_nI (by omega) (by decide)), nI_clamp (show 40 * s + i < 2 ^ 31 by omega), nI_1]
    by_cases q : m ≤ i
    · rw [if_pos (nI_le q (by omega))]
      have e1 : (if i ≤ m then i else m) = m := by split <;> omega
      have e2 : (if i + 1 ≤ m then i + 1 else m) = m := if_neg (by omega)
      rw [e1] at hpm
      refine ih (i + 1) f _ (by omega) (by omega) (by rw [e2]; exact hpm.wr57) (hF.up (by omega)) (fun j hj => ?_)
      rw [it_up_eq, upd]
      by_cases e : j = i
      · rw [if_pos (by omega), if_neg (by omega)]
      · rw [if_neg (by omega)]
        exact hc j (by omega)
    · rw [if_neg (nI_ge (by omega) (by omega)), nI_2]
      have e1 : (if i ≤ m then i else m) = i := if_pos (by omega)
      have e2 : (if i + 1 ≤ m then i + 1 else m) = i + 1 := if_pos (by omega)
      rw [e1] at hpm
      have hri := hR.days (tb := tb) i A hr
      obtain ⟨S1, a1, a2⟩ := (hpm.wr57 (q := 40 * s + i) (v := 0)).day (κ := κ) ht hri
      rw [← days_succ] at a2
      have hF1 := (hF.up (i := i) (v := 0) (by omega)).fk a2.2.2.2
      rw [a1, it_bi_some, if_pos (bd_nI (show 2 * p < 12 by omega) (by decide)), nI_clamp (show 2 * p < 2 ^ 31 by omega), (a2.2.1.2.1 p (by omega)).1]
      refine ih (i + 1) f _ (by omega) (by omega) (by rw [e2]; exact a2.wr57) (hF1.up (by omega)) (fun j hj => ?_)
      rw [it_up_eq, upd]
      by_cases e : j = i
      · rw [if_pos (by omega), if_pos (by omega), e]
      · rw [if_neg (by omega), a2.2.2.2.1 57 (by omega), it_up_eq, upd, if_neg (by omega)]
        exact hc j (by omega)
theorem q_film (x y z : Int32) : Eqv κ (f_X5_film κ x y z) (f_X6_film κ x y z) := Eqv.of fun A G tb T n by' ik AK GK so sz ce hr => by
  have hG := hr.1.2.1
  cases hx : sp_in x 0 3 with
  | false =>
    refine ⟨-2, A, G, n, by', ik, AK, GK, so, sz, ce, hr, fun S h => ⟨S, ?_, h, gM.refl S⟩, fun S h => ⟨S, ?_, h, gX.refl S⟩⟩
    · simp only [f_X5_film, e_isNoSheet, hx, bi_s, Bool.false_eq_true, ↓reduceIte, i10]
    · simp only [f_X6_film, e_in, hx, bi_s, Bool.false_eq_true, ↓reduceIte, i10]
  | true =>
  obtain ⟨s, hs, rfl, hb4, hc⟩ := in_3 hx
  cases hb : it_bd y G with
  | false =>
    refine ⟨-5, A, G, n, by', ik, AK, GK, so, sz, ce, hr, fun S h => ⟨S, ?_, h, gM.refl S⟩, fun S h => ⟨S, ?_, h, gX.refl S⟩⟩
    · simp only [f_X5_film, e_isNoSheet, e_hasGuest (h.g hr) hG, hx, hb, bi_s, Bool.false_eq_true, ↓reduceIte, i10]
    · simp only [f_X6_film, e_in, e_isOne (h.g hr) hG, hx, hb, bi_s, Bool.false_eq_true, ↓reduceIte, i10]
  | true =>
  cases hz : sp_in z 0 20 with
  | false =>
    refine ⟨-7, A, G, n, by', ik, AK, GK, so, sz, ce, hr, fun S h => ⟨S, ?_, h, gM.refl S⟩, fun S h => ⟨S, ?_, h, gX.refl S⟩⟩
    · simp only [f_X5_film, e_isNoSheet, e_hasGuest (h.g hr) hG, e_isOutside, hx, hb, hz, bi_s, Bool.false_eq_true, ↓reduceIte, i10]
    · simp only [f_X6_film, e_in, e_isOne (h.g hr) hG, hx, hb, hz, bi_s, Bool.false_eq_true, ↓reduceIte, i10]
  | true =>
  obtain ⟨p, hp, rfl⟩ := bd_of hb
  obtain ⟨m, hm, rfl⟩ := in_nI (m := 20) (by decide) hz
  refine ⟨nI m, A, G, n, by', ik, AK, GK, upd so s 0, upd sz s (nI m), fun t => if t = s then (fun j => if j < m then sp_days tb G (j + 1) A 4 p else 0) else ce t, hr.sh (Or.inr (Or.inl rfl)) (by omega), fun S h => ?_, fun S h => ?_⟩
  · obtain ⟨S1, a1, a2, a3⟩ := h.renew (κ := κ) (o := 0) (z := nI m) hs
    obtain ⟨S2, b1, b2⟩ := PX.start a2
    have h1 := a2.2.2.2.2 s hs
    rw [it_el2_eq] at h1
    obtain ⟨S3, c1, c2, c3⟩ := e_film_loop (κ := κ) (S0 := S1) (A := A) (kont := fun S21 => some (nI m, S21)) hr.2.2.1 hr.1 hs hp hm m 0 it_FU S2 (by omega) (by show m < 100000; omega) ⟨b2.1, b2.2.1, fun _ _ _ _ => rfl⟩ (by rw [b2.2.2 _ (by omega) (by omega) (by omega), h1.1, upd, if_pos rfl]) (fun b b3 b4 hb _ => b2.2.2 b b3 b4 hb) (fun j hj => by rw [b2.2.2 _ (by omega) (by omega) (by omega), h1.2.2 j hj, if_neg (Nat.not_lt_zero j)]; exact congrFun (if_pos rfl) j)
    refine ⟨S3, ?_, ?_, a3.trans (fun b h1 h2 => c2 b (by omega) (by omega) (by omega) (by omega))⟩
    · simp only [f_X5_film, e_isNoSheet, e_hasGuest (h.g hr) hG, e_isOutside, hx, hb, hz, bi_s, Bool.false_eq_true, ↓reduceIte, i10, hb4, hc, a1, b1]
      exact c1
    · have q := a2.sh (S' := S3) (s := s) (o := 0) (z := nI m) (c := fun j => if j < m then sp_days tb G (j + 1) A 4 p else 0) hs (a2.1.cg (fun k hk => c2 _ (by omega) (by omega) (by omega) (by omega))) (fun b b3 b4 hb _ hb' _ => c2 b b3 b4 (by omega) hb') (by rw [c2 _ (by omega) (by omega) (by omega) (by omega), h1.1, upd, if_pos rfl]) (by rw [c2 _ (by omega) (by omega) (by omega) (by omega), h1.2.1, upd, if_pos rfl]) c3
      have u1 : ∀ (f : Nat → Int32) (v : Int32), upd (upd f s v) s v = upd f s v := fun f v => by
        funext t
        rw [upd, upd]
        split <;> rfl
      have u2 : (fun t => if t = s then (fun j => if j < m then sp_days tb G (j + 1) A 4 p else 0) else (fun t => if t = s then (fun _ => 0) else ce t) t) = (fun t => if t = s then (fun j => if j < m then sp_days tb G (j + 1) A 4 p else 0) else ce t) := by
        funext t
        show (if t = s then (fun j => if j < m then sp_days tb G (j + 1) A 4 p else 0) else (if t = s then (fun _ => (0 : Int32)) else ce t)) = _
        by_cases e : t = s
        · rw [if_pos e, if_pos e]
        · rw [if_neg e, if_neg e, if_neg e]
      rw [u1, u1, u2] at q
      exact q
  · have h5 := h.2.2.2.2
    obtain ⟨S1, hS1⟩ : ∃ X, X = it_up (it_up S 55 s 0) 56 s (nI m) := ⟨_, rfl⟩
    have f : ∀ b, b ≠ 55 → b ≠ 56 → S1 b = S b := fun b h1 h2 => by rw [hS1, it_up_ne h2, it_up_ne h1]
    have q1 : QM tb T S1 S1 A G := ⟨h.1.cg (fun j _ => by rw [f 45 (by decide) (by decide)]) (f 46 (by decide) (by decide)) (f 47 (by decide) (by decide)) (f 48 (by decide) (by decide)) (f 49 (by decide) (by decide)), h.2.1.fr (by rw [f 45 (by decide) (by decide)]) (f 51 (by decide) (by decide)) (f 52 (by decide) (by decide)), fK.refl _⟩
    obtain ⟨S2, b1, b2⟩ := q1.keeps (κ := κ)
    have hF2 : fF s S1 S2 := fF.fk (S := S1) ⟨fun _ _ => rfl, fun _ _ => rfl, fun _ _ => rfl⟩ b2.2.2.2
    obtain ⟨S3, c1, c2, c3, c4⟩ := e_filmM_loop (κ := κ) (S0 := S1) (A := A) (kont := fun S19 => it_bi (f_X6_lays κ S19) (fun _ S20 => some (nI m, S20))) hr.2.2.1 hr.1 hs hp hm 40 0 it_FU S2 rfl (by decide) ⟨b2.1, b2.2.1, b2.2.2.1, fK.refl _⟩ hF2 (fun j hj => absurd hj (Nat.not_lt_zero _))
    obtain ⟨S4, d1, d2⟩ := c2.lays (κ := κ) (sm.refl A).days
    have hF4 := c3.fk d2.2.2
    refine ⟨S4, ?_, h.sh d2.1 (fun j hj => by rw [hF4.2.1 j (by omega), f 45 (by decide) (by decide)]) (fun b h1 h2 => by rw [hF4.1 b (by omega), f b (by omega) (by omega)]) (fun t ht => ?_) (fun t ht => ?_) (fun t ht j hj => ?_), fun b hb => by rw [hF4.1 b (by omega), f b (by omega) (by omega)]⟩
    · simp only [f_X6_film, e_in, e_isOne (h.g hr) hG, hx, hb, hz, bi_s, Bool.false_eq_true, ↓reduceIte, i10, hb4, hc]
      rw [← hS1, b1, it_bi_some]
      refine Eq.trans c1 ?_
      rw [d1, it_bi_some]
    · rw [hF4.1 55 (by omega), hS1, it_up_ne (by decide), it_up_eq, upd, upd, (h5 t ht).1]
    · rw [hF4.1 56 (by omega), hS1, it_up_eq, upd, upd, it_up_ne (by decide), (h5 t ht).2.1]
    · by_cases e : t = s
      · subst e
        rw [if_pos rfl, d2.2.2.1 57 (by omega), c4 j hj]
      · rw [if_neg e, hF4.2.2 _ (by omega), f 57 (by decide) (by decide)]
        exact (h5 t ht).2.2 j hj
end FILM
