section OPS6
variable {κ : it_KK} {S S' S0 A B : it_SS} {G : Nat} {tb : Nat → Nat → List Nat} {T n : Nat} {by' : Nat → Int32} {ik : Int32} {AK : it_SS} {GK : Nat} {so sz : Nat → Int32} {ce : it_SS}
/-! some glasses iced -/
def sp_cap (v : Int32) : Int32 := if v < 99 then v else 99
/-- of the first k glasses those of w iced -/
def sp_iced (A : it_SS) (w : Nat) (x : Int32) (k : Nat) : it_SS := fun f g => if f = 8 ∧ g < k ∧ w.testBit g = true then sp_cap (A 8 g + x) else A f g
theorem iced_0 {w : Nat} {x : Int32} : sp_iced A w x 0 = A := by
  funext f g
  simp [sp_iced]
theorem iced_z {x : Int32} {k : Nat} : sp_iced A 0 x k = A := by
  funext f g
  simp [sp_iced]
theorem iced_s {w k : Nat} {x : Int32} (h : w.testBit k = true) : it_up (sp_iced A w x k) 8 k (sp_cap (A 8 k + x)) = sp_iced A w x (k + 1) := by
  funext f g
  simp only [it_up, upd, sp_iced]
  by_cases hf : f = 8
  · subst hf
    by_cases hg : g = k
    · subst hg
      simp [h, upd]
    · by_cases h2 : g < k
      · simp [hg, h2, show g < k + 1 by omega, upd, sp_iced]
      · simp [hg, h2, show ¬ g < k + 1 by omega, upd, sp_iced]
  · simp [hf, sp_iced]
theorem iced_n {w k : Nat} {x : Int32} (h : ¬ w.testBit k = true) : sp_iced A w x k = sp_iced A w x (k + 1) := by
  funext f g
  simp only [sp_iced]
  by_cases hg : g = k
  · subst hg
    simp [h]
  · by_cases h2 : g < k
    · simp [h2, show g < k + 1 by omega]
    · simp [h2, show ¬ g < k + 1 by omega]
theorem iced_1 {g : Nat} {x : Int32} (hg : g < 10) : sp_iced A (2 ^ g) x 10 = it_up A 8 g (sp_cap (A 8 g + x)) := by
  funext f j
  simp only [sp_iced, it_up, upd, Nat.testBit_two_pow]
  by_cases hf : f = 8
  · subst hf
    by_cases hj : j = g
    · subst hj
      simp [hg, upd]
    · simp [upd, hj, show ¬ g = j from fun q => hj q.symm]
  · simp [hf]
theorem cap_R {x : Int32} {g : Nat} (hr : hR A G T) (hg : g < 10) (hx : 0 ≤ x.toInt ∧ x.toInt ≤ 99) : sp_cl (A 8 g + x) 0 99 = sp_cap (A 8 g + x) ∧ 0 ≤ (sp_cap (A 8 g + x)).toInt ∧ (sp_cap (A 8 g + x)).toInt ≤ 99 := ice_cl (hr.2.2.2.2.2.2 g hg).2.2 ⟨hx.1, by omega⟩
theorem hR.iced {w k : Nat} {x : Int32} (hr : hR A G T) (hx : 0 ≤ x.toInt ∧ x.toInt ≤ 99) : hR (sp_iced A w x k) G T := by
  have e : ∀ f, f ≠ 8 → sp_iced A w x k f = A f := fun f hf => by funext g; simp [sp_iced, hf]
  have hr' := hr
  obtain ⟨a1, a2, a3, a4, a5, a6, a7⟩ := hr
  refine ⟨by rw [e 1 (by decide)]; exact a1, a2, fun j hj => by rw [e 6 (by decide)]; exact a3 j hj, by rw [e 10 (by decide)]; exact a4, fun p hp => by rw [e 3 (by decide)]; exact a5 p hp, fun p hp => by rw [e 4 (by decide), e 5 (by decide)]; exact a6 p hp, fun j hj => ?_⟩
  rw [e 7 (by decide)]
  refine ⟨(a7 j hj).1, (a7 j hj).2.1, ?_⟩
  have hc := cap_R (x := x) hr' hj hx
  simp only [sp_iced]
  split
  · exact hc.2
  · exact (a7 j hj).2.2
theorem iced_ne {w k f : Nat} {x : Int32} (hf : f ≠ 8) : sp_iced A w x k f = A f := by funext g; simp [sp_iced, hf]
theorem sm.iced {w k : Nat} {x : Int32} {A0 : it_SS} (h : sm A0 A) : sm A0 (sp_iced A w x k) := h.trans ⟨iced_ne (by decide), iced_ne (by decide), iced_ne (by decide), iced_ne (by decide)⟩
theorem e_ice_loop {w : Nat} {x x3 : Int32} {kont : it_SS → Option (Int32 × it_SS)} (hw : w < 1024) : ∀ (k g n : Nat) (S : it_SS), g + k = 10 → k < n → PX κ tb T S0 S (sp_iced A w x g) → ∃ S', lp_X5_moodIfIced_7 κ (nI w) x x3 kont n (nI g) S = kont S' ∧ PX κ tb T S0 S' (sp_iced A w x 10) := by
  intro k
  induction k with
  | zero =>
    intro g n S hg hn hp
    obtain ⟨n, rfl⟩ : ∃ q, n = q + 1 := ⟨n - 1, by omega⟩
    obtain rfl : g = 10 := by omega
    exact ⟨S, by rw [lp_X5_moodIfIced_7, if_pos (show (10 : Int32) ≤ nI 10 by decide)], hp⟩
  | succ k ih =>
    intro g n S hg hn hp
    obtain ⟨n, rfl⟩ : ∃ q, n = q + 1 := ⟨n - 1, by omega⟩
    rw [lp_X5_moodIfIced_7, if_neg (show ¬ 10 ≤ nI g from nI_ge (b := 10) (by omega) (by decide)), bit_at hw (by omega), nI_1]
    by_cases q : w.testBit g = true
    · rw [if_pos q, if_neg (by decide), f_X0_addIce, if_pos (bd_nI (by omega) (by decide)), it_bi_some, nI_clamp (by omega), (hp.1.2.1 g (by omega)).2.2]
      have e8 : sp_iced A w x g 8 g = A 8 g := by simp [sp_iced]
      rw [e8]
      have hp2 := hp.up (k := 7) (j := g) (v := sp_cap (A 8 g + x)) (by decide) (by decide)
      rw [iced_s q] at hp2
      exact ih (g + 1) n _ (by omega) (by omega) hp2
    · rw [if_neg q, if_pos rfl]
      rw [iced_n q] at hp
      exact ih (g + 1) n _ (by omega) (by omega) hp
/-- the mood of all, some days on -/
def sp_mi (tb : Nat → Nat → List Nat) (G m : Nat) (B : it_SS) : Int32 := sp_md G (sp_days tb G m B)
theorem e_moodIfIced {w m : Nat} {x : Int32} (hw : w < 1024) (hm : m < 1000) (h : IX κ S A tb T n by' ik AK so sz ce) (hr : IR A G tb T n by' ik AK GK so sz) (hx : 0 ≤ x.toInt ∧ x.toInt ≤ 99) : ∃ S', f_X5_moodIfIced κ (nI w) x (nI m) S = some (sp_mi tb G m (sp_iced A w x 10), S') ∧ IX κ S' A tb T n by' ik AK so sz ce ∧ gM S S' := by
  obtain ⟨S1, a1, a2⟩ := PX.start h
  obtain ⟨S2, b1, b2⟩ := e_ice_loop (κ := κ) (w := w) (x := x) (x3 := nI m) (A := A) (kont := fun S7 => lp_X5_moodIfIced_42 κ (nI w) x (nI m) (fun S11 => it_bi (f_X0_moodOfAll κ 17 S11) (fun r13 S12 => some (r13, S12))) it_FU 0 S7) hw 10 0 it_FU S1 rfl (by decide) (by rw [iced_0]; exact a2)
  have hr1 := hr.1.iced (w := w) (k := 10) hx
  obtain ⟨S3, c1, c2⟩ := b2.pass (κ := κ) hm hr.2.2.1 hr1
  have hr2 := hR.days (tb := tb) m _ hr1
  refine ⟨S3, ?_, c2.fin h, c2.gM⟩
  rw [f_X5_moodIfIced, a1, it_bi_some]
  rw [show lp_X5_moodIfIced_7 κ (nI w) x (nI m) _ it_FU 0 S1 = _ from b1, iced_f, c1, it_bi_some, e_moodOfAll c2.1 hr2.1 hr2.2.1, it_bi_some]
  rfl
/-! the best of ten -/
def sp_best (v : Nat → Int32) (A : it_SS) : Nat → Nat → Int32 → Int32 → Int32 × Int32
  | 0, _, m, b => (m, b)
  | k + 1, g, m, b => if A 6 g = -1 then sp_best v A k (g + 1) m b else if v g ≤ m then sp_best v A k (g + 1) m b else sp_best v A k (g + 1) (v g) (nI g)
theorem e_again_loop {m : Nat} {x x3 : Int32} {kont : Int32 → Int32 → it_SS → Option (Int32 × it_SS)} (hm : m < 1000) (hr : IR A G tb T n by' ik AK GK so sz) (hx : 0 ≤ x.toInt ∧ x.toInt ≤ 99) : ∀ (k g f : Nat) (mo be : Int32) (S : it_SS), g + k = 10 → k < f → IX κ S A tb T n by' ik AK so sz ce → ∃ S', lp_X5_again_48 κ x (nI m) x3 kont f mo be (nI g) S = kont (sp_best (fun g => sp_mi tb G m (sp_iced A (2 ^ g) x 10)) A k g mo be).1 (sp_best (fun g => sp_mi tb G m (sp_iced A (2 ^ g) x 10)) A k g mo be).2 S' ∧ IX κ S' A tb T n by' ik AK so sz ce ∧ gM S S' := by
  intro k
  induction k with
  | zero =>
    intro g f mo be S hg hf h
    obtain ⟨f, rfl⟩ : ∃ q, f = q + 1 := ⟨f - 1, by omega⟩
    obtain rfl : g = 10 := by omega
    exact ⟨S, by rw [lp_X5_again_48, if_pos (show (10 : Int32) ≤ nI 10 by decide)]; rfl, h, gM.refl S⟩
  | succ k ih =>
    intro g f mo be S hg hf h
    obtain ⟨f, rfl⟩ : ∃ q, f = q + 1 := ⟨f - 1, by omega⟩
    rw [lp_X5_again_48, if_neg (show ¬ 10 ≤ nI g from nI_ge (b := 10) (by omega) (by decide)), e_hasGlass h.1 hr.1, it_bi_some, th_nI (by omega), nI_1, sp_best]
    by_cases h6 : A 6 g = -1
    · rw [show (if (decide (¬ A 6 g = -1)) = true then (1 : Int32) else 0) = 0 by simp [h6], if_pos rfl, if_pos (Int32.le_refl _), if_pos h6]
      exact ih (g + 1) f mo be S (by omega) (by omega) h
    · have hw : 2 ^ g < 1024 := Nat.pow_lt_pow_right (by decide) (show g < 10 by omega)
      obtain ⟨S1, a1, a2, a3⟩ := e_moodIfIced (κ := κ) (x := x) hw hm h hr hx
      rw [show (if (decide (¬ A 6 g = -1)) = true then (1 : Int32) else 0) = 1 by simp [h6], if_neg (by decide), if_neg h6, sh_1 g (by omega), a1, it_bi_some]
      by_cases q : sp_mi tb G m (sp_iced A (2 ^ g) x 10) ≤ mo
      · rw [if_pos q, if_pos q]
        obtain ⟨S2, b1, b2, b3⟩ := ih (g + 1) f mo be S1 (by omega) (by omega) a2
        exact ⟨S2, b1, b2, a3.trans b3⟩
      · rw [if_neg q, if_neg q]
        obtain ⟨S2, b1, b2, b3⟩ := ih (g + 1) f _ _ S1 (by omega) (by omega) a2
        exact ⟨S2, b1, b2, a3.trans b3⟩
theorem up_up {f g : Nat} {v : Int32} : it_up (it_up A f g v) f g (A f g) = A := by
  funext a b
  simp only [it_up, upd]
  by_cases ha : a = f
  · subst ha
    by_cases hb : b = g
    · subst hb
      simp [upd]
    · simp [hb, upd]
  · simp [ha]
theorem QM.up49 {g k : Nat} {v : Int32} (hk : k < 3) (q : QM tb T S0 S A G) : QM tb T S0 (it_up S 49 (3 * g + k) v) (it_up A (6 + k) g v) G := ⟨q.1.up49 hk, q.2.1.fk (fK.up (by omega)), q.2.2.trans (fK.up (by omega))⟩
theorem e_againM_loop {m : Nat} {x x3 : Int32} {kont : Int32 → Int32 → it_SS → Option (Int32 × it_SS)} (hm : m < 1000) (ht : sp_tb tb T) (hr : hR A G T) (hx : 0 ≤ x.toInt ∧ x.toInt ≤ 99) : ∀ (k g f : Nat) (mo be : Int32) (S : it_SS), g + k = 10 → k < f → QM tb T S0 S A G → ∃ S', lp_X6_again_46 κ x (nI m) x3 kont f be mo (nI g) S = kont (sp_best (fun g => sp_mi tb G m (sp_iced A (2 ^ g) x 10)) A k g mo be).2 (sp_best (fun g => sp_mi tb G m (sp_iced A (2 ^ g) x 10)) A k g mo be).1 S' ∧ QM tb T S0 S' A G := by
  intro k
  induction k with
  | zero =>
    intro g f mo be S hg hf h
    obtain ⟨f, rfl⟩ : ∃ q, f = q + 1 := ⟨f - 1, by omega⟩
    obtain rfl : g = 10 := by omega
    exact ⟨S, by rw [lp_X6_again_46, if_pos (show (10 : Int32) ≤ nI 10 by decide)]; rfl, h⟩
  | succ k ih =>
    intro g f mo be S hg hf h
    obtain ⟨f, rfl⟩ : ∃ q, f = q + 1 := ⟨f - 1, by omega⟩
    rw [lp_X6_again_46, if_neg (show ¬ 10 ≤ nI g from nI_ge (b := 10) (by omega) (by decide)), e_isThere h.1, it_bi_some, th_nI (by omega), nI_1, sp_best]
    by_cases h6 : A 6 g = -1
    · rw [show (if (decide (¬ A 6 g = -1)) = true then (1 : Int32) else 0) = 0 by simp [h6], if_pos rfl, if_pos h6]
      exact ih (g + 1) f mo be S (by omega) (by omega) h
    · have hr1 := hr.iced (w := 2 ^ g) (k := 10) hx
      have hc := cap_R (x := x) hr (show g < 10 by omega) hx
      have q1 := h.up49 (g := g) (k := 2) (v := sp_cap (A 8 g + x)) (by decide)
      rw [show (6 + 2 : Nat) = 8 from rfl, ← iced_1 (show g < 10 by omega)] at q1
      obtain ⟨S1, a1, a2⟩ := q1.moodBehind (κ := κ) hm ht hr1
      have q2 := a2.up49 (g := g) (k := 2) (v := A 8 g) (by decide)
      rw [show (6 + 2 : Nat) = 8 from rfl, iced_1 (show g < 10 by omega), up_up] at q2
      rw [show (if (decide (¬ A 6 g = -1)) = true then (1 : Int32) else 0) = 1 by simp [h6], if_neg (by decide), if_neg h6, nI_3, nI_p2, if_pos (bd_nI (show 3 * g + 2 < 30 by omega) (by decide)), nI_clamp (by omega), (h.1.2.2.1 g (by omega)).2.2, e_within, it_bi_some, hc.1, a1, it_bi_some]
      by_cases q : sp_mi tb G m (sp_iced A (2 ^ g) x 10) ≤ mo
      · rw [if_pos (show sp_md G (sp_days tb G m (sp_iced A (2 ^ g) x 10)) ≤ mo from q), if_pos (show sp_md G (sp_days tb G m (sp_iced A (2 ^ g) x 10)) ≤ mo from q), if_pos q]
        exact ih (g + 1) f mo be _ (by omega) (by omega) q2
      · rw [if_neg (show ¬ sp_md G (sp_days tb G m (sp_iced A (2 ^ g) x 10)) ≤ mo from q), if_neg (show ¬ sp_md G (sp_days tb G m (sp_iced A (2 ^ g) x 10)) ≤ mo from q), if_neg q]
        exact ih (g + 1) f _ _ _ (by omega) (by omega) q2
theorem q_again (x y z : Int32) : Eqv κ (f_X5_again κ x y z) (f_X6_again κ x y z) := Eqv.ask fun A G tb T n by' ik AK GK so sz ce hr => by
  cases hx : sp_in x 1 99 with
  | false =>
    refine ⟨-1000, fun S h => ⟨S, ?_, h, gM.refl S⟩, fun S h => ⟨S, ?_, h, gX.refl S⟩⟩
    · simp only [f_X5_again, e_isOutside, hx, bi_s, Bool.false_eq_true, ↓reduceIte, i10]
    · simp only [f_X6_again, e_in, hx, bi_s, Bool.false_eq_true, ↓reduceIte, i10]
  | true =>
  cases hy : sp_in y 1 20 with
  | false =>
    refine ⟨-1000, fun S h => ⟨S, ?_, h, gM.refl S⟩, fun S h => ⟨S, ?_, h, gX.refl S⟩⟩
    · simp only [f_X5_again, e_isOutside, hx, hy, bi_s, Bool.false_eq_true, ↓reduceIte, i10]
    · simp only [f_X6_again, e_in, hx, hy, bi_s, Bool.false_eq_true, ↓reduceIte, i10]
  | true =>
  cases hz : sp_in z 0 1 with
  | false =>
    refine ⟨-1000, fun S h => ⟨S, ?_, h, gM.refl S⟩, fun S h => ⟨S, ?_, h, gX.refl S⟩⟩
    · simp only [f_X5_again, e_isOutside, hx, hy, hz, bi_s, Bool.false_eq_true, ↓reduceIte, i10]
    · simp only [f_X6_again, e_in, hx, hy, hz, bi_s, Bool.false_eq_true, ↓reduceIte, i10]
  | true =>
  obtain ⟨m, hm1, hm, rfl⟩ := in_1 (m := 20) (by decide) hy
  have hxr := in_rng hx
  rw [show (1 : Int32).toInt = 1 by decide, i_99] at hxr
  have hx0 : 0 ≤ x.toInt ∧ x.toInt ≤ 99 := ⟨by omega, hxr.2⟩
  obtain ⟨R, hR'⟩ : ∃ R, R = sp_best (fun g => sp_mi tb G m (sp_iced A (2 ^ g) x 10)) A 10 0 (sp_mi tb G m A) (-1) := ⟨_, rfl⟩
  refine ⟨if z = 0 then R.2 else R.1, fun S h => ?_, fun S h => ?_⟩
  · obtain ⟨S1, a1, a2, a3⟩ := e_moodIfIced (κ := κ) (w := 0) (m := m) (x := x) (by decide) (by omega) h hr hx0
    rw [iced_z] at a1
    obtain ⟨S2, b1, b2, b3⟩ := e_again_loop (κ := κ) (m := m) (x := x) (x3 := z) (kont := fun v20 v21 S22 => if z = 0 then some (v21, S22) else some (v20, S22)) (by omega) hr hx0 10 0 it_FU (sp_mi tb G m A) (-1) S1 rfl (by decide) a2
    rw [← hR'] at b1
    refine ⟨S2, ?_, b2, a3.trans b3⟩
    simp only [f_X5_again, e_isOutside, hx, hy, hz, bi_s, Bool.false_eq_true, ↓reduceIte, i10]
    rw [show f_X5_moodIfIced κ 0 x (nI m) S = _ from a1, bi_s]
    rw [show lp_X5_again_48 κ x (nI m) z _ it_FU _ (-1) 0 S1 = _ from b1]
    split <;> rfl
  · obtain ⟨S1, a1, a2⟩ := (QM.start h).moodBehind (κ := κ) (m := m) (by omega) hr.2.2.1 hr.1
    obtain ⟨S2, b1, b2⟩ := e_againM_loop (κ := κ) (m := m) (x := x) (x3 := z) (kont := fun v24 v25 S26 => if z = 0 then some (v24, S26) else some (v25, S26)) (by omega) hr.2.2.1 hr.1 hx0 10 0 it_FU (sp_mi tb G m A) (-1) S1 rfl (by decide) a2
    rw [← hR'] at b1
    refine ⟨S2, ?_, b2.fin h, b2.gX⟩
    simp only [f_X6_again, e_in, hx, hy, hz, bi_s, Bool.false_eq_true, ↓reduceIte, i10, show f_X6_moodBehind κ (nI m) S = some (sp_mi tb G m A, S1) from a1]
    rw [show lp_X6_again_46 κ x (nI m) z _ it_FU (-1) _ 0 S1 = _ from b1]
    split <;> rfl
/-! a glass spilt -/
theorem e_moodIfSpilt {g m : Nat} (hg : g < 10) (h6 : ¬ A 6 g = -1) (hm : m < 1000) (h : IX κ S A tb T n by' ik AK so sz ce) (hr : IR A G tb T n by' ik AK GK so sz) : ∃ S', f_X5_moodIfSpilt κ (nI g) (nI m) S = some (sp_mi tb G m (it_up A 6 g (-1)), S') ∧ IX κ S' A tb T n by' ik AK so sz ce ∧ gM S S' := by
  obtain ⟨S1, a1, a2⟩ := PX.start h
  have hr1 := hr.1.up6 (g := g) (v := -1) (Or.inl rfl)
  have p1 := a2.up (k := 5) (j := g) (v := -1) (by decide) (by decide)
  obtain ⟨S3, c1, c2⟩ := p1.pass (κ := κ) hm hr.2.2.1 hr1
  have hr2 := hR.days (tb := tb) m _ hr1
  refine ⟨S3, ?_, c2.fin h, c2.gM⟩
  rw [f_X5_moodIfSpilt, a1, it_bi_some, e_hasGlass a2.1 hr.1, it_bi_some, th_nI hg, show (if (decide (¬ A 6 g = -1)) = true then (1 : Int32) else 0) = 1 by simp [h6], if_neg (by decide), f_X0_take, if_pos (bd_nI hg (by decide)), it_bi_some, nI_clamp (by omega), spilt_f, c1, it_bi_some, e_moodOfAll c2.1 hr2.1 hr2.2.1, it_bi_some]
  rfl
theorem e_moodIfNone {m : Nat} (hm : m < 1000) (h : IX κ S A tb T n by' ik AK so sz ce) (hr : IR A G tb T n by' ik AK GK so sz) : ∃ S', f_X5_moodIfSpilt κ (-1) (nI m) S = some (sp_mi tb G m A, S') ∧ IX κ S' A tb T n by' ik AK so sz ce ∧ gM S S' := by
  obtain ⟨S1, a1, a2⟩ := PX.start h
  obtain ⟨S3, c1, c2⟩ := a2.pass (κ := κ) hm hr.2.2.1 hr.1
  have hr2 := hR.days (tb := tb) m _ hr.1
  refine ⟨S3, ?_, c2.fin h, c2.gM⟩
  have hth : sp_th A (-1) = false := by
    rw [sp_th, bd_f (by decide) (by rw [show (-1 : Int32).toInt = -1 by decide]; omega)]
    rfl
  rw [f_X5_moodIfSpilt, a1, it_bi_some, e_hasGlass a2.1 hr.1, it_bi_some, hth, if_pos (show (if false = true then (1 : Int32) else 0) = 0 from rfl), spilt_f, c1, it_bi_some, e_moodOfAll c2.1 hr2.1 hr2.2.1, it_bi_some]
  rfl
theorem e_spilt_loop {m : Nat} {x3 : Int32} {kont : Int32 → Int32 → it_SS → Option (Int32 × it_SS)} (hm : m < 1000) (hr : IR A G tb T n by' ik AK GK so sz) : ∀ (k g f : Nat) (mo be : Int32) (S : it_SS), g + k = 10 → k < f → IX κ S A tb T n by' ik AK so sz ce → ∃ S', lp_X5_spilt_36 κ (nI m) x3 kont f mo be (nI g) S = kont (sp_best (fun g => sp_mi tb G m (it_up A 6 g (-1))) A k g mo be).1 (sp_best (fun g => sp_mi tb G m (it_up A 6 g (-1))) A k g mo be).2 S' ∧ IX κ S' A tb T n by' ik AK so sz ce ∧ gM S S' := by
  intro k
  induction k with
  | zero =>
    intro g f mo be S hg hf h
    obtain ⟨f, rfl⟩ : ∃ q, f = q + 1 := ⟨f - 1, by omega⟩
    obtain rfl : g = 10 := by omega
    exact ⟨S, by rw [lp_X5_spilt_36, if_pos (show (10 : Int32) ≤ nI 10 by decide)]; rfl, h, gM.refl S⟩
  | succ k ih =>
    intro g f mo be S hg hf h
    obtain ⟨f, rfl⟩ : ∃ q, f = q + 1 := ⟨f - 1, by omega⟩
    rw [lp_X5_spilt_36, if_neg (show ¬ 10 ≤ nI g from nI_ge (b := 10) (by omega) (by decide)), e_hasGlass h.1 hr.1, it_bi_some, th_nI (by omega), nI_1, sp_best]
    by_cases h6 : A 6 g = -1
    · rw [show (if (decide (¬ A 6 g = -1)) = true then (1 : Int32) else 0) = 0 by simp [h6], if_pos rfl, if_pos (Int32.le_refl _), if_pos h6]
      exact ih (g + 1) f mo be S (by omega) (by omega) h
    · obtain ⟨S1, a1, a2, a3⟩ := e_moodIfSpilt (κ := κ) (g := g) (by omega) h6 hm h hr
      rw [show (if (decide (¬ A 6 g = -1)) = true then (1 : Int32) else 0) = 1 by simp [h6], if_neg (by decide), if_neg h6, a1, it_bi_some]
      by_cases q : sp_mi tb G m (it_up A 6 g (-1)) ≤ mo
      · rw [if_pos q, if_pos q]
        obtain ⟨S2, b1, b2, b3⟩ := ih (g + 1) f mo be S1 (by omega) (by omega) a2
        exact ⟨S2, b1, b2, a3.trans b3⟩
      · rw [if_neg q, if_neg q]
        obtain ⟨S2, b1, b2, b3⟩ := ih (g + 1) f _ _ S1 (by omega) (by omega) a2
        exact ⟨S2, b1, b2, a3.trans b3⟩
theorem e_spiltM_loop {m : Nat} {x3 : Int32} {kont : Int32 → Int32 → it_SS → Option (Int32 × it_SS)} (hm : m < 1000) (ht : sp_tb tb T) (hr : hR A G T) : ∀ (k g f : Nat) (mo be : Int32) (S : it_SS), g + k = 10 → k < f → QM tb T S0 S A G → ∃ S', lp_X6_spilt_35 κ (nI m) x3 kont f be mo (nI g) S = kont (sp_best (fun g => sp_mi tb G m (it_up A 6 g (-1))) A k g mo be).2 (sp_best (fun g => sp_mi tb G m (it_up A 6 g (-1))) A k g mo be).1 S' ∧ QM tb T S0 S' A G := by
  intro k
  induction k with
  | zero =>
    intro g f mo be S hg hf h
    obtain ⟨f, rfl⟩ : ∃ q, f = q + 1 := ⟨f - 1, by omega⟩
    obtain rfl : g = 10 := by omega
    exact ⟨S, by rw [lp_X6_spilt_35, if_pos (show (10 : Int32) ≤ nI 10 by decide)]; rfl, h⟩
  | succ k ih =>
    intro g f mo be S hg hf h
    obtain ⟨f, rfl⟩ : ∃ q, f = q + 1 := ⟨f - 1, by omega⟩
    rw [lp_X6_spilt_35, if_neg (show ¬ 10 ≤ nI g from nI_ge (b := 10) (by omega) (by decide)), e_isThere h.1, it_bi_some, th_nI (by omega), nI_1, sp_best]
    by_cases h6 : A 6 g = -1
    · rw [show (if (decide (¬ A 6 g = -1)) = true then (1 : Int32) else 0) = 0 by simp [h6], if_pos rfl, if_pos h6]
      exact ih (g + 1) f mo be S (by omega) (by omega) h
    · have hr1 := hr.up6 (g := g) (v := -1) (Or.inl rfl)
      have q1 : QM tb T S0 (it_up S 49 (3 * g) (-1)) (it_up A 6 g (-1)) G := h.up49 (g := g) (k := 0) (v := -1) (by decide)
      obtain ⟨S1, a1, a2⟩ := q1.moodBehind (κ := κ) hm ht hr1
      have q2 : QM tb T S0 (it_up S1 49 (3 * g) (A 6 g)) (it_up (it_up A 6 g (-1)) 6 g (A 6 g)) G := a2.up49 (g := g) (k := 0) (v := A 6 g) (by decide)
      rw [up_up] at q2
      rw [show (if (decide (¬ A 6 g = -1)) = true then (1 : Int32) else 0) = 1 by simp [h6], if_neg (by decide), if_neg h6, nI_3, if_pos (bd_nI (show 3 * g < 30 by omega) (by decide)), nI_clamp (by omega), (h.1.2.2.1 g (by omega)).1, a1, it_bi_some]
      by_cases q : sp_mi tb G m (it_up A 6 g (-1)) ≤ mo
      · rw [if_pos (show sp_md G (sp_days tb G m (it_up A 6 g (-1))) ≤ mo from q), if_pos (show sp_md G (sp_days tb G m (it_up A 6 g (-1))) ≤ mo from q), if_pos q]
        exact ih (g + 1) f mo be _ (by omega) (by omega) q2
      · rw [if_neg (show ¬ sp_md G (sp_days tb G m (it_up A 6 g (-1))) ≤ mo from q), if_neg (show ¬ sp_md G (sp_days tb G m (it_up A 6 g (-1))) ≤ mo from q), if_neg q]
        exact ih (g + 1) f _ _ _ (by omega) (by omega) q2
theorem q_spilt (y z : Int32) : Eqv κ (f_X5_spilt κ y z) (f_X6_spilt κ y z) := Eqv.ask fun A G tb T n by' ik AK GK so sz ce hr => by
  cases hy : sp_in y 1 20 with
  | false =>
    refine ⟨-1000, fun S h => ⟨S, ?_, h, gM.refl S⟩, fun S h => ⟨S, ?_, h, gX.refl S⟩⟩
    · simp only [f_X5_spilt, e_isOutside, hy, bi_s, Bool.false_eq_true, ↓reduceIte, i10]
    · simp only [f_X6_spilt, e_in, hy, bi_s, Bool.false_eq_true, ↓reduceIte, i10]
  | true =>
  cases hz : sp_in z 0 1 with
  | false =>
    refine ⟨-1000, fun S h => ⟨S, ?_, h, gM.refl S⟩, fun S h => ⟨S, ?_, h, gX.refl S⟩⟩
    · simp only [f_X5_spilt, e_isOutside, hy, hz, bi_s, Bool.false_eq_true, ↓reduceIte, i10]
    · simp only [f_X6_spilt, e_in, hy, hz, bi_s, Bool.false_eq_true, ↓reduceIte, i10]
  | true =>
  obtain ⟨m, hm1, hm, rfl⟩ := in_1 (m := 20) (by decide) hy
  obtain ⟨R, hR'⟩ : ∃ R, R = sp_best (fun g => sp_mi tb G m (it_up A 6 g (-1))) A 10 0 (sp_mi tb G m A) (-1) := ⟨_, rfl⟩
  refine ⟨if z = 0 then R.2 else R.1, fun S h => ?_, fun S h => ?_⟩
  · obtain ⟨S1, a1, a2, a3⟩ := e_moodIfNone (κ := κ) (m := m) (by omega) h hr
    obtain ⟨S2, b1, b2, b3⟩ := e_spilt_loop (κ := κ) (m := m) (x3 := z) (kont := fun v20 v21 S22 => if z = 0 then some (v21, S22) else some (v20, S22)) (by omega) hr 10 0 it_FU (sp_mi tb G m A) (-1) S1 rfl (by decide) a2
    rw [← hR'] at b1
    refine ⟨S2, ?_, b2, a3.trans b3⟩
    simp only [f_X5_spilt, e_isOutside, hy, hz, bi_s, Bool.false_eq_true, ↓reduceIte, i10, a1]
    rw [show lp_X5_spilt_36 κ (nI m) z _ it_FU _ (-1) 0 S1 = _ from b1]
    split <;> rfl
  · obtain ⟨S1, a1, a2⟩ := (QM.start h).moodBehind (κ := κ) (m := m) (by omega) hr.2.2.1 hr.1
    obtain ⟨S2, b1, b2⟩ := e_spiltM_loop (κ := κ) (m := m) (x3 := z) (kont := fun v24 v25 S26 => if z = 0 then some (v24, S26) else some (v25, S26)) (by omega) hr.2.2.1 hr.1 10 0 it_FU (sp_mi tb G m A) (-1) S1 rfl (by decide) a2
    rw [← hR'] at b1
    refine ⟨S2, ?_, b2.fin h, b2.gX⟩
    simp only [f_X6_spilt, e_in, hy, hz, bi_s, Bool.false_eq_true, ↓reduceIte, i10, show f_X6_moodBehind κ (nI m) S = some (sp_mi tb G m A, S1) from a1]
    rw [show lp_X6_spilt_35 κ (nI m) z _ it_FU (-1) _ 0 S1 = _ from b1]
    split <;> rfl
end OPS6
