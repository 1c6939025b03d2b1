/-! a house: A 1 0 guests, A 2 kinds, A 3 more, A 4 moods, A 5 cold, A 6 whose, A 7 weight, A 8 ice, A 9 0 day, A 10 0 law -/
def hX (S : it_SS) (u : Nat) (A : it_SS) : Prop := (∀ p, p < 6 → S (u + 1) p = A 2 p ∧ S (u + 2) p = A 3 p ∧ S (u + 3) p = A 4 p ∧ S (u + 4) p = A 5 p) ∧ (∀ j, j < 10 → S (u + 5) j = A 6 j ∧ S (u + 6) j = A 7 j ∧ S (u + 7) j = A 8 j) ∧ S u 1 = A 1 0 ∧ S u 9 = A 9 0 ∧ S u 10 = A 10 0
def hM (S : it_SS) (A : it_SS) (G : Nat) : Prop := (∀ p, p < G → S 46 p = A 2 p ∧ S 47 p = A 3 p) ∧ (∀ p, p < 6 → S 48 (2 * p) = A 4 p ∧ S 48 (2 * p + 1) = A 5 p) ∧ (∀ j, j < 10 → S 49 (3 * j) = A 6 j ∧ S 49 (3 * j + 1) = A 7 j ∧ S 49 (3 * j + 2) = A 8 j) ∧ S 45 0 = A 1 0 ∧ S 45 5 = A 9 0 ∧ S 45 11 = A 10 0
/-- what always holds of a house -/
def hR (A : it_SS) (G T : Nat) : Prop := A 1 0 = nI G ∧ G ≤ 6 ∧ (∀ j, j < 10 → A 6 j = -1 ∨ ∃ p, p < G ∧ A 6 j = nI p) ∧ (∃ t, t < T ∧ A 10 0 = nI t) ∧ (∀ p, p < G → 0 ≤ (A 3 p).toInt ∧ (A 3 p).toInt ≤ 9) ∧ (∀ p, p < 6 → -99 ≤ (A 4 p).toInt ∧ (A 4 p).toInt ≤ 99 ∧ 0 ≤ (A 5 p).toInt ∧ (A 5 p).toInt ≤ 99) ∧ (∀ j, j < 10 → -99 ≤ (A 7 j).toInt ∧ (A 7 j).toInt ≤ 99 ∧ 0 ≤ (A 8 j).toInt ∧ (A 8 j).toInt ≤ 99)
def it_u (u : Nat) : Prop := 9 ≤ u ∧ u ≤ 25
def fX (S S' : it_SS) : Prop := ∀ b, b ≠ 3 → b ≠ 4 → S' b = S b
def fM (S S' : it_SS) : Prop := ∀ b, b ≠ 61 → b ≠ 62 → S' b = S b
theorem fX.trans {S S1 S2 : it_SS} (h : fX S S1) (h1 : fX S1 S2) : fX S S2 := fun b a c => (h1 b a c).trans (h b a c)
theorem fM.trans {S S1 S2 : it_SS} (h : fM S S1) (h1 : fM S1 S2) : fM S S2 := fun b a c => (h1 b a c).trans (h b a c)
theorem hX.fr {S S' A : it_SS} {u : Nat} (hu : it_u u) (h : hX S u A) (hf : fX S S') : hX S' u A := by
  obtain ⟨h1, h2, h3⟩ := h
  have hu1 := hu.1
  have e : ∀ k, S' (u + k) = S (u + k) := fun k => hf _ (by omega) (by omega)
  have e0 : S' u = S u := e 0
  exact ⟨fun p hp => by rw [e, e, e, e]; exact h1 p hp, fun j hj => by rw [e, e, e]; exact h2 j hj, by rw [e0]; exact h3⟩
theorem hM.fr {S S' A : it_SS} {G : Nat} (h : hM S A G) (hf : fM S S') : hM S' A G := by
  obtain ⟨h1, h2, h3, h4⟩ := h
  refine ⟨fun p hp => ?_, fun p hp => ?_, fun p hp => ?_, ?_⟩
  · rw [hf 46 (by decide) (by decide), hf 47 (by decide) (by decide)]; exact h1 p hp
  · rw [hf 48 (by decide) (by decide)]; exact h2 p hp
  · rw [hf 49 (by decide) (by decide)]; exact h3 p hp
  · rw [hf 45 (by decide) (by decide)]; exact h4
theorem tX.fr {κ : it_KK} {S S' : it_SS} {tb : Nat → Nat → List Nat} {T : Nat} (h : tX κ S tb T) (hf : ∀ b, b = 1 ∨ 42 < b → S' b = S b) : tX κ S' tb T := by
  obtain ⟨h1, h2⟩ := h
  refine ⟨by rw [hf 1 (Or.inl rfl)]; exact h1, fun t ht => ?_⟩
  obtain ⟨q1, q2, q3, q4⟩ := h2 t ht
  have := it_el1_ge t
  refine ⟨q1, q2, fun j hj => ?_, fun p hp => ?_⟩
  · rw [hf _ (Or.inr (by omega))]; exact q3 j hj
  · rw [hf _ (Or.inr (by omega))]; exact q4 p hp
theorem tM.fr {S S' : it_SS} {tb : Nat → Nat → List Nat} {T : Nat} (h : tM S tb T) (h10 : S' 45 10 = S 45 10) (h51 : S' 51 = S 51) (h52 : S' 52 = S 52) : tM S' tb T := by
  obtain ⟨h1, h2⟩ := h
  exact ⟨by rw [h10]; exact h1, fun t ht => by rw [h51, h52]; exact h2 t ht⟩
def sp_p (A : it_SS) (g : Nat) : Nat := (A 6 g).toNatClampNeg
def sp_nm (A : it_SS) (g : Nat) : Nat → Int32 := fun k => if k = 0 then A 7 g else if k = 1 then A 8 g else if k = 2 then A 5 (sp_p A g) else if k = 3 then A 4 (sp_p A g) else if k = 4 then A 9 0 else A 3 (sp_p A g)
def sp_say (tb : Nat → Nat → List Nat) (A : it_SS) (q g : Nat) : Int32 := sp_cl (sp_ev (sp_nm A g) (tb (A 10 0).toNatClampNeg q)) (if q = 1 then -99 else 0) 99
def sp_melt (tb : Nat → Nat → List Nat) (A : it_SS) (g : Nat) : Int32 :=
  if A 2 (sp_p A g) = 2 then sp_say tb A 0 g + A 3 (sp_p A g)
  else if A 2 (sp_p A g) = 3 then (if A 9 0 - A 9 0 / 7 * 7 = A 3 (sp_p A g) then 99 else sp_say tb A 0 g)
  else if A 2 (sp_p A g) = 4 then (if A 5 (sp_p A g) ≤ 20 then sp_say tb A 0 g + A 3 (sp_p A g) else (sp_say tb A 0 g + A 3 (sp_p A g)) / 3)
  else if A 2 (sp_p A g) = 5 then A 3 (sp_p A g) else sp_say tb A 0 g
def sp_father (tb : Nat → Nat → List Nat) (A : it_SS) (g : Nat) : Int32 := if sp_say tb A 1 g ≤ 0 then sp_say tb A 1 g else sp_say tb A 1 g + A 3 (sp_p A g)
def sp_feel (tb : Nat → Nat → List Nat) (A : it_SS) (g : Nat) : Int32 :=
  if A 2 (sp_p A g) = 1 then sp_father tb A g
  else if A 2 (sp_p A g) = 2 then (if A 5 (sp_p A g) ≤ 50 then sp_say tb A 1 g / 2 else 0)
  else if A 2 (sp_p A g) = 3 then 2 * sp_father tb A g
  else if A 2 (sp_p A g) = 4 then (if A 5 (sp_p A g) ≤ 50 then sp_say tb A 1 g / 2 else 0)
  else if A 2 (sp_p A g) = 5 then -(sp_say tb A 1 g) else sp_say tb A 1 g
def sp_chill (tb : Nat → Nat → List Nat) (A : it_SS) (g : Nat) : Int32 :=
  if A 2 (sp_p A g) = 1 then sp_say tb A 2 g / 2
  else if A 2 (sp_p A g) = 3 then sp_say tb A 2 g / 2
  else if A 2 (sp_p A g) = 4 then sp_say tb A 2 g + A 3 (sp_p A g) else sp_say tb A 2 g
/-- what a law needs of the texts -/
def sp_lw (tb : Nat → Nat → List Nat) (T : Nat) (A : it_SS) : Prop := sp_tb tb T ∧ ∃ t, t < T ∧ A 10 0 = nI t
section HX
variable {κ : it_KK} {S A : it_SS} {u T g p : Nat} {tb : Nat → Nat → List Nat}
theorem e_saying {q : Nat} (hu : it_u u) (hx : hX S u A) (ht : tX κ S tb T) (hl : sp_lw tb T A) (hg : g < 10) (hp : p < 6) (hw : A 6 g = nI p) (hq : q < 3) : ∃ S', f_X0_saying κ u (nI q) (nI g) S = some (sp_say tb A q g, S') ∧ fX S S' := by
  obtain ⟨hg0, t, htT, hl⟩ := hl
  obtain ⟨h1, h2, h3, h4, h5⟩ := hx
  have hT6 := hg0.1
  have hu1 := hu.1
  have hgc : (nI g).toNatClampNeg = g := nI_clamp (by omega)
  have hpc : (nI p).toNatClampNeg = p := nI_clamp (by omega)
  have hp0 : sp_p A g = p := by rw [sp_p, hw, hpc]
  have hw5 : S (u + 5) g = nI p := (h2 g hg).1.trans hw
  rw [f_X0_saying, hgc, if_pos (bd_nI hg (by decide)), hw5, if_pos (bd_nI hp (by decide)), hpc, f_X1_name, it_bi_some, ix_0, ix_1, ix_2, ix_3, ix_4, ix_5]
  have hfn : ∀ v0 v1 v2 v3 v4 v5 : Int32, ∀ b, b ≠ 3 → (it_up (it_up (it_up (it_up (it_up (it_up S 3 0 v0) 3 1 v1) 3 2 v2) 3 3 v3) 3 4 v4) 3 5 v5) b = S b := fun v0 v1 v2 v3 v4 v5 b hb => by
    rw [it_up_ne hb, it_up_ne hb, it_up_ne hb, it_up_ne hb, it_up_ne hb, it_up_ne hb]
  rw [hfn _ _ _ _ _ _ u (by omega), h5, hl]
  obtain ⟨S', e1, e2⟩ := e_reckon (p := q) (nm := sp_nm A g) (ht.fr (S' := it_up (it_up (it_up (it_up (it_up (it_up S 3 0 (S (u + 6) g)) 3 1 (S (u + 7) g)) 3 2 (S (u + 4) p)) 3 3 (S (u + 3) p)) 3 4 (S u 9)) 3 5 (S (u + 2) p)) (fun b hb => hfn _ _ _ _ _ _ b (by omega))) hg0 htT hq (fun k hk => by
    simp only [it_up_eq, upd, sp_nm, hp0]
    rcases (show k = 0 ∨ k = 1 ∨ k = 2 ∨ k = 3 ∨ k = 4 ∨ k = 5 by omega) with rfl | rfl | rfl | rfl | rfl | rfl
    · simpa using (h2 g hg).2.1
    · simpa using (h2 g hg).2.2
    · simpa using (h1 p hp).2.2.2
    · simpa using (h1 p hp).2.2.1
    · simpa using h4
    · simpa using (h1 p hp).2.1)
  have hsay : ∀ lo : Int32, lo = (if q = 1 then -99 else 0) → sp_cl (sp_ev (sp_nm A g) (tb t q)) lo 99 = sp_say tb A q g := fun lo h => by
    rw [sp_say, hl, nI_clamp (show t < 2 ^ 31 by omega), h]
  refine ⟨S', ?_, fun b b3 b4 => (e2 b b4).trans (hfn _ _ _ _ _ _ b b3)⟩
  rw [e1, it_bi_some]
  by_cases hq1 : q = 1
  · rw [if_pos (show nI q = 1 by rw [hq1]; rfl), e_bounded κ _ _ _ (by decide), it_bi_some, hsay _ (by rw [if_pos hq1])]
  · rw [if_neg (show ¬ nI q = 1 from fun h => hq1 ((nI_eq (by omega) (by decide)).mp (show nI q = nI 1 from h))), e_bounded κ _ _ _ (by decide), it_bi_some, hsay _ (by rw [if_neg hq1])]
theorem e_melting (hu : it_u u) (hx : hX S u A) (ht : tX κ S tb T) (hl : sp_lw tb T A) (hg : g < 10) (hp : p < 6) (hw : A 6 g = nI p) : ∃ S', f_X0_melting κ u (nI g) S = some (sp_melt tb A g, S') ∧ fX S S' := by
  obtain ⟨S', e1, e2⟩ := e_saying (q := 0) hu hx ht hl hg hp hw (by decide)
  have hx' := hx.fr hu e2
  refine ⟨S', ?_, e2⟩
  have hgc : (nI g).toNatClampNeg = g := nI_clamp (by omega)
  have hpc : (nI p).toNatClampNeg = p := nI_clamp (by omega)
  have hp0 : sp_p A g = p := by rw [sp_p, hw, hpc]
  have hw5 : S (u + 5) g = nI p := (hx.2.1 g hg).1.trans hw
  rw [f_X0_melting, if_pos (bd_nI hg (by decide)), show f_X0_saying κ u 0 (nI g) S = _ from e1, it_bi_some, hgc, hw5, if_pos (bd_nI hp (by decide)), hpc, (hx'.1 p hp).1, (hx'.1 p hp).2.1, (hx'.1 p hp).2.2.2, hx'.2.2.2.1, sp_melt, hp0]
  repeat' split
  all_goals first | rfl | contradiction
theorem e_feeling (hu : it_u u) (hx : hX S u A) (ht : tX κ S tb T) (hl : sp_lw tb T A) (hg : g < 10) (hp : p < 6) (hw : A 6 g = nI p) : ∃ S', f_X0_feeling κ u (nI g) S = some (sp_feel tb A g, S') ∧ fX S S' := by
  obtain ⟨S', e1, e2⟩ := e_saying (q := 1) hu hx ht hl hg hp hw (by decide)
  have hx' := hx.fr hu e2
  refine ⟨S', ?_, e2⟩
  have hgc : (nI g).toNatClampNeg = g := nI_clamp (by omega)
  have hpc : (nI p).toNatClampNeg = p := nI_clamp (by omega)
  have hp0 : sp_p A g = p := by rw [sp_p, hw, hpc]
  have hw5 : S (u + 5) g = nI p := (hx.2.1 g hg).1.trans hw
  rw [f_X0_feeling, if_pos (bd_nI hg (by decide)), show f_X0_saying κ u 1 (nI g) S = _ from e1, it_bi_some, hgc, hw5, if_pos (bd_nI hp (by decide)), if_pos (bd_nI hp (by decide)), hpc, (hx'.1 p hp).1, (hx'.1 p hp).2.1, (hx'.1 p hp).2.2.2, sp_feel, sp_father, hp0]
  by_cases h0 : sp_say tb A 1 g ≤ 0
  · simp only [if_pos h0]
    repeat' split
    all_goals first | rfl | contradiction
  · simp only [if_neg h0]
    repeat' split
    all_goals first | rfl | contradiction
theorem e_chilling (hu : it_u u) (hx : hX S u A) (ht : tX κ S tb T) (hl : sp_lw tb T A) (hg : g < 10) (hp : p < 6) (hw : A 6 g = nI p) : ∃ S', f_X0_chilling κ u (nI g) S = some (sp_chill tb A g, S') ∧ fX S S' := by
  obtain ⟨S', e1, e2⟩ := e_saying (q := 2) hu hx ht hl hg hp hw (by decide)
  have hx' := hx.fr hu e2
  refine ⟨S', ?_, e2⟩
  have hgc : (nI g).toNatClampNeg = g := nI_clamp (by omega)
  have hpc : (nI p).toNatClampNeg = p := nI_clamp (by omega)
  have hp0 : sp_p A g = p := by rw [sp_p, hw, hpc]
  have hw5 : S (u + 5) g = nI p := (hx.2.1 g hg).1.trans hw
  rw [f_X0_chilling, if_pos (bd_nI hg (by decide)), show f_X0_saying κ u 2 (nI g) S = _ from e1, it_bi_some, hgc, hw5, if_pos (bd_nI hp (by decide)), hpc, (hx'.1 p hp).1, (hx'.1 p hp).2.1, sp_chill, hp0]
  by_cases h2 : A 2 p = 2
  · simp [h2]
  · simp only [if_neg h2]
    repeat' split
    all_goals first | rfl | contradiction
end HX
section HM
variable {κ : it_KK} {S A : it_SS} {G T g p : Nat} {tb : Nat → Nat → List Nat}
theorem nI_3 (g : Nat) : 3 * nI g = nI (3 * g) := by rw [show (3 : Int32) = nI 3 from rfl, pk_mul]
theorem nI_2 (g : Nat) : 2 * nI g = nI (2 * g) := by rw [show (2 : Int32) = nI 2 from rfl, pk_mul]
theorem nI_p2 (g : Nat) : nI g + 2 = nI (g + 2) := nI_add g 2
theorem cl_p (hp : p < 6) : sp_cl (nI p) 0 5 = nI p := by
  rw [sp_cl, if_neg (show ¬ nI p < 0 from nI_pos (by omega)), if_neg (show ¬ 5 < nI p from nI_nlt (a := 5) (by omega) (by decide))]
theorem e_asksOf {q : Nat} (hx : hM S A G) (ht : tM S tb T) (hl : sp_lw tb T A) (hG : G ≤ 6) (hg : g < 10) (hp : p < G) (hw : A 6 g = nI p) (hq : q < 3) : ∃ S', f_X6_asksOf κ (nI q) (nI g) S = some (sp_say tb A q g, S') ∧ fM S S' := by
  obtain ⟨hg0, t, htT, hl⟩ := hl
  obtain ⟨h1, h2, h3, h4, h5, h6⟩ := hx
  have hT6 := hg0.1
  have hpc : (nI p).toNatClampNeg = p := nI_clamp (by omega)
  have hp0 : sp_p A g = p := by rw [sp_p, hw, hpc]
  have hw5 : S 49 (3 * g) = nI p := (h3 g hg).1.trans hw
  rw [f_X6_asksOf, nI_3, if_pos (bd_nI (show 3 * g < 30 by omega) (by decide)), nI_clamp (show 3 * g < 2 ^ 31 by omega), hw5, e_within, it_bi_some, cl_p (by omega), nI_1, if_pos (bd_nI (show 3 * g + 1 < 30 by omega) (by decide)), nI_p2, if_pos (bd_nI (show 3 * g + 2 < 30 by omega) (by decide)), nI_2, nI_1, if_pos (bd_nI (show 2 * p + 1 < 12 by omega) (by decide)), if_pos (bd_nI (show 2 * p < 12 by omega) (by decide)), if_pos (bd_nI (show p < 6 by omega) (by decide)), nI_clamp (show 3 * g + 1 < 2 ^ 31 by omega), nI_clamp (show 3 * g + 2 < 2 ^ 31 by omega), nI_clamp (show 2 * p + 1 < 2 ^ 31 by omega), nI_clamp (show 2 * p < 2 ^ 31 by omega), hpc, ix_0, ix_1, ix_2, ix_3, ix_4, ix_5]
  simp only [it_up_ne (show (49 : Nat) ≠ 62 by decide), it_up_ne (show (48 : Nat) ≠ 62 by decide), it_up_ne (show (47 : Nat) ≠ 62 by decide), it_up_ne (show (45 : Nat) ≠ 62 by decide)]
  have hfn : ∀ v0 v1 v2 v3 v4 v5 : Int32, ∀ b, b ≠ 62 → (it_up (it_up (it_up (it_up (it_up (it_up S 62 0 v0) 62 1 v1) 62 2 v2) 62 3 v3) 62 4 v4) 62 5 v5) b = S b := fun v0 v1 v2 v3 v4 v5 b hb => by
    rw [it_up_ne hb, it_up_ne hb, it_up_ne hb, it_up_ne hb, it_up_ne hb, it_up_ne hb]
  obtain ⟨S', e1, e2⟩ := e_says (κ := κ) (p := q) (t := t) (nm := sp_nm A g) (S := it_up (it_up (it_up (it_up (it_up (it_up S 62 0 (S 49 (3 * g + 1))) 62 1 (S 49 (3 * g + 2))) 62 2 (S 48 (2 * p + 1))) 62 3 (S 48 (2 * p))) 62 4 (S 45 5)) 62 5 (S 47 p)) (ht.fr (by rw [hfn _ _ _ _ _ _ 45 (by decide)]) (hfn _ _ _ _ _ _ 51 (by decide)) (hfn _ _ _ _ _ _ 52 (by decide))) hg0 htT hq (by rw [hfn _ _ _ _ _ _ 45 (by decide), h6, hl]) (fun k hk => by
    simp only [it_up_eq, upd, sp_nm, hp0]
    rcases (show k = 0 ∨ k = 1 ∨ k = 2 ∨ k = 3 ∨ k = 4 ∨ k = 5 by omega) with rfl | rfl | rfl | rfl | rfl | rfl
    · simpa using (h3 g hg).2.1
    · simpa using (h3 g hg).2.2
    · simpa using (h2 p (by omega)).2
    · simpa using (h2 p (by omega)).1
    · simpa using h5
    · simpa using (h1 p hp).2)
  have hsay : ∀ lo : Int32, lo = (if q = 1 then -99 else 0) → sp_cl (sp_ev (sp_nm A g) (tb t q)) lo 99 = sp_say tb A q g := fun lo h => by
    rw [sp_say, hl, nI_clamp (show t < 2 ^ 31 by omega), h]
  refine ⟨S', ?_, fun b b3 b4 => (e2 b b3).trans (hfn _ _ _ _ _ _ b b4)⟩
  rw [e1, it_bi_some]
  by_cases hq1 : q = 1
  · rw [if_pos (show nI q = 1 by rw [hq1]; rfl), e_within, it_bi_some, hsay _ (by rw [if_pos hq1])]
  · rw [if_neg (show ¬ nI q = 1 from fun h => hq1 ((nI_eq (by omega) (by decide)).mp (show nI q = nI 1 from h))), e_within, it_bi_some, hsay _ (by rw [if_neg hq1])]
theorem e_meltsOf (hx : hM S A G) (ht : tM S tb T) (hl : sp_lw tb T A) (hG : G ≤ 6) (hg : g < 10) (hp : p < G) (hw : A 6 g = nI p) : ∃ S', f_X6_meltsOf κ (nI g) S = some (sp_melt tb A g, S') ∧ fM S S' := by
  obtain ⟨S', e1, e2⟩ := e_asksOf (κ := κ) (q := 0) hx ht hl hG hg hp hw (by decide)
  have hx' := hx.fr e2
  have hpc : (nI p).toNatClampNeg = p := nI_clamp (by omega)
  have hp0 : sp_p A g = p := by rw [sp_p, hw, hpc]
  have hw5 : S 49 (3 * g) = nI p := (hx.2.2.1 g hg).1.trans hw
  rw [f_X6_meltsOf, nI_3, if_pos (bd_nI (show 3 * g < 30 by omega) (by decide)), nI_clamp (show 3 * g < 2 ^ 31 by omega), hw5, e_within, it_bi_some, cl_p (by omega), if_pos (bd_nI (show p < 6 by omega) (by decide)), hpc, (hx.1 p hp).1, (hx.1 p hp).2, nI_2, nI_1, nI_clamp (show 2 * p + 1 < 2 ^ 31 by omega)]
  by_cases h5 : A 2 p = 5
  · refine ⟨S, ?_, fun _ _ _ => rfl⟩
    rw [if_pos h5, sp_melt, hp0, h5]
    simp
  · refine ⟨S', ?_, e2⟩
    rw [if_neg h5, show f_X6_asksOf κ 0 (nI g) S = _ from e1, it_bi_some, if_pos (bd_nI (show 2 * p + 1 < 12 by omega) (by decide)), (hx'.1 p hp).1, (hx'.1 p hp).2, (hx'.2.1 p (by omega)).2, hx'.2.2.2.2.1, sp_melt, hp0, if_neg h5]
    repeat' split
    all_goals first | rfl | contradiction
theorem e_feelsOf (hx : hM S A G) (ht : tM S tb T) (hl : sp_lw tb T A) (hG : G ≤ 6) (hg : g < 10) (hp : p < G) (hw : A 6 g = nI p) : ∃ S', f_X6_feelsOf κ (nI g) S = some (sp_feel tb A g, S') ∧ fM S S' := by
  obtain ⟨S', e1, e2⟩ := e_asksOf (κ := κ) (q := 1) hx ht hl hG hg hp hw (by decide)
  have hx' := hx.fr e2
  have hpc : (nI p).toNatClampNeg = p := nI_clamp (by omega)
  have hp0 : sp_p A g = p := by rw [sp_p, hw, hpc]
  have hw5 : S 49 (3 * g) = nI p := (hx.2.2.1 g hg).1.trans hw
  refine ⟨S', ?_, e2⟩
  rw [f_X6_feelsOf, nI_3, if_pos (bd_nI (show 3 * g < 30 by omega) (by decide)), nI_clamp (show 3 * g < 2 ^ 31 by omega), hw5, e_within, it_bi_some, cl_p (by omega), show f_X6_asksOf κ 1 (nI g) S = _ from e1, it_bi_some, nI_2, nI_1, nI_clamp (show 2 * p + 1 < 2 ^ 31 by omega), hpc, (hx'.1 p hp).1, (hx'.1 p hp).2, (hx'.2.1 p (by omega)).2, sp_feel, sp_father, hp0]
  simp only [if_pos (bd_nI (show p < 6 by omega) (show 6 < 2 ^ 31 by decide)), if_pos (bd_nI (show 2 * p + 1 < 12 by omega) (show 12 < 2 ^ 31 by decide))]
  by_cases h0 : sp_say tb A 1 g ≤ 0
  · simp only [if_pos h0]
    repeat' split
    all_goals first | rfl | contradiction
  · simp only [if_neg h0]
    repeat' split
    all_goals first | rfl | contradiction
theorem e_chillsOf (hx : hM S A G) (ht : tM S tb T) (hl : sp_lw tb T A) (hG : G ≤ 6) (hg : g < 10) (hp : p < G) (hw : A 6 g = nI p) : ∃ S', f_X6_chillsOf κ (nI g) S = some (sp_chill tb A g, S') ∧ fM S S' := by
  obtain ⟨S', e1, e2⟩ := e_asksOf (κ := κ) (q := 2) hx ht hl hG hg hp hw (by decide)
  have hx' := hx.fr e2
  have hpc : (nI p).toNatClampNeg = p := nI_clamp (by omega)
  have hp0 : sp_p A g = p := by rw [sp_p, hw, hpc]
  have hw5 : S 49 (3 * g) = nI p := (hx.2.2.1 g hg).1.trans hw
  refine ⟨S', ?_, e2⟩
  rw [f_X6_chillsOf, nI_3, if_pos (bd_nI (show 3 * g < 30 by omega) (by decide)), nI_clamp (show 3 * g < 2 ^ 31 by omega), hw5, e_within, it_bi_some, cl_p (by omega), show f_X6_asksOf κ 2 (nI g) S = _ from e1, it_bi_some, if_pos (bd_nI (show p < 6 by omega) (by decide)), hpc, (hx'.1 p hp).1, (hx'.1 p hp).2, sp_chill, hp0]
  repeat' split
  all_goals first | rfl | contradiction
end HM
