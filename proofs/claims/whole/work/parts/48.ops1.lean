theorem hX.upd0 {S A : it_SS} {u : Nat} {v : Int32} {f : Nat} (hf : f = 1 ∨ f = 9 ∨ f = 10) (h : hX S u A) : hX (it_up S u f v) u (it_up A f 0 v) := by
  obtain ⟨a1, a2, a3, a4, a5⟩ := h
  have e : ∀ k, 1 ≤ k → it_up S u f v (u + k) = S (u + k) := fun k hk => it_up_ne (by omega)
  have ea : ∀ k, 2 ≤ k → k ≤ 8 → it_up A f 0 v k = A k := fun k h1 h2 => it_up_ne (by omega)
  refine ⟨fun p hp => ?_, fun j hj => ?_, ?_, ?_, ?_⟩
  · rw [e 1 (by decide), e 2 (by decide), e 3 (by decide), e 4 (by decide), ea 2 (by decide) (by decide), ea 3 (by decide) (by decide), ea 4 (by decide) (by decide), ea 5 (by decide) (by decide)]
    exact a1 p hp
  · rw [e 5 (by decide), e 6 (by decide), e 7 (by decide), ea 6 (by decide) (by decide), ea 7 (by decide) (by decide), ea 8 (by decide) (by decide)]
    exact a2 j hj
  · rcases hf with rfl | rfl | rfl <;> simp [it_up, upd, a3]
  · rcases hf with rfl | rfl | rfl <;> simp [it_up, upd, a4]
  · rcases hf with rfl | rfl | rfl <;> simp [it_up, upd, a5]
theorem hM.upd0 {S A : it_SS} {G i : Nat} {v : Int32} {f : Nat} (hf : (f = 1 ∧ i = 0) ∨ (f = 9 ∧ i = 5) ∨ (f = 10 ∧ i = 11)) (h : hM S A G) : hM (it_up S 45 i v) (it_up A f 0 v) G := by
  obtain ⟨a1, a2, a3, a4, a5, a6⟩ := h
  have ea : ∀ k, 2 ≤ k → k ≤ 8 → it_up A f 0 v k = A k := fun k h1 h2 => it_up_ne (by omega)
  refine ⟨fun p hp => ?_, fun p hp => ?_, fun j hj => ?_, ?_, ?_, ?_⟩
  · rw [it_up_ne (show (46 : Nat) ≠ 45 by decide), it_up_ne (show (47 : Nat) ≠ 45 by decide), ea 2 (by decide) (by decide), ea 3 (by decide) (by decide)]
    exact a1 p hp
  · rw [it_up_ne (show (48 : Nat) ≠ 45 by decide), ea 4 (by decide) (by decide), ea 5 (by decide) (by decide)]
    exact a2 p hp
  · rw [it_up_ne (show (49 : Nat) ≠ 45 by decide), ea 6 (by decide) (by decide), ea 7 (by decide) (by decide), ea 8 (by decide) (by decide)]
    exact a3 j hj
  · rcases hf with ⟨rfl, rfl⟩ | ⟨rfl, rfl⟩ | ⟨rfl, rfl⟩ <;> simp [it_up, upd, a4]
  · rcases hf with ⟨rfl, rfl⟩ | ⟨rfl, rfl⟩ | ⟨rfl, rfl⟩ <;> simp [it_up, upd, a5]
  · rcases hf with ⟨rfl, rfl⟩ | ⟨rfl, rfl⟩ | ⟨rfl, rfl⟩ <;> simp [it_up, upd, a6]
/-- how many glasses are there -/
def sp_many : Nat → Nat → it_SS → Int32 → Int32
  | 0, _, _, c => c
  | k + 1, g, A, c => sp_many k (g + 1) A (if A 6 g = -1 then c else c + 1)
theorem e_there_loop {κ : it_KK} {S A : it_SS} {u G T : Nat} {kont : Int32 → it_SS → Option (Int32 × it_SS)} (hx : hX S u A) (hr : hR A G T) : ∀ (k g n : Nat) (c : Int32), g + k = 10 → k < n → lp_X0_glassesThere_4 κ u kont n c (nI g) S = kont (sp_many k g A c) S := by
  intro k
  induction k with
  | zero =>
    intro g n c hg hn
    obtain ⟨n, rfl⟩ : ∃ q, n = q + 1 := ⟨n - 1, by omega⟩
    obtain rfl : g = 10 := by omega
    rw [lp_X0_glassesThere_4, if_pos (show (10 : Int32) ≤ nI 10 by decide)]
    rfl
  | succ k ih =>
    intro g n c hg hn
    obtain ⟨n, rfl⟩ : ∃ q, n = q + 1 := ⟨n - 1, by omega⟩
    rw [lp_X0_glassesThere_4, if_neg (show ¬ 10 ≤ nI g from nI_ge (b := 10) (by omega) (by decide)), e_hasGlass hx hr, it_bi_some, th_nI (by omega), nI_1]
    by_cases h6 : A 6 g = -1
    · rw [show (if (decide (¬ A 6 g = -1)) = true then (1 : Int32) else 0) = 0 by simp [h6], if_pos rfl, ih (g + 1) n c (by omega) (by omega), sp_many, if_pos h6]
    · rw [show (if (decide (¬ A 6 g = -1)) = true then (1 : Int32) else 0) = 1 by simp [h6], if_neg (by decide), ih (g + 1) n (c + 1) (by omega) (by omega), sp_many, if_neg h6]
theorem e_glassesThere {κ : it_KK} {S A : it_SS} {u G T : Nat} (hx : hX S u A) (hr : hR A G T) : f_X0_glassesThere κ u S = some (sp_many 10 0 A 0, S) := by
  rw [f_X0_glassesThere]
  exact e_there_loop hx hr 10 0 it_FU 0 rfl (by decide)
theorem e_many_loop {κ : it_KK} {S A : it_SS} {G : Nat} {kont : Int32 → it_SS → Option (Int32 × it_SS)} (hx : hM S A G) : ∀ (k g n : Nat) (c : Int32), g + k = 10 → k < n → lp_X6_many_4 κ kont n c (nI g) S = kont (sp_many k g A c) S := by
  intro k
  induction k with
  | zero =>
    intro g n c hg hn
    obtain ⟨n, rfl⟩ : ∃ q, n = q + 1 := ⟨n - 1, by omega⟩
    obtain rfl : g = 10 := by omega
    rw [lp_X6_many_4, if_pos (show (10 : Int32) ≤ nI 10 by decide)]
    rfl
  | succ k ih =>
    intro g n c hg hn
    obtain ⟨n, rfl⟩ : ∃ q, n = q + 1 := ⟨n - 1, by omega⟩
    rw [lp_X6_many_4, if_neg (show ¬ 10 ≤ nI g from nI_ge (b := 10) (by omega) (by decide)), e_isThere hx, it_bi_some, th_nI (by omega), nI_1]
    by_cases h6 : A 6 g = -1
    · rw [show (if (decide (¬ A 6 g = -1)) = true then (1 : Int32) else 0) = 0 by simp [h6], if_pos rfl, Int32.add_zero, ih (g + 1) n c (by omega) (by omega), sp_many, if_pos h6]
    · rw [show (if (decide (¬ A 6 g = -1)) = true then (1 : Int32) else 0) = 1 by simp [h6], if_neg (by decide), ih (g + 1) n (c + 1) (by omega) (by omega), sp_many, if_neg h6]
theorem e_many {κ : it_KK} {S A : it_SS} {G : Nat} (hx : hM S A G) : f_X6_many κ S = some (sp_many 10 0 A 0, S) := by
  rw [f_X6_many]
  exact e_many_loop hx 10 0 it_FU 0 rfl (by decide)
theorem gM.refl (S : it_SS) : gM S S := fun _ _ _ => rfl
theorem gX.refl (S : it_SS) : gX S S := fun _ _ => rfl
theorem gM.up {S : it_SS} {a j : Nat} {v : Int32} (h : a < 45 ∨ 65 ≤ a) : gM S (it_up S a j v) := fun b h1 h2 => it_up_ne (by omega)
theorem gX.up {S : it_SS} {a j : Nat} {v : Int32} (h1 : 45 ≤ a) (h2 : a < 65) : gX S (it_up S a j v) := fun b hb => it_up_ne (by omega)
theorem gM.of {S S' : it_SS} {u : Nat} (hu : it_u u) (h : fU u S S') : gM S S' := fun b h1 h2 => h b (by omega) (by omega) (by have := hu.2; omega)
theorem gM.fx {S S' : it_SS} (h : fX S S') : gM S S' := fun b h1 h2 => h b (by omega) (by omega)
theorem gX.fm {S S' : it_SS} (h : fM S S') : gX S S' := fun b hb => h b (by omega) (by omega)
theorem gX.fd {S S' : it_SS} (h : fD S S') : gX S S' := fun b hb => h.1 b (by omega) (by omega) (by omega) (by omega) (by omega)
section OPS1
variable {κ : it_KK}
theorem q_count (x : Int32) : Eqv κ (f_X5_count κ x) (f_X6_count κ x) := Eqv.ask fun A G tb T n by' ik AK GK so sz ce hr => by
  refine ⟨if x = 0 then A 1 0 else if x = 1 then sp_many 10 0 A 0 else if x = 2 then A 9 0 else if x = 3 then nI T else if x = 4 then A 10 0 else if x = 5 then nI n else -2, fun S h => ⟨S, ?_, h, gM.refl S⟩, fun S h => ⟨S, ?_, h, gX.refl S⟩⟩
  · rw [f_X5_count, e_glassesThere h.1 hr.1, it_bi_some, h.1.2.2.1, h.1.2.2.2.1, h.2.1.1, h.1.2.2.2.2, h.2.2.1.1]
    repeat' split
    all_goals first | rfl | contradiction
  · rw [f_X6_count, e_many h.1, it_bi_some, h.1.2.2.2.1, h.1.2.2.2.2.1, h.2.1.1, h.1.2.2.2.2.2, h.2.2.1.1]
    repeat' split
    all_goals first | rfl | contradiction
theorem in_rng {x lo hi : Int32} (h : sp_in x lo hi = true) : lo.toInt ≤ x.toInt ∧ x.toInt ≤ hi.toInt := by
  simp only [sp_in, Bool.and_eq_true, decide_eq_true_eq, Int32.le_iff_toInt_le] at h
  exact h
theorem q_dawn (x : Int32) : Eqv κ (f_X5_dawn κ x) (f_X6_dawn κ x) := Eqv.of fun A G tb T n by' ik AK GK so sz ce hr => by
  cases hi : sp_in x 0 999 with
  | false =>
    refine ⟨-2, A, G, n, by', ik, AK, GK, so, sz, ce, hr, fun S h => ⟨S, ?_, h, gM.refl S⟩, fun S h => ⟨S, ?_, h, gX.refl S⟩⟩
    · rw [f_X5_dawn, e_isOutside, it_bi_some, hi]; rfl
    · rw [f_X6_dawn, e_in, it_bi_some, hi]; rfl
  | true =>
    have hd := in_rng hi
    rw [i_0, show (999 : Int32).toInt = 999 by decide] at hd
    refine ⟨A 9 0, it_up A 9 0 x, G, n, by', ik, AK, GK, so, sz, ce, ⟨hr.1.up9, by simpa [dR, it_up, upd] using hd, hr.2.2.1, hr.2.2.2.1, hr.2.2.2.2.1, ?_, hr.2.2.2.2.2.2.1, fun p hp => by rw [it_up_ne (by decide)]; exact hr.2.2.2.2.2.2.2 p hp⟩, fun S h => ⟨it_up S 9 9 x, ?_, h.mk' (h.1.upd0 (by omega)) (fun b _ _ hb _ => it_up_ne (by omega)), gM.up (by omega)⟩, fun S h => ⟨it_up S 45 5 x, ?_, h.mk' (h.1.upd0 (by omega)) (fun j hj => by rw [it_up_eq, upd, if_neg (by omega)]) (fun b h1 h2 => it_up_ne (by omega)), gX.up (by omega) (by omega)⟩⟩
    · rcases hr.2.2.2.2.2.1 with h | ⟨h1, h2, h3, h4, h5⟩
      · exact Or.inl h
      · exact Or.inr ⟨h1, h2, h3, h4, fun p hp => by rw [it_up_ne (by decide), it_up_ne (by decide)]; exact h5 p hp⟩
    · rw [f_X5_dawn, e_isOutside, it_bi_some, hi, if_pos rfl, if_pos rfl, h.1.2.2.2.1]
    · rw [f_X6_dawn, e_in, it_bi_some, hi, if_pos rfl, if_neg (by decide), h.1.2.2.2.2.1]
theorem hR.up10 {A : it_SS} {G T t : Nat} (hr : hR A G T) (ht : t < T) : hR (it_up A 10 0 (nI t)) G T := by
  obtain ⟨a1, a2, a3, a4, a5, a6, a7⟩ := hr
  exact ⟨by rw [it_up_ne (by decide)]; exact a1, a2, fun j hj => by rw [it_up_ne (by decide)]; exact a3 j hj, ⟨t, ht, by simp [it_up, upd]⟩, fun p hp => by rw [it_up_ne (by decide)]; exact a5 p hp, fun p hp => by rw [it_up_ne (by decide), it_up_ne (by decide)]; exact a6 p hp, fun j hj => by rw [it_up_ne (by decide), it_up_ne (by decide)]; exact a7 j hj⟩
/-- a house that differs from the other where the image and the day don't ask -/
theorem IR.house {A A' : it_SS} {G : Nat} {tb : Nat → Nat → List Nat} {T n : Nat} {by' : Nat → Int32} {ik : Int32} {AK : it_SS} {GK : Nat} {so sz : Nat → Int32} (hr : IR A G tb T n by' ik AK GK so sz) (h1 : hR A' G T) (h2 : dR A') (h3 : ∀ p, p < G → A' 2 p = A 2 p ∧ A' 3 p = A 3 p) : IR A' G tb T n by' ik AK GK so sz := by
  refine ⟨h1, h2, hr.2.2.1, hr.2.2.2.1, hr.2.2.2.2.1, ?_, hr.2.2.2.2.2.2.1, fun p hp => by rw [(h3 p hp).1]; exact hr.2.2.2.2.2.2.2 p hp⟩
  rcases hr.2.2.2.2.2.1 with h | ⟨g1, g2, g3, g4, g5⟩
  · exact Or.inl h
  · exact Or.inr ⟨g1, g2, g3, g4, fun p hp => by rw [(h3 p (by omega)).1, (h3 p (by omega)).2]; exact g5 p hp⟩
theorem q_force (x : Int32) : Eqv κ (f_X5_force κ x) (f_X6_force κ x) := Eqv.of fun A G tb T n by' ik AK GK so sz ce hr => by
  have hT := hr.2.2.2.1
  have hT6 := hr.2.2.1.1
  have hm1 : nI T - 1 = nI (T - 1) := nI_s1 hT
  cases hi : sp_in x 0 (nI (T - 1)) with
  | false =>
    refine ⟨-2, A, G, n, by', ik, AK, GK, so, sz, ce, hr, fun S h => ⟨S, ?_, h, gM.refl S⟩, fun S h => ⟨S, ?_, h, gX.refl S⟩⟩
    · rw [f_X5_force, h.2.1.1, hm1, e_isOutside, it_bi_some, hi]; rfl
    · rw [f_X6_force, h.2.1.1, hm1, e_in, it_bi_some, hi]; rfl
  | true =>
    obtain ⟨t, ht, rfl⟩ := in_nI (by omega) hi
    refine ⟨A 10 0, it_up A 10 0 (nI t), G, n, by', ik, AK, GK, so, sz, ce, hr.house (hr.1.up10 (by omega)) (by rw [dR, it_up_ne (by decide)]; exact hr.2.1) (fun p hp => by rw [it_up_ne (by decide), it_up_ne (by decide)]; exact ⟨rfl, rfl⟩), fun S h => ⟨it_up S 9 10 (nI t), ?_, h.mk' (h.1.upd0 (by omega)) (fun b _ _ hb _ => it_up_ne (by omega)), gM.up (by omega)⟩, fun S h => ⟨it_up S 45 11 (nI t), ?_, h.mk' (h.1.upd0 (by omega)) (fun j hj => by rw [it_up_eq, upd, if_neg (by omega)]) (fun b h1 h2 => it_up_ne (by omega)), gX.up (by omega) (by omega)⟩⟩
    · rw [f_X5_force, h.2.1.1, hm1, e_isOutside, it_bi_some, hi, if_pos rfl, if_pos rfl, h.1.2.2.2.2]
    · rw [f_X6_force, h.2.1.1, hm1, e_in, it_bi_some, hi, if_pos rfl, if_neg (by decide), h.1.2.2.2.2.2]
theorem IR.lw {A : it_SS} {G : Nat} {tb : Nat → Nat → List Nat} {T n : Nat} {by' : Nat → Int32} {ik : Int32} {AK : it_SS} {GK : Nat} {so sz : Nat → Int32} (hr : IR A G tb T n by' ik AK GK so sz) : sp_lw tb T A := ⟨hr.2.2.1, hr.1.2.2.2.1⟩
theorem th_of {A : it_SS} {x : Int32} (h : sp_th A x = true) : ∃ g, g < 10 ∧ x = nI g ∧ ¬ A 6 g = -1 := by
  simp only [sp_th, Bool.and_eq_true, decide_eq_true_eq] at h
  obtain ⟨g, hg, rfl⟩ := bd_of h.1
  rw [nI_clamp (by omega)] at h
  exact ⟨g, hg, rfl, h.2⟩
theorem q_asks (x y : Int32) : Eqv κ (f_X5_asks κ x y) (f_X6_asks κ x y) := Eqv.ask fun A G tb T n by' ik AK GK so sz ce hr => by
  cases hi : sp_in x 0 2 with
  | false =>
    refine ⟨-1000, fun S h => ⟨S, ?_, h, gM.refl S⟩, fun S h => ⟨S, ?_, h, gX.refl S⟩⟩
    · rw [f_X5_asks, e_isOutside, it_bi_some, hi]; rfl
    · rw [f_X6_asks, e_in, it_bi_some, hi]; rfl
  | true =>
    obtain ⟨q, hq, rfl⟩ := in_nI (m := 2) (by decide) hi
    cases ht : sp_th A y with
    | false =>
      refine ⟨-1000, fun S h => ⟨S, ?_, h, gM.refl S⟩, fun S h => ⟨S, ?_, h, gX.refl S⟩⟩
      · rw [f_X5_asks, e_isOutside, it_bi_some, hi, if_pos rfl, if_pos rfl, e_hasGlass h.1 hr.1, it_bi_some, ht]; rfl
      · rw [f_X6_asks, e_in, it_bi_some, hi, if_pos rfl, if_neg (by decide), e_isThere h.1, it_bi_some, ht]; rfl
    | true =>
      obtain ⟨g, hg, rfl, h6⟩ := th_of ht
      obtain ⟨p, hp, hw, hpp⟩ := hr.1.p hg h6
      have hG := hr.1.2.1
      refine ⟨sp_say tb A q g, fun S h => ?_, fun S h => ?_⟩
      · obtain ⟨S1, e1, e2⟩ := e_saying (κ := κ) (q := q) (u := 9) ⟨by decide, by decide⟩ h.1 h.2.1 hr.lw hg (by omega) hw (by omega)
        exact ⟨S1, by rw [f_X5_asks, e_isOutside, it_bi_some, hi, if_pos rfl, if_pos rfl, e_hasGlass h.1 hr.1, it_bi_some, ht, if_pos rfl, if_neg (by decide), e1, it_bi_some], h.thought (fun b b3 b4 _ _ => e2 b b3 b4), gM.fx e2⟩
      · obtain ⟨S1, e1, e2⟩ := e_asksOf (κ := κ) (q := q) h.1 h.2.1 hr.lw hG hg hp hw (by omega)
        exact ⟨S1, by rw [f_X6_asks, e_in, it_bi_some, hi, if_pos rfl, if_neg (by decide), e_isThere h.1, it_bi_some, ht, if_pos rfl, if_neg (by decide), e1, it_bi_some], h.mk' (h.1.fr e2) (fun j _ => by rw [e2 45 (by decide) (by decide)]) (fun b h1 h2 => e2 b (by omega) (by omega)), gX.fm e2⟩
end OPS1
