section OPS8
variable {κ : it_KK} {S S' S0 A B : it_SS} {G : Nat} {tb : Nat → Nat → List Nat} {T n : Nat} {by' : Nat → Int32} {ik : Int32} {AK : it_SS} {GK : Nat} {so sz : Nat → Int32} {ce : it_SS}
theorem hM.up46 {p : Nat} {a b : Int32} (h : hM S A G) (ha : p < 6) : hM (it_up (it_up S 46 p a) 47 p b) (it_up (it_up A 2 p a) 3 p b) G := by
  obtain ⟨a1, a2, a3, a4, a5, a6⟩ := h
  have eS : ∀ c, c ≠ 46 → c ≠ 47 → it_up (it_up S 46 p a) 47 p b c = S c := fun c h1 h2 => by rw [it_up_ne h2, it_up_ne h1]
  have eA : ∀ c, c ≠ 2 → c ≠ 3 → it_up (it_up A 2 p a) 3 p b c = A c := fun c h1 h2 => by rw [it_up_ne h2, it_up_ne h1]
  refine ⟨fun q hq => ?_, fun q hq => by rw [eS 48 (by decide) (by decide), eA 4 (by decide) (by decide), eA 5 (by decide) (by decide)]; exact a2 q hq, fun j hj => by rw [eS 49 (by decide) (by decide), eA 6 (by decide) (by decide), eA 7 (by decide) (by decide), eA 8 (by decide) (by decide)]; exact a3 j hj, by rw [eS 45 (by decide) (by decide), eA 1 (by decide) (by decide)]; exact a4, by rw [eS 45 (by decide) (by decide), eA 9 (by decide) (by decide)]; exact a5, by rw [eS 45 (by decide) (by decide), eA 10 (by decide) (by decide)]; exact a6⟩
  rw [it_up_ne (show (46 : Nat) ≠ 47 by decide), it_up_eq, it_up_ne (show (2 : Nat) ≠ 3 by decide), it_up_eq, it_up_eq, it_up_eq, it_up_ne (show (47 : Nat) ≠ 46 by decide), it_up_ne (show (3 : Nat) ≠ 2 by decide), upd, upd, upd, upd]
  by_cases e : q = p
  · simp [e]
  · simp only [if_neg e]
    exact a1 q hq
theorem QM.kk {p : Nat} {a b a' b' : Int32} (q : QM tb T S0 S (sp_kk A p a b) G) (hp : p < 6) : QM tb T S0 (it_up (it_up S 46 p a') 47 p b') (sp_kk A p a' b') G := by
  have h1 := q.1.up46 (a := a') (b := b') hp
  rw [kk_kk] at h1
  have hf : fK S (it_up (it_up S 46 p a') 47 p b') := (fK.up (by omega)).trans (fK.up (by omega))
  exact ⟨h1, q.2.1.fk hf, q.2.2.trans hf⟩
/-- the house with that kind, or more -/
def sp_as (A : it_SS) (p : Nat) (o : Int32) (v : Nat) : it_SS := if o = 0 then sp_kk A p (nI v) (A 3 p) else sp_kk A p (A 2 p) (nI v)
theorem hR.as {p v : Nat} {o : Int32} (hr : hR A G T) (hp : p < G) (hv : v < 10) : hR (sp_as A p o v) G T := by
  rw [sp_as]
  split
  · exact hr.kk (hr.2.2.2.2.1 p hp)
  · exact hr.kk (by rw [nI_toInt (by omega)]; omega)
theorem e_setKind {p v : Nat} {o : Int32} (hp : p < 6) (h : PX κ tb T S0 S A) : ∃ S', f_X0_setKind κ 17 (nI p) o (nI v) S = some ((), S') ∧ PX κ tb T S0 S' (sp_as A p o v) := by
  rw [f_X0_setKind, if_pos (bd_nI hp (by decide)), sp_as, nI_clamp (by omega)]
  split
  · refine ⟨_, rfl, ?_⟩
    rw [← kk_2]
    exact h.up (k := 1) (by decide) (by decide)
  · rw [if_pos (bd_nI hp (by decide))]
    refine ⟨_, rfl, ?_⟩
    rw [← kk_3]
    exact h.up (k := 2) (by decide) (by decide)
theorem e_kinds_loop {s z p M : Nat} {o : Int32} {kont : Int32 → it_SS → Option (Int32 × it_SS)} (hr : IR A G tb T n by' ik AK GK so sz) (hs : s < 4) (hz : z ≤ 20) (ez : sz s = nI z) (hp : p < G) (hM : M = if o = 0 then 6 else 10) : ∀ (k v f : Nat) (b : Int32) (S : it_SS), v + k = M → k < f → IX κ S A tb T n by' ik AK so sz ce → ∃ S', lp_X5_kinds_34 κ (nI s) (nI p) o kont f b (nI v) S = kont (sp_fit (fun _ => true) (fun v => sp_fo tb G p (ce s) z 0 (sp_as A p o v)) k v b) S' ∧ IX κ S' A tb T n by' ik AK so sz ce ∧ gM S S' := by
  have hG := hr.1.2.1
  have hM10 : M ≤ 10 := by rw [hM]; split <;> decide
  intro k
  induction k with
  | zero =>
    intro v f b S hv hf h
    obtain ⟨f, rfl⟩ : ∃ q, f = q + 1 := ⟨f - 1, by omega⟩
    obtain rfl : v = M := by omega
    refine ⟨S, ?_, h, gM.refl S⟩
    rw [lp_X5_kinds_34, hM]
    split
    · rw [if_pos (by decide)]; rfl
    · rw [if_pos (by decide)]; rfl
  | succ k ih =>
    intro v f b S hv hf h
    obtain ⟨f, rfl⟩ : ∃ q, f = q + 1 := ⟨f - 1, by omega⟩
    obtain ⟨S1, a1, a2⟩ := PX.start h
    obtain ⟨S2, b1, b2⟩ := e_setKind (o := o) (v := v) (show p < 6 by omega) a2
    obtain ⟨S3, c1, c2, c3⟩ := e_firstOtherwise hr hs hp hz ez h b2 (hr.1.as hp (by omega))
    have key : lp_X5_kinds_34 κ (nI s) (nI p) o kont (f + 1) b (nI v) S = lp_X5_kinds_34 κ (nI s) (nI p) o kont f (if sp_fo tb G p (ce s) z 0 (sp_as A p o v) = -1 then b ||| (1 <<< (nI v &&& 31)) else b) (nI (v + 1)) S3 := by
      rw [lp_X5_kinds_34, a1, it_bi_some, b1, it_bi_some, c1, it_bi_some, nI_1]
      by_cases o0 : o = 0
      · rw [if_pos o0, if_neg (show ¬ 6 ≤ nI v from nI_ge (b := 6) (by rw [if_pos o0] at hM; omega) (by decide))]
        split <;> rfl
      · rw [if_neg o0, if_neg (show ¬ 10 ≤ nI v from nI_ge (b := 10) (by omega) (by decide))]
        split <;> rfl
    rw [key, sp_fit, if_pos rfl]
    obtain ⟨S4, d1, d2, d3⟩ := ih (v + 1) f (if sp_fo tb G p (ce s) z 0 (sp_as A p o v) = -1 then b ||| (1 <<< (nI v &&& 31)) else b) S3 (by omega) (by omega) c2
    exact ⟨S4, d1, d2, c3.trans d3⟩
theorem e_kindsM_loop {s z p M : Nat} {o : Int32} {c : Nat → Int32} {kont : Int32 → Int32 → Int32 → it_SS → Option (Int32 × it_SS)} (ho : o = 0 ∨ o = 1) (ht : sp_tb tb T) (hr : hR A G T) (hs : s < 4) (hz : z ≤ 20) (hS : S0 56 s = nI z) (hC : ∀ j, j < 40 → S0 57 (40 * s + j) = c j) (hp : p < G) (hM : M = if o = 0 then 6 else 10) : ∀ (k v f : Nat) (b a' b' : Int32) (S : it_SS), v + k = M → k < f → QM tb T S0 S (sp_kk A p a' b') G → ∃ S' a'' b'', lp_X6_kinds_50 κ (nI s) (nI p) o kont f (A 2 p) (A 3 p) b (nI v) S = kont (A 2 p) (A 3 p) (sp_fit (fun _ => true) (fun v => sp_fo tb G p c z 0 (sp_as A p o v)) k v b) S' ∧ QM tb T S0 S' (sp_kk A p a'' b'') G := by
  have hG := hr.2.1
  have hM10 : M ≤ 10 := by rw [hM]; split <;> decide
  intro k
  induction k with
  | zero =>
    intro v f b a' b' S hv hf h
    obtain ⟨f, rfl⟩ : ∃ q, f = q + 1 := ⟨f - 1, by omega⟩
    obtain rfl : v = M := by omega
    refine ⟨S, a', b', ?_, h⟩
    rw [lp_X6_kinds_50, hM]
    split
    · rw [if_pos (by decide)]; rfl
    · rw [if_pos (by decide)]; rfl
  | succ k ih =>
    intro v f b a' b' S hv hf h
    obtain ⟨f, rfl⟩ : ∃ q, f = q + 1 := ⟨f - 1, by omega⟩
    have hpc : (nI p).toNatClampNeg = p := nI_clamp (by omega)
    rcases ho with o0 | o1
    · have q1 := h.kk (a' := nI v) (b' := A 3 p) (show p < 6 by omega)
      obtain ⟨S2, b1, b2⟩ := e_unlike (κ := κ) ht hs hp hz hS hC q1 (hr.kk (hr.2.2.2.2.1 p hp))
      have e0 : sp_as A p o v = sp_kk A p (nI v) (A 3 p) := by rw [sp_as, if_pos o0]
      have key : lp_X6_kinds_50 κ (nI s) (nI p) o kont (f + 1) (A 2 p) (A 3 p) b (nI v) S = lp_X6_kinds_50 κ (nI s) (nI p) o kont f (A 2 p) (A 3 p) (if sp_fo tb G p c z 0 (sp_as A p o v) = -1 then b ||| (1 <<< (nI v &&& 31)) else b) (nI (v + 1)) S2 := by
        rw [lp_X6_kinds_50, if_pos o0, if_neg (show ¬ 6 ≤ nI v from nI_ge (b := 6) (by rw [if_pos o0] at hM; omega) (by decide)), if_pos o0, if_neg (show ¬ o = 1 by rw [o0]; decide), hpc, b1, it_bi_some, nI_1, e0, or_z]
        split <;> rfl
      rw [key, sp_fit, if_pos rfl]
      exact ih (v + 1) f _ _ _ S2 (by omega) (by omega) b2
    · have o0 : ¬ o = 0 := by rw [o1]; decide
      have q1 := h.kk (a' := A 2 p) (b' := nI v) (show p < 6 by omega)
      obtain ⟨S2, b1, b2⟩ := e_unlike (κ := κ) ht hs hp hz hS hC q1 (hr.kk (by rw [nI_toInt (by omega)]; omega))
      have e0 : sp_as A p o v = sp_kk A p (A 2 p) (nI v) := by rw [sp_as, if_neg o0]
      have key : lp_X6_kinds_50 κ (nI s) (nI p) o kont (f + 1) (A 2 p) (A 3 p) b (nI v) S = lp_X6_kinds_50 κ (nI s) (nI p) o kont f (A 2 p) (A 3 p) (if sp_fo tb G p c z 0 (sp_as A p o v) = -1 then b ||| (1 <<< (nI v &&& 31)) else b) (nI (v + 1)) S2 := by
        rw [lp_X6_kinds_50, if_neg o0, if_neg (show ¬ 10 ≤ nI v from nI_ge (b := 10) (by omega) (by decide)), if_neg o0, if_pos o1, hpc, b1, it_bi_some, nI_1, e0, or_z]
        split <;> rfl
      rw [key, sp_fit, if_pos rfl]
      exact ih (v + 1) f _ _ _ S2 (by omega) (by omega) b2
theorem q_kinds (x y o : Int32) : Eqv κ (f_X5_kinds κ x y o) (f_X6_kinds κ x y o) := Eqv.ask fun A G tb T n by' ik AK GK so sz ce hr => by
  have hG := hr.1.2.1
  by_cases q : sp_rd so sz G x y = 0
  · cases ho : sp_in o 0 1 with
    | false =>
      refine ⟨-7, fun S h => ⟨S, ?_, h, gM.refl S⟩, fun S h => ⟨S, ?_, h, gX.refl S⟩⟩
      · rw [f_X5_kinds, e_refusalOfDays h hr, it_bi_some, if_pos q, e_isOutside, it_bi_some, ho]; rfl
      · rw [f_X6_kinds, e_toldWrong h hr, it_bi_some, if_pos q, e_in, it_bi_some, ho]; rfl
    | true =>
    obtain ⟨s, z, p, hs, rfl, hz, ez, hp, rfl⟩ := rd_0 hr q
    obtain ⟨M, hM⟩ : ∃ M : Nat, M = if o = 0 then 6 else 10 := ⟨_, rfl⟩
    have hM10 : M ≤ 10 := by rw [hM]; split <;> decide
    refine ⟨sp_fit (fun _ => true) (fun v => sp_fo tb G p (ce s) z 0 (sp_as A p o v)) M 0 0, fun S h => ?_, fun S h => ?_⟩
    · obtain ⟨S2, b1, b2, b3⟩ := e_kinds_loop (κ := κ) (o := o) (kont := fun v24 S25 => some (v24, S25)) hr hs hz ez hp hM M 0 it_FU 0 S (by omega) (by show M < 100000; omega) h
      exact ⟨S2, by rw [f_X5_kinds, e_refusalOfDays h hr, it_bi_some, if_pos q, e_isOutside, it_bi_some, ho, if_pos rfl, if_pos rfl]; exact b1, b2, b3⟩
    · have h5 := h.2.2.2.2 s hs
      have hpc : (nI p).toNatClampNeg = p := nI_clamp (by omega)
      obtain ⟨S2, a'', b'', b1, b2⟩ := e_kindsM_loop (κ := κ) (o := o) (S0 := S) (kont := fun v41 v42 v43 S44 => some (v43, it_up (it_up S44 46 p v41) 47 p v42)) (in_01 ho) hr.2.2.1 hr.1 hs hz (h5.2.1.trans ez) h5.2.2 hp hM M 0 it_FU 0 (A 2 p) (A 3 p) S (by omega) (by show M < 100000; omega) (by rw [kk_id]; exact QM.start h)
      have b3 := b2.kk (a' := A 2 p) (b' := A 3 p) (show p < 6 by omega)
      rw [kk_id] at b3
      refine ⟨_, ?_, b3.fin h, b3.gX⟩
      rw [f_X6_kinds, e_toldWrong h hr, it_bi_some, if_pos q, e_in, it_bi_some, ho, if_pos rfl, if_neg (by decide), if_pos (bd_nI (show p < 6 by omega) (by decide)), hpc, (h.1.1 p hp).1, (h.1.1 p hp).2]
      exact b1
  · refine ⟨sp_rd so sz G x y, fun S h => ⟨S, ?_, h, gM.refl S⟩, fun S h => ⟨S, ?_, h, gX.refl S⟩⟩
    · rw [f_X5_kinds, e_refusalOfDays h hr, it_bi_some, if_neg q]
    · rw [f_X6_kinds, e_toldWrong h hr, it_bi_some, if_neg q]
/-! whose a glass was -/
theorem e_owners_loop {s z p : Nat} {kont : Int32 → it_SS → Option (Int32 × it_SS)} (hr : IR A G tb T n by' ik AK GK so sz) (hs : s < 4) (hz : z ≤ 20) (ez : sz s = nI z) (hp : p < G) : ∀ (k g f : Nat) (b : Int32) (S : it_SS), g + k = 10 → k < f → IX κ S A tb T n by' ik AK so sz ce → ∃ S', lp_X5_owners_19 κ (nI s) (nI p) kont f b (nI g) S = kont (sp_fit (fun g => decide (¬ A 6 g = -1 ∧ ¬ A 6 g = nI p)) (fun g => sp_fo tb G p (ce s) z 0 (it_up A 6 g (nI p))) k g b) S' ∧ IX κ S' A tb T n by' ik AK so sz ce ∧ gM S S' := by
  have hG := hr.1.2.1
  intro k
  induction k with
  | zero =>
    intro g f b S hg hf h
    obtain ⟨f, rfl⟩ : ∃ q, f = q + 1 := ⟨f - 1, by omega⟩
    obtain rfl : g = 10 := by omega
    exact ⟨S, by rw [lp_X5_owners_19, if_pos (show (10 : Int32) ≤ nI 10 by decide)]; rfl, h, gM.refl S⟩
  | succ k ih =>
    intro g f b S hg hf h
    obtain ⟨f, rfl⟩ : ∃ q, f = q + 1 := ⟨f - 1, by omega⟩
    rw [lp_X5_owners_19, if_neg (show ¬ 10 ≤ nI g from nI_ge (b := 10) (by omega) (by decide)), e_hasGlass h.1 hr.1, it_bi_some, th_nI (by omega), nI_1, sp_fit]
    by_cases h6 : A 6 g = -1
    · rw [show (if (decide (¬ A 6 g = -1)) = true then (1 : Int32) else 0) = 0 by simp [h6], if_pos rfl, if_neg (show ¬ decide (¬ A 6 g = -1 ∧ ¬ A 6 g = nI p) = true by simp [h6])]
      exact ih (g + 1) f b S (by omega) (by omega) h
    · rw [show (if (decide (¬ A 6 g = -1)) = true then (1 : Int32) else 0) = 1 by simp [h6], if_neg (by decide), if_pos (bd_nI (show g < 10 by omega) (by decide)), nI_clamp (by omega), (h.1.2.1 g (by omega)).1]
      by_cases hw : A 6 g = nI p
      · rw [if_pos hw, if_neg (show ¬ decide (¬ A 6 g = -1 ∧ ¬ A 6 g = nI p) = true by simp [hw])]
        exact ih (g + 1) f b S (by omega) (by omega) h
      · obtain ⟨S1, a1, a2⟩ := PX.start h
        have p1 := a2.up (k := 5) (j := g) (v := nI p) (by decide) (by decide)
        obtain ⟨S2, b1, b2, b3⟩ := e_firstOtherwise hr hs hp hz ez h p1 (hr.1.up6 (Or.inr ⟨p, hp, rfl⟩))
        rw [if_neg hw, if_pos (show decide (¬ A 6 g = -1 ∧ ¬ A 6 g = nI p) = true by simp [hw, h6]), a1, it_bi_some, b1, it_bi_some]
        obtain ⟨S3, c1, c2, c3⟩ := ih (g + 1) f (if sp_fo tb G p (ce s) z 0 (it_up A 6 g (nI p)) = -1 then b ||| (1 <<< (nI g &&& 31)) else b) S2 (by omega) (by omega) b2
        refine ⟨S3, ?_, c2, b3.trans c3⟩
        rw [← c1]
        by_cases q : sp_fo tb G p (ce s) z 0 (it_up A 6 g (nI p)) = -1
        · rw [if_pos (show sp_fo tb G p (ce s) z 0 (it_up A (5 + 1) g (nI p)) = -1 from q), if_pos q]
        · rw [if_neg (show ¬ sp_fo tb G p (ce s) z 0 (it_up A (5 + 1) g (nI p)) = -1 from q), if_neg q]
theorem e_ownersM_loop {s z p : Nat} {c : Nat → Int32} {kont : Int32 → it_SS → Option (Int32 × it_SS)} (ht : sp_tb tb T) (hr : hR A G T) (hs : s < 4) (hz : z ≤ 20) (hS : S0 56 s = nI z) (hC : ∀ j, j < 40 → S0 57 (40 * s + j) = c j) (hp : p < G) : ∀ (k g f : Nat) (b : Int32) (S : it_SS), g + k = 10 → k < f → QM tb T S0 S A G → ∃ S', lp_X6_owners_19 κ (nI s) (nI p) kont f b (nI g) S = kont (sp_fit (fun g => decide (¬ A 6 g = -1 ∧ ¬ A 6 g = nI p)) (fun g => sp_fo tb G p c z 0 (it_up A 6 g (nI p))) k g b) S' ∧ QM tb T S0 S' A G := by
  have hG := hr.2.1
  intro k
  induction k with
  | zero =>
    intro g f b S hg hf h
    obtain ⟨f, rfl⟩ : ∃ q, f = q + 1 := ⟨f - 1, by omega⟩
    obtain rfl : g = 10 := by omega
    exact ⟨S, by rw [lp_X6_owners_19, if_pos (show (10 : Int32) ≤ nI 10 by decide)]; rfl, h⟩
  | succ k ih =>
    intro g f b S hg hf h
    obtain ⟨f, rfl⟩ : ∃ q, f = q + 1 := ⟨f - 1, by omega⟩
    rw [lp_X6_owners_19, if_neg (show ¬ 10 ≤ nI g from nI_ge (b := 10) (by omega) (by decide)), nI_3, if_pos (bd_nI (show 3 * g < 30 by omega) (by decide)), nI_clamp (by omega), (h.1.2.2.1 g (by omega)).1, nI_1, sp_fit]
    by_cases h6 : A 6 g = -1
    · rw [if_pos h6, if_neg (show ¬ decide (¬ A 6 g = -1 ∧ ¬ A 6 g = nI p) = true by simp [h6])]
      exact ih (g + 1) f b S (by omega) (by omega) h
    · rw [if_neg h6]
      by_cases hw : A 6 g = nI p
      · rw [if_pos hw, if_neg (show ¬ decide (¬ A 6 g = -1 ∧ ¬ A 6 g = nI p) = true by simp [hw])]
        exact ih (g + 1) f b S (by omega) (by omega) h
      · have q1 : QM tb T S0 (it_up S 49 (3 * g) (nI p)) (it_up A 6 g (nI p)) G := h.up49 (g := g) (k := 0) (v := nI p) (by decide)
        obtain ⟨S1, a1, a2⟩ := e_unlike (κ := κ) ht hs hp hz hS hC q1 (hr.up6 (Or.inr ⟨p, hp, rfl⟩))
        have q2 : QM tb T S0 (it_up S1 49 (3 * g) (A 6 g)) (it_up (it_up A 6 g (nI p)) 6 g (A 6 g)) G := a2.up49 (g := g) (k := 0) (v := A 6 g) (by decide)
        rw [up_up] at q2
        rw [if_neg hw, if_pos (show decide (¬ A 6 g = -1 ∧ ¬ A 6 g = nI p) = true by simp [hw, h6]), a1, it_bi_some, or_z]
        by_cases q : sp_fo tb G p c z 0 (it_up A 6 g (nI p)) = -1
        · rw [if_pos q, if_pos q]
          exact ih (g + 1) f _ _ (by omega) (by omega) q2
        · rw [if_neg q, if_neg q]
          exact ih (g + 1) f _ _ (by omega) (by omega) q2
theorem q_owners (x y : Int32) : Eqv κ (f_X5_owners κ x y) (f_X6_owners κ x y) := Eqv.ask fun A G tb T n by' ik AK GK so sz ce hr => by
  by_cases q : sp_rd so sz G x y = 0
  · obtain ⟨s, z, p, hs, rfl, hz, ez, hp, rfl⟩ := rd_0 hr q
    refine ⟨sp_fit (fun g => decide (¬ A 6 g = -1 ∧ ¬ A 6 g = nI p)) (fun g => sp_fo tb G p (ce s) z 0 (it_up A 6 g (nI p))) 10 0 0, fun S h => ?_, fun S h => ?_⟩
    · obtain ⟨S2, b1, b2, b3⟩ := e_owners_loop (κ := κ) (kont := fun v10 S11 => some (v10, S11)) hr hs hz ez hp 10 0 it_FU 0 S rfl (by decide) h
      exact ⟨S2, by rw [f_X5_owners, e_refusalOfDays h hr, it_bi_some, if_pos q]; exact b1, b2, b3⟩
    · have h5 := h.2.2.2.2 s hs
      obtain ⟨S2, b1, b2⟩ := e_ownersM_loop (κ := κ) (kont := fun v10 S11 => some (v10, S11)) hr.2.2.1 hr.1 hs hz (h5.2.1.trans ez) h5.2.2 hp 10 0 it_FU 0 S rfl (by decide) (QM.start h)
      exact ⟨S2, by rw [f_X6_owners, e_toldWrong h hr, it_bi_some, if_pos q]; exact b1, b2.fin h, b2.gX⟩
  · refine ⟨sp_rd so sz G x y, fun S h => ⟨S, ?_, h, gM.refl S⟩, fun S h => ⟨S, ?_, h, gX.refl S⟩⟩
    · rw [f_X5_owners, e_refusalOfDays h hr, it_bi_some, if_neg q]
    · rw [f_X6_owners, e_toldWrong h hr, it_bi_some, if_neg q]
/-! by which text -/
theorem PX.up0 {v : Int32} (h : PX κ tb T S0 S B) : PX κ tb T S0 (it_up S 17 10 v) (it_up B 10 0 v) := ⟨h.1.upd0 (by omega), h.2.1.fr (fun b hb => it_up_ne (by omega)), fun b b3 b4 hb => by rw [it_up_ne (by omega)]; exact h.2.2 b b3 b4 hb⟩
theorem QM.up11 {v : Int32} (q : QM tb T S0 S A G) : QM tb T S0 (it_up S 45 11 v) (it_up A 10 0 v) G := ⟨q.1.upd0 (by omega), q.2.1.fk (fK.up45 (by omega)), q.2.2.trans (fK.up45 (by omega))⟩
theorem up10_up10 {v w : Int32} : it_up (it_up A 10 0 v) 10 0 w = it_up A 10 0 w := by
  funext f g
  simp only [it_up]
  by_cases h : f = 10
  · subst h
    by_cases hg : g = 0
    · simp [hg, upd]
    · simp [hg, upd]
  · simp [h]
theorem e_laws_loop {s z p : Nat} {kont : Int32 → it_SS → Option (Int32 × it_SS)} (hr : IR A G tb T n by' ik AK GK so sz) (hs : s < 4) (hz : z ≤ 20) (ez : sz s = nI z) (hp : p < G) : ∀ (k t f : Nat) (b : Int32) (S : it_SS), t + k = T → k < f → IX κ S A tb T n by' ik AK so sz ce → ∃ S', lp_X5_laws_19 κ (nI s) (nI p) kont f b (nI t) S = kont (sp_fit (fun _ => true) (fun t => sp_fo tb G p (ce s) z 0 (it_up A 10 0 (nI t))) k t b) S' ∧ IX κ S' A tb T n by' ik AK so sz ce ∧ gM S S' := by
  have hT := hr.2.2.1.1
  intro k
  induction k with
  | zero =>
    intro t f b S hg hf h
    obtain ⟨f, rfl⟩ : ∃ q, f = q + 1 := ⟨f - 1, by omega⟩
    obtain rfl : t = T := by omega
    exact ⟨S, by rw [lp_X5_laws_19, h.2.1.1, if_pos (Int32.le_refl _)]; rfl, h, gM.refl S⟩
  | succ k ih =>
    intro t f b S hg hf h
    obtain ⟨f, rfl⟩ : ∃ q, f = q + 1 := ⟨f - 1, by omega⟩
    obtain ⟨S1, a1, a2⟩ := PX.start h
    obtain ⟨S2, b1, b2, b3⟩ := e_firstOtherwise hr hs hp hz ez h (a2.up0 (v := nI t)) (hr.1.up10 (by omega))
    rw [lp_X5_laws_19, h.2.1.1, if_neg (nI_ge (by omega) (by omega)), a1, it_bi_some, b1, it_bi_some, nI_1, sp_fit, if_pos rfl]
    by_cases q : sp_fo tb G p (ce s) z 0 (it_up A 10 0 (nI t)) = -1
    · rw [if_pos q, if_pos q]
      obtain ⟨S3, c1, c2, c3⟩ := ih (t + 1) f (b ||| (1 <<< (nI t &&& 31))) S2 (by omega) (by omega) b2
      exact ⟨S3, c1, c2, b3.trans c3⟩
    · rw [if_neg q, if_neg q]
      obtain ⟨S3, c1, c2, c3⟩ := ih (t + 1) f b S2 (by omega) (by omega) b2
      exact ⟨S3, c1, c2, b3.trans c3⟩
theorem e_lawsM_loop {s z p : Nat} {c : Nat → Int32} {w : Int32} {kont : Int32 → Int32 → it_SS → Option (Int32 × it_SS)} (ht : sp_tb tb T) (hr : hR A G T) (hs : s < 4) (hz : z ≤ 20) (hS : S0 56 s = nI z) (hC : ∀ j, j < 40 → S0 57 (40 * s + j) = c j) (hp : p < G) : ∀ (k t f : Nat) (b v : Int32) (S : it_SS), t + k = T → k < f → QM tb T S0 S (it_up A 10 0 v) G → ∃ S' v', lp_X6_laws_25 κ (nI s) (nI p) kont f w b (nI t) S = kont w (sp_fit (fun _ => true) (fun t => sp_fo tb G p c z 0 (it_up A 10 0 (nI t))) k t b) S' ∧ QM tb T S0 S' (it_up A 10 0 v') G := by
  have hT := ht.1
  intro k
  induction k with
  | zero =>
    intro t f b v S hg hf h
    obtain ⟨f, rfl⟩ : ∃ q, f = q + 1 := ⟨f - 1, by omega⟩
    obtain rfl : t = T := by omega
    exact ⟨S, v, by rw [lp_X6_laws_25, h.2.1.1, if_pos (Int32.le_refl _)]; rfl, h⟩
  | succ k ih =>
    intro t f b v S hg hf h
    obtain ⟨f, rfl⟩ : ∃ q, f = q + 1 := ⟨f - 1, by omega⟩
    have q1 := h.up11 (v := nI t)
    rw [up10_up10] at q1
    obtain ⟨S1, a1, a2⟩ := e_unlike (κ := κ) ht hs hp hz hS hC q1 (hr.up10 (by omega))
    rw [lp_X6_laws_25, h.2.1.1, if_neg (nI_ge (by omega) (by omega)), a1, it_bi_some, nI_1, sp_fit, if_pos rfl, or_z]
    by_cases q : sp_fo tb G p c z 0 (it_up A 10 0 (nI t)) = -1
    · rw [if_pos q, if_pos q]
      exact ih (t + 1) f _ _ S1 (by omega) (by omega) a2
    · rw [if_neg q, if_neg q]
      exact ih (t + 1) f _ _ S1 (by omega) (by omega) a2
theorem q_laws (x y : Int32) : Eqv κ (f_X5_laws κ x y) (f_X6_laws κ x y) := Eqv.ask fun A G tb T n by' ik AK GK so sz ce hr => by
  have hT := hr.2.2.1.1
  by_cases q : sp_rd so sz G x y = 0
  · obtain ⟨s, z, p, hs, rfl, hz, ez, hp, rfl⟩ := rd_0 hr q
    refine ⟨sp_fit (fun _ => true) (fun t => sp_fo tb G p (ce s) z 0 (it_up A 10 0 (nI t))) T 0 0, fun S h => ?_, fun S h => ?_⟩
    · obtain ⟨S2, b1, b2, b3⟩ := e_laws_loop (κ := κ) (kont := fun v10 S11 => some (v10, S11)) hr hs hz ez hp T 0 it_FU 0 S (by omega) (by show T < 100000; omega) h
      exact ⟨S2, by rw [f_X5_laws, e_refusalOfDays h hr, it_bi_some, if_pos q]; exact b1, b2, b3⟩
    · have h5 := h.2.2.2.2 s hs
      have id10 : it_up A 10 0 (A 10 0) = A := by
        funext f g
        simp only [it_up]
        by_cases h : f = 10
        · subst h
          by_cases hg : g = 0
          · simp [hg, upd]
          · simp [hg, upd]
        · simp [h]
      obtain ⟨S2, v', b1, b2⟩ := e_lawsM_loop (κ := κ) (w := A 10 0) (S0 := S) (kont := fun v8 v9 S10 => some (v9, it_up S10 45 11 v8)) hr.2.2.1 hr.1 hs hz (h5.2.1.trans ez) h5.2.2 hp T 0 it_FU 0 (A 10 0) S (by omega) (by show T < 100000; omega) (by rw [id10]; exact QM.start h)
      have b3 := b2.up11 (v := A 10 0)
      rw [up10_up10, id10] at b3
      exact ⟨_, by rw [f_X6_laws, e_toldWrong h hr, it_bi_some, if_pos q, h.1.2.2.2.2.2]; exact b1, b3.fin h, b3.gX⟩
  · refine ⟨sp_rd so sz G x y, fun S h => ⟨S, ?_, h, gM.refl S⟩, fun S h => ⟨S, ?_, h, gX.refl S⟩⟩
    · rw [f_X5_laws, e_refusalOfDays h hr, it_bi_some, if_neg q]
    · rw [f_X6_laws, e_toldWrong h hr, it_bi_some, if_neg q]
end OPS8
