section OPS9
variable {κ : it_KK} {S S' S0 A B : it_SS} {G : Nat} {tb : Nat → Nat → List Nat} {T n : Nat} {by' : Nat → Int32} {ik : Int32} {AK : it_SS} {GK : Nat} {so sz : Nat → Int32} {ce : it_SS}
/-! in which mood one was, how cold -/
def sp_put (A : it_SS) (p : Nat) (o v : Int32) : it_SS := if o = 0 then it_up A 4 p v else it_up A 5 p v
theorem hR.put {p : Nat} {o v : Int32} (hr : hR A G T) (h0 : -99 ≤ v.toInt) (h1 : v.toInt ≤ 99) (h2 : ¬ o = 0 → 0 ≤ v.toInt) : hR (sp_put A p o v) G T := by
  rw [sp_put]
  split
  · exact hr.up4 h0 h1
  · exact hr.up5 (h2 (by assumption)) h1
def sp_st (F : Int32 → Int32) : Nat → Int32 → Int32 → Int32 → Int32 × Int32
  | 0, _, m, l => (m, l)
  | k + 1, v, m, l => if F v = -1 then sp_st F k (v + 1) (m + 1) (if m = 0 then v else l) else sp_st F k (v + 1) m l
theorem i1 : (1 : Int32).toInt = 1 := by decide
theorem e_set {p : Nat} {o v : Int32} (hp : p < 6) (h : PX κ tb T S0 S A) : ∃ S', f_X0_set κ 17 (nI p) o v S = some ((), S') ∧ PX κ tb T S0 S' (sp_put A p o v) := by
  rw [f_X0_set, if_pos (bd_nI hp (by decide)), sp_put, nI_clamp (by omega)]
  split
  · exact ⟨_, rfl, h.up (k := 3) (by decide) (by decide)⟩
  · rw [if_pos (bd_nI hp (by decide))]
    exact ⟨_, rfl, h.up (k := 4) (by decide) (by decide)⟩
theorem lt99 {v : Int32} {k : Nat} (hv : v.toInt + k = 100) : 99 < v ↔ k = 0 := by
  rw [Int32.lt_iff_toInt_lt, i_99]
  omega
theorem e_states_loop {s z p : Nat} {o x4 : Int32} {kont : Int32 → Int32 → it_SS → Option (Int32 × it_SS)} (hr : IR A G tb T n by' ik AK GK so sz) (hs : s < 4) (hz : z ≤ 20) (ez : sz s = nI z) (hp : p < G) : ∀ (k f : Nat) (v m l : Int32) (S : it_SS), v.toInt + k = 100 → -99 ≤ v.toInt → (¬ o = 0 → 0 ≤ v.toInt) → k < f → IX κ S A tb T n by' ik AK so sz ce → ∃ S', lp_X5_states_63 κ (nI s) (nI p) o x4 kont f m l v S = kont (sp_st (fun v => sp_fo tb G p (ce s) z 0 (sp_put A p o v)) k v m l).1 (sp_st (fun v => sp_fo tb G p (ce s) z 0 (sp_put A p o v)) k v m l).2 S' ∧ IX κ S' A tb T n by' ik AK so sz ce ∧ gM S S' := by
  have hG := hr.1.2.1
  intro k
  induction k with
  | zero =>
    intro f v m l S hv hv0 ho hf h
    obtain ⟨f, rfl⟩ : ∃ q, f = q + 1 := ⟨f - 1, by omega⟩
    exact ⟨S, by rw [lp_X5_states_63, if_pos ((lt99 hv).mpr rfl)]; rfl, h, gM.refl S⟩
  | succ k ih =>
    intro f v m l S hv hv0 ho hf h
    obtain ⟨f, rfl⟩ : ∃ q, f = q + 1 := ⟨f - 1, by omega⟩
    have hv1 : (v + 1).toInt = v.toInt + 1 := by rw [i_add (by rw [i1]; omega) (by rw [i1]; omega), i1]
    obtain ⟨S1, a1, a2⟩ := PX.start h
    obtain ⟨S2, b1, b2⟩ := e_set (o := o) (v := v) (show p < 6 by omega) a2
    obtain ⟨S3, c1, c2, c3⟩ := e_firstOtherwise hr hs hp hz ez h b2 (hr.1.put hv0 (by omega) ho)
    rw [lp_X5_states_63, if_neg (fun q => by have := (lt99 hv).mp q; omega), a1, it_bi_some, b1, it_bi_some, c1, it_bi_some, sp_st]
    by_cases q : sp_fo tb G p (ce s) z 0 (sp_put A p o v) = -1
    · rw [if_pos q, if_pos q]
      by_cases m0 : m = 0
      · rw [if_pos m0, if_pos m0]
        obtain ⟨S4, d1, d2, d3⟩ := ih f (v + 1) (m + 1) v S3 (by omega) (by omega) (fun q => by have := ho q; omega) (by omega) c2
        exact ⟨S4, d1, d2, c3.trans d3⟩
      · rw [if_neg m0, if_neg m0]
        obtain ⟨S4, d1, d2, d3⟩ := ih f (v + 1) (m + 1) l S3 (by omega) (by omega) (fun q => by have := ho q; omega) (by omega) c2
        exact ⟨S4, d1, d2, c3.trans d3⟩
    · rw [if_neg q, if_neg q]
      obtain ⟨S4, d1, d2, d3⟩ := ih f (v + 1) m l S3 (by omega) (by omega) (fun q => by have := ho q; omega) (by omega) c2
      exact ⟨S4, d1, d2, c3.trans d3⟩
theorem QM.up48 {p k : Nat} {v : Int32} (hk : k < 2) (q : QM tb T S0 S A G) : QM tb T S0 (it_up S 48 (2 * p + k) v) (it_up A (4 + k) p v) G := ⟨q.1.up48 hk, q.2.1.fk (fK.up (by omega)), q.2.2.trans (fK.up (by omega))⟩
theorem put_put {p : Nat} {o v w : Int32} : sp_put (sp_put A p o v) p o w = sp_put A p o w := by
  rw [sp_put, sp_put, sp_put]
  funext f g
  by_cases h : o = 0
  · rw [if_pos h, if_pos h, if_pos h]
    simp only [it_up]
    by_cases hf : f = 4
    · subst hf
      by_cases hg : g = p
      · simp [hg, upd]
      · simp [hg, upd]
    · simp [hf]
  · rw [if_neg h, if_neg h, if_neg h]
    simp only [it_up]
    by_cases hf : f = 5
    · subst hf
      by_cases hg : g = p
      · simp [hg, upd]
      · simp [hg, upd]
    · simp [hf]
theorem put_id {p : Nat} {o : Int32} : sp_put A p o (if o = 0 then A 4 p else A 5 p) = A := by
  rw [sp_put]
  funext f g
  by_cases h : o = 0
  · rw [if_pos h, if_pos h]
    simp only [it_up]
    by_cases hf : f = 4
    · subst hf
      by_cases hg : g = p
      · simp [hg, upd]
      · simp [hg, upd]
    · simp [hf]
  · rw [if_neg h, if_neg h]
    simp only [it_up]
    by_cases hf : f = 5
    · subst hf
      by_cases hg : g = p
      · simp [hg, upd]
      · simp [hg, upd]
    · simp [hf]
theorem QM.put {p : Nat} {o v w : Int32} (ho : o = 0 ∨ o = 1) (hp : p < 6) (q : QM tb T S0 S (sp_put A p o v) G) : it_bd (2 * nI p + o) 12 = true ∧ QM tb T S0 (it_up S 48 (2 * nI p + o).toNatClampNeg w) (sp_put A p o w) G := by
  rw [← put_put (v := v)]
  rcases ho with rfl | rfl
  · rw [nI_2, Int32.add_zero, nI_clamp (by omega), sp_put]
    exact ⟨bd_nI (by omega) (by decide), q.up48 (k := 0) (by decide)⟩
  · rw [nI_2, nI_1, nI_clamp (by omega), sp_put]
    exact ⟨bd_nI (by omega) (by decide), q.up48 (k := 1) (by decide)⟩
theorem e_statesM_loop {s z p : Nat} {o x4 u : Int32} {c : Nat → Int32} {kont : Int32 → Int32 → Int32 → it_SS → Option (Int32 × it_SS)} (hoo : o = 0 ∨ o = 1) (ht : sp_tb tb T) (hr : hR A G T) (hs : s < 4) (hz : z ≤ 20) (hS : S0 56 s = nI z) (hC : ∀ j, j < 40 → S0 57 (40 * s + j) = c j) (hp : p < G) : ∀ (k f N : Nat) (v m l w : Int32) (S : it_SS), v.toInt + k = 100 → -99 ≤ v.toInt → (¬ o = 0 → 0 ≤ v.toInt) → k < f → m = nI N → N + k < 1000 → (N = 0 ∧ l = -1000 ∨ 0 < N ∧ ¬ l = -1000) → QM tb T S0 S (sp_put A p o w) G → ∃ S' w', lp_X6_states_75 κ (nI s) (nI p) o x4 kont f u m l v S = kont u (sp_st (fun v => sp_fo tb G p c z 0 (sp_put A p o v)) k v m l).1 (sp_st (fun v => sp_fo tb G p c z 0 (sp_put A p o v)) k v m l).2 S' ∧ QM tb T S0 S' (sp_put A p o w') G := by
  have hG := hr.2.1
  intro k
  induction k with
  | zero =>
    intro f N v m l w S hv hv0 ho hf hm hN hl h
    obtain ⟨f, rfl⟩ : ∃ q, f = q + 1 := ⟨f - 1, by omega⟩
    exact ⟨S, w, by rw [lp_X6_states_75, if_pos ((lt99 hv).mpr rfl)]; rfl, h⟩
  | succ k ih =>
    intro f N v m l w S hv hv0 ho hf hm hN hl h
    obtain ⟨f, rfl⟩ : ∃ q, f = q + 1 := ⟨f - 1, by omega⟩
    have hv1 : (v + 1).toInt = v.toInt + 1 := by rw [i_add (by rw [i1]; omega) (by rw [i1]; omega), i1]
    have hvn : ¬ v = -1000 := fun q => by rw [q, show (-1000 : Int32).toInt = -1000 by decide] at hv0; omega
    obtain ⟨g1, g2⟩ := h.put (w := v) hoo (show p < 6 by omega)
    obtain ⟨S3, c1, c2⟩ := e_unlike (κ := κ) ht hs hp hz hS hC g2 (hr.put hv0 (by omega) ho)
    rw [lp_X6_states_75, if_neg (fun q => by have := (lt99 hv).mp q; omega), if_pos g1, c1, it_bi_some, sp_st, Int32.add_zero]
    by_cases q : sp_fo tb G p c z 0 (sp_put A p o v) = -1
    · rw [if_pos q, if_pos q]
      rcases hl with ⟨n0, l0⟩ | ⟨n0, l0⟩
      · rw [if_pos l0, if_pos (show m = 0 by rw [hm, n0]; rfl)]
        exact ih f (N + 1) (v + 1) (m + 1) v _ S3 (by omega) (by omega) (fun q => by have := ho q; omega) (by omega) (by rw [hm, nI_1]) (by omega) (Or.inr ⟨by omega, hvn⟩) c2
      · rw [if_neg l0, if_neg (show ¬ m = 0 by rw [hm]; exact nI_ne0 n0 (by omega))]
        exact ih f (N + 1) (v + 1) (m + 1) l _ S3 (by omega) (by omega) (fun q => by have := ho q; omega) (by omega) (by rw [hm, nI_1]) (by omega) (Or.inr ⟨by omega, l0⟩) c2
    · rw [if_neg q, if_neg q]
      exact ih f N (v + 1) m l _ S3 (by omega) (by omega) (fun q => by have := ho q; omega) (by omega) hm (by omega) hl c2
theorem q_states (x y o w : Int32) : Eqv κ (f_X5_states κ x y o w) (f_X6_states κ x y o w) := Eqv.ask fun A G tb T n by' ik AK GK so sz ce hr => by
  have hG := hr.1.2.1
  by_cases q : sp_rd so sz G x y = 0
  · cases ho : sp_in o 0 1 with
    | false =>
      refine ⟨-7000, fun S h => ⟨S, ?_, h, gM.refl S⟩, fun S h => ⟨S, ?_, h, gX.refl S⟩⟩
      · rw [f_X5_states, e_refusalOfDays h hr, it_bi_some, if_pos q, e_isOutside, it_bi_some, ho]; rfl
      · rw [f_X6_states, e_toldWrong h hr, it_bi_some, if_pos q, e_in, it_bi_some, ho]; rfl
    | true =>
    cases hw : sp_in w 0 1 with
    | false =>
      refine ⟨-7000, fun S h => ⟨S, ?_, h, gM.refl S⟩, fun S h => ⟨S, ?_, h, gX.refl S⟩⟩
      · rw [f_X5_states, e_refusalOfDays h hr, it_bi_some, if_pos q, e_isOutside, it_bi_some, ho, if_pos rfl, if_pos rfl, e_isOutside, it_bi_some, hw]; rfl
      · rw [f_X6_states, e_toldWrong h hr, it_bi_some, if_pos q, e_in, it_bi_some, ho, if_pos rfl, if_neg (by decide), e_in, it_bi_some, hw]; rfl
    | true =>
    obtain ⟨s, z, p, hs, rfl, hz, ez, hp, rfl⟩ := rd_0 hr q
    have hoo := in_01 ho
    obtain ⟨K, lo, hlo, hK, hl0, hl1, hK2⟩ : ∃ (K : Nat) (lo : Int32), lo = (if o = 0 then -99 else 0) ∧ lo.toInt + K = 100 ∧ -99 ≤ lo.toInt ∧ (¬ o = 0 → 0 ≤ lo.toInt) ∧ K ≤ 199 := by
      by_cases o0 : o = 0
      · exact ⟨199, -99, by rw [if_pos o0], by decide, by decide, fun q => absurd o0 q, by decide⟩
      · exact ⟨100, 0, by rw [if_neg o0], by decide, by decide, fun _ => by decide, by decide⟩
    obtain ⟨R, hR'⟩ : ∃ R, R = sp_st (fun v => sp_fo tb G p (ce s) z 0 (sp_put A p o v)) K lo 0 (-1000) := ⟨_, rfl⟩
    refine ⟨if w = 0 then R.1 else R.2, fun S h => ?_, fun S h => ?_⟩
    · obtain ⟨S2, b1, b2, b3⟩ := e_states_loop (κ := κ) (o := o) (x4 := w) (kont := fun v24 v25 S26 => if w = 0 then some (v24, S26) else some (v25, S26)) hr hs hz ez hp K it_FU lo 0 (-1000) S hK hl0 hl1 (by show K < 100000; omega) h
      rw [← hR'] at b1
      refine ⟨S2, ?_, b2, b3⟩
      rw [f_X5_states, e_refusalOfDays h hr, it_bi_some, if_pos q, e_isOutside, it_bi_some, ho, if_pos rfl, if_pos rfl, e_isOutside, it_bi_some, hw, if_pos rfl, if_pos rfl]
      by_cases o0 : o = 0
      · rw [if_pos o0] at hlo ⊢
        subst hlo
        rw [b1]
        split <;> rfl
      · rw [if_neg o0] at hlo ⊢
        subst hlo
        rw [b1]
        split <;> rfl
    · have h5 := h.2.2.2.2 s hs
      obtain ⟨S2, w', b1, b2⟩ := e_statesM_loop (κ := κ) (o := o) (x4 := w) (u := if o = 0 then A 4 p else A 5 p) (S0 := S) (kont := fun v23 v24 v25 S26 => if w = 0 then some (v24, it_up S26 48 (2 * nI p + o).toNatClampNeg v23) else some (v25, it_up S26 48 (2 * nI p + o).toNatClampNeg v23)) hoo hr.2.2.1 hr.1 hs hz (h5.2.1.trans ez) h5.2.2 hp K it_FU 0 lo 0 (-1000) (if o = 0 then A 4 p else A 5 p) S hK hl0 hl1 (by show K < 100000; omega) rfl (by omega) (Or.inl ⟨rfl, rfl⟩) (by rw [put_id]; exact QM.start h)
      rw [← hR'] at b1
      obtain ⟨g1, b3⟩ := b2.put (w := if o = 0 then A 4 p else A 5 p) hoo (show p < 6 by omega)
      rw [put_id] at b3
      have hu : S 48 (2 * nI p + o).toNatClampNeg = if o = 0 then A 4 p else A 5 p := by
        rcases hoo with rfl | rfl
        · rw [nI_2, Int32.add_zero, nI_clamp (by omega), (h.1.2.1 p (by omega)).1, if_pos rfl]
        · rw [nI_2, nI_1, nI_clamp (by omega), (h.1.2.1 p (by omega)).2, if_neg (by decide)]
      refine ⟨_, ?_, b3.fin h, b3.gX⟩
      rw [f_X6_states, e_toldWrong h hr, it_bi_some, if_pos q, e_in, it_bi_some, ho, if_pos rfl, if_neg (by decide), e_in, it_bi_some, hw, if_pos rfl, if_neg (by decide), if_pos g1, hu]
      generalize (if o = 0 then A 4 p else A 5 p) = u at b1 ⊢
      by_cases o0 : o = 0
      · rw [if_pos o0] at hlo ⊢
        subst hlo
        rw [b1]
        split <;> rfl
      · rw [if_neg o0] at hlo ⊢
        subst hlo
        rw [b1]
        split <;> rfl
  · refine ⟨sp_rd so sz G x y - 1000, fun S h => ⟨S, ?_, h, gM.refl S⟩, fun S h => ⟨S, ?_, h, gX.refl S⟩⟩
    · rw [f_X5_states, e_refusalOfDays h hr, it_bi_some, if_neg q]
    · rw [f_X6_states, e_toldWrong h hr, it_bi_some, if_neg q]
end OPS9
