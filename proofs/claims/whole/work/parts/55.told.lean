section OPS7
variable {κ : it_KK} {S S' S0 A B : it_SS} {G : Nat} {tb : Nat → Nat → List Nat} {T n : Nat} {by' : Nat → Int32} {ik : Int32} {AK : it_SS} {GK : Nat} {so sz : Nat → Int32} {ce : it_SS}
/-! told days -/
def sp_rs (so sz : Nat → Int32) (x : Int32) : Int32 := if sp_in x 0 3 = true then (if so x.toNatClampNeg = -1 then -11 else if sz x.toNatClampNeg ≤ 20 then 0 else -2) else -2
def sp_rd (so sz : Nat → Int32) (G : Nat) (x y : Int32) : Int32 := if sp_rs so sz x = 0 then (if it_bd y G = true then 0 else -5) else sp_rs so sz x
theorem e_isNoSheet (κ : it_KK) (x : Int32) (S : it_SS) : f_X5_isNoSheet κ x S = some (if sp_in x 0 3 = true then 0 else 1, S) := by
  rw [f_X5_isNoSheet, e_isOutside, it_bi_some]
  cases sp_in x 0 3 <;> rfl
theorem in_3 {x : Int32} (h : sp_in x 0 3 = true) : ∃ s, s < 4 ∧ x = nI s ∧ it_bd x 4 = true ∧ x.toNatClampNeg = s := by
  obtain ⟨s, hs, rfl⟩ := in_nI (m := 3) (by decide) h
  exact ⟨s, by omega, rfl, bd_nI (by omega) (by decide), nI_clamp (by omega)⟩
theorem e_refusalOfSheet {x : Int32} (h : IX κ S A tb T n by' ik AK so sz ce) : f_X5_refusalOfSheet κ x S = some (sp_rs so sz x, S) := by
  rw [f_X5_refusalOfSheet, e_isNoSheet, it_bi_some, sp_rs]
  cases hi : sp_in x 0 3 with
  | false => rfl
  | true =>
    obtain ⟨s, hs, hx, hb, hc⟩ := in_3 hi
    have h5 := h.2.2.2.2 s hs
    rw [if_pos rfl, if_pos rfl, if_pos hb, hc, h5.1, h5.2.1, if_pos rfl]
    split
    · rfl
    · split <;> rfl
theorem e_sheetWrong {x : Int32} (h : IM S A G tb T n by' ik AK GK so sz ce) : f_X6_sheetWrong κ x S = some (sp_rs so sz x, S) := by
  rw [f_X6_sheetWrong, e_in, it_bi_some, sp_rs]
  cases hi : sp_in x 0 3 with
  | false => rfl
  | true =>
    obtain ⟨s, hs, hx, hb, hc⟩ := in_3 hi
    have h5 := h.2.2.2.2 s hs
    rw [if_pos rfl, if_neg (by decide), if_pos hb, hc, h5.1, h5.2.1, if_pos rfl]
    split
    · rfl
    · split <;> rfl
theorem e_refusalOfDays {x y : Int32} (h : IX κ S A tb T n by' ik AK so sz ce) (hr : IR A G tb T n by' ik AK GK so sz) : f_X5_refusalOfDays κ x y S = some (sp_rd so sz G x y, S) := by
  rw [f_X5_refusalOfDays, e_refusalOfSheet h, it_bi_some, sp_rd]
  by_cases q : sp_rs so sz x = 0
  · rw [if_pos q, if_pos q, e_hasGuest (h.g hr) hr.1.2.1, it_bi_some]
    cases it_bd y G <;> rfl
  · rw [if_neg q, if_neg q]
theorem e_toldWrong {x y : Int32} (h : IM S A G tb T n by' ik AK GK so sz ce) (hr : IR A G tb T n by' ik AK GK so sz) : f_X6_toldWrong κ x y S = some (sp_rd so sz G x y, S) := by
  rw [f_X6_toldWrong, e_sheetWrong h, it_bi_some, sp_rd]
  by_cases q : sp_rs so sz x = 0
  · rw [if_pos q, if_pos q, e_isOne (h.g hr) hr.1.2.1, it_bi_some]
    cases it_bd y G <;> rfl
  · rw [if_neg q, if_neg q]
theorem rs_0 {x : Int32} (hr : IR A G tb T n by' ik AK GK so sz) (h : sp_rs so sz x = 0) : ∃ s z, s < 4 ∧ x = nI s ∧ z ≤ 20 ∧ sz s = nI z := by
  rw [sp_rs] at h
  cases hi : sp_in x 0 3 with
  | false =>
    rw [hi, if_neg (by decide)] at h
    exact absurd h (by decide)
  | true =>
    obtain ⟨s, hs, hx, hb, hc⟩ := in_3 hi
    obtain ⟨z, hz, ez⟩ := (hr.2.2.2.2.2.2.1 s hs).2
    rw [hi, if_pos rfl, hc] at h
    refine ⟨s, z, hs, hx, ?_, ez⟩
    split at h
    · exact absurd h (by decide)
    · split at h
      · rename_i q
        rw [ez] at q
        exact (nI_leI (b := 20) (by omega) (by decide)).mp q
      · exact absurd h (by decide)
theorem rd_0 {x y : Int32} (hr : IR A G tb T n by' ik AK GK so sz) (h : sp_rd so sz G x y = 0) : ∃ s z p, s < 4 ∧ x = nI s ∧ z ≤ 20 ∧ sz s = nI z ∧ p < G ∧ y = nI p := by
  rw [sp_rd] at h
  split at h
  · rename_i q
    obtain ⟨s, z, a, b, c, d⟩ := rs_0 hr q
    split at h
    · rename_i q2
      obtain ⟨p, hp, e⟩ := bd_of q2
      exact ⟨s, z, p, a, b, c, d, hp, e⟩
    · exact absurd h (by decide)
  · rename_i q
    exact absurd h q
/-- the first day that is otherwise -/
def sp_fo (tb : Nat → Nat → List Nat) (G p : Nat) (c : Nat → Int32) : Nat → Nat → it_SS → Int32
  | 0, _, _ => -1
  | k + 1, i, B => if sp_day tb G B 4 p = c i then sp_fo tb G p c k (i + 1) (sp_day tb G B) else nI i
theorem e_fo_loop {s p z : Nat} {c : Nat → Int32} {kont : it_SS → Option (Int32 × it_SS)} (hk : ∀ S, kont S = some (-1, S)) (ht : sp_tb tb T) (hs : s < 4) (hp : p < G) (hz : z ≤ 40) (hS : S0 (it_el 2 s) 1 = nI z) (hC : ∀ j, j < 40 → S0 (it_el 2 s + 1) j = c j) : ∀ (k i n : Nat) (S B : it_SS), i + k = z → k < n → PX κ tb T S0 S B → hR B G T → ∃ S' B', lp_X5_firstOtherwise_10 κ (nI s) (nI p) kont n (nI i) S = some (sp_fo tb G p c k i B, S') ∧ PX κ tb T S0 S' B' := by
  have hel := it_el2_eq s
  have hsc : (nI s).toNatClampNeg = s := nI_clamp (by omega)
  intro k
  induction k with
  | zero =>
    intro i n S B hi hn hp' hr
    obtain ⟨n, rfl⟩ : ∃ q, n = q + 1 := ⟨n - 1, by omega⟩
    obtain rfl : i = z := by omega
    exact ⟨S, B, by rw [lp_X5_firstOtherwise_10, hsc, hp'.2.2 (it_el 2 s) (by omega) (by omega) (by omega), hS, if_pos (Int32.le_refl _), hk]; rfl, hp'⟩
  | succ k ih =>
    intro i n S B hi hn hp' hr
    obtain ⟨n, rfl⟩ : ∃ q, n = q + 1 := ⟨n - 1, by omega⟩
    have hG := hr.2.1
    obtain ⟨S1, a1, a2⟩ := hp'.day (κ := κ) ht hr
    rw [lp_X5_firstOtherwise_10, hsc, hp'.2.2 (it_el 2 s) (by omega) (by omega) (by omega), hS, if_neg (nI_ge (by omega) (by omega)), a1, it_bi_some, if_pos (bd_nI (show p < 6 by omega) (by decide)), if_pos (bd_nI (show i < 40 by omega) (by decide)), nI_clamp (show p < 2 ^ 31 by omega), nI_clamp (show i < 2 ^ 31 by omega), (a2.1.1 p (by omega)).2.2.1, a2.2.2 (it_el 2 s + 1) (by omega) (by omega) (by omega), hC i (by omega), nI_1, sp_fo]
    by_cases q : sp_day tb G B 4 p = c i
    · rw [if_pos q, if_pos q]
      exact ih (i + 1) n S1 _ (by omega) (by omega) a2 hr.day
    · rw [if_neg q, if_neg q]
      exact ⟨S1, _, rfl, a2⟩
theorem e_firstOtherwise {s p z : Nat} (hr0 : IR A G tb T n by' ik AK GK so sz) (hs : s < 4) (hp : p < G) (hz : z ≤ 20) (ez : sz s = nI z) (h : IX κ S0 A tb T n by' ik AK so sz ce) (hp' : PX κ tb T S0 S B) (hr : hR B G T) : ∃ S', f_X5_firstOtherwise κ (nI s) (nI p) S = some (sp_fo tb G p (ce s) z 0 B, S') ∧ IX κ S' A tb T n by' ik AK so sz ce ∧ gM S0 S' := by
  have h5 := h.2.2.2.2 s hs
  obtain ⟨S', B', e1, e2⟩ := e_fo_loop (κ := κ) (c := ce s) (kont := fun S8 => some (-1, S8)) (fun _ => rfl) hr0.2.2.1 hs hp (show z ≤ 40 by omega) (h5.2.1.trans ez) h5.2.2 z 0 it_FU S B (by omega) (by show z < 100000; omega) hp' hr
  exact ⟨S', by rw [f_X5_firstOtherwise, if_pos (bd_nI hs (by decide))]; exact e1, e2.fin h, e2.gM⟩
theorem e_un_loop {s p z : Nat} {c : Nat → Int32} {kont : Int32 → it_SS → Option (Int32 × it_SS)} (ht : sp_tb tb T) (hs : s < 4) (hp : p < G) (hz : z ≤ 40) (hS : S0 56 s = nI z) (hC : ∀ j, j < 40 → S0 57 (40 * s + j) = c j) : ∀ (k i n : Nat) (S B : it_SS), i + k = z → k + 1 < n → PM tb T S0 S A B G → hR B G T → sm A B → ∃ S' B', lp_X6_unlike_9 κ (nI s) (nI p) kont n (-1) (nI i) S = kont (sp_fo tb G p c k i B) S' ∧ PM tb T S0 S' A B' G ∧ sm A B' := by
  have hsc : (nI s).toNatClampNeg = s := nI_clamp (by omega)
  intro k
  induction k with
  | zero =>
    intro i n S B hi hn hp' hr hsm
    obtain ⟨n, rfl⟩ : ∃ q, n = q + 1 := ⟨n - 1, by omega⟩
    obtain rfl : i = z := by omega
    exact ⟨S, B, by rw [lp_X6_unlike_9, if_pos (bd_nI hs (by decide)), hsc, hp'.2.2.2.1 56 (by omega), hS, if_pos (Int32.le_refl _)]; rfl, hp', hsm⟩
  | succ k ih =>
    intro i n S B hi hn hp' hr hsm
    obtain ⟨n, rfl⟩ : ∃ q, n = q + 1 := ⟨n - 1, by omega⟩
    have hG := hr.2.1
    obtain ⟨S1, a1, a2⟩ := hp'.day (κ := κ) ht hr
    have e40 : (40 : Int32) * nI s + nI i = nI (40 * s + i) := by rw [show (40 : Int32) = nI 40 from rfl, pk_mul, nI_add]
    rw [lp_X6_unlike_9, if_pos (bd_nI hs (by decide)), hsc, hp'.2.2.2.1 56 (by omega), hS, if_neg (nI_ge (by omega) (by omega)), if_pos rfl, a1, it_bi_some, e40, if_pos (bd_nI (show 40 * s + i < 160 by omega) (by decide)), nI_2, if_pos (bd_nI (show 2 * p < 12 by omega) (by decide)), nI_clamp (show 40 * s + i < 2 ^ 31 by omega), nI_clamp (show 2 * p < 2 ^ 31 by omega), (a2.2.1.2.1 p (by omega)).1, a2.2.2.2.1 57 (by omega), hC i (by omega), nI_1, sp_fo]
    by_cases q : sp_day tb G B 4 p = c i
    · rw [if_pos q.symm, if_pos q]
      exact ih (i + 1) n S1 _ (by omega) (by omega) a2 hr.day hsm.day
    · rw [if_neg (fun q' => q q'.symm), if_neg q]
      obtain ⟨n, rfl⟩ : ∃ q, n = q + 1 := ⟨n - 1, by omega⟩
      refine ⟨S1, _, ?_, a2, hsm.day⟩
      rw [lp_X6_unlike_9, if_pos (bd_nI hs (by decide)), if_neg (nI_nm1 (p := i) (by omega))]
      split <;> rfl
theorem e_unlike {s p z : Nat} {c : Nat → Int32} (ht : sp_tb tb T) (hs : s < 4) (hp : p < G) (hz : z ≤ 20) (hS : S0 56 s = nI z) (hC : ∀ j, j < 40 → S0 57 (40 * s + j) = c j) (hq : QM tb T S0 S B G) (hr : hR B G T) : ∃ S', f_X6_unlike κ (nI s) (nI p) S = some (sp_fo tb G p c z 0 B, S') ∧ QM tb T S0 S' B G := by
  obtain ⟨S1, a1, a2⟩ := hq.keeps (κ := κ)
  obtain ⟨S2, B', b1, b2, b3⟩ := e_un_loop (κ := κ) (kont := fun v11 S12 => it_bi (f_X6_lays κ S12) (fun _ S13 => some (v11, S13))) ht hs hp (show z ≤ 40 by omega) hS hC z 0 it_FU S1 B (by omega) (by show z + 1 < 100000; omega) a2 hr (sm.refl B)
  obtain ⟨S3, c1, c2⟩ := b2.lays (κ := κ) b3
  refine ⟨S3, ?_, c2⟩
  rw [f_X6_unlike, a1, it_bi_some]
  rw [show lp_X6_unlike_9 κ (nI s) (nI p) _ it_FU (-1) 0 S1 = _ from b1, c1, it_bi_some]
theorem q_judge (x y : Int32) : Eqv κ (f_X5_judge κ x y) (f_X6_judge κ x y) := Eqv.ask fun A G tb T n by' ik AK GK so sz ce hr => by
  by_cases q : sp_rd so sz G x y = 0
  · obtain ⟨s, z, p, hs, rfl, hz, ez, hp, rfl⟩ := rd_0 hr q
    refine ⟨sp_fo tb G p (ce s) z 0 A, fun S h => ?_, fun S h => ?_⟩
    · obtain ⟨S1, a1, a2⟩ := PX.start h
      obtain ⟨S2, b1, b2, b3⟩ := e_firstOtherwise hr hs hp hz ez h a2 hr.1
      exact ⟨S2, by rw [f_X5_judge, e_refusalOfDays h hr, it_bi_some, if_pos q, a1, it_bi_some, b1, it_bi_some], b2, b3⟩
    · have h5 := h.2.2.2.2 s hs
      obtain ⟨S2, b1, b2⟩ := e_unlike (κ := κ) hr.2.2.1 hs hp hz (h5.2.1.trans ez) h5.2.2 (QM.start h) hr.1
      exact ⟨S2, by rw [f_X6_judge, e_toldWrong h hr, it_bi_some, if_pos q, b1, it_bi_some], b2.fin h, b2.gX⟩
  · refine ⟨sp_rd so sz G x y, fun S h => ⟨S, ?_, h, gM.refl S⟩, fun S h => ⟨S, ?_, h, gX.refl S⟩⟩
    · rw [f_X5_judge, e_refusalOfDays h hr, it_bi_some, if_neg q]
    · rw [f_X6_judge, e_toldWrong h hr, it_bi_some, if_neg q]
/-! which fit -/
def sp_fit (c : Nat → Bool) (F : Nat → Int32) : Nat → Nat → Int32 → Int32
  | 0, _, b => b
  | k + 1, g, b => sp_fit c F k (g + 1) (if c g = true then (if F g = -1 then b ||| (1 <<< (nI g &&& 31)) else b) else b)
theorem e_who_loop {s z : Nat} {kont : Int32 → it_SS → Option (Int32 × it_SS)} (hr : IR A G tb T n by' ik AK GK so sz) (hs : s < 4) (hz : z ≤ 20) (ez : sz s = nI z) : ∀ (k p f : Nat) (b : Int32) (S : it_SS), p + k = G → k < f → IX κ S A tb T n by' ik AK so sz ce → ∃ S', lp_X5_who_17 κ (nI s) kont f b (nI p) S = kont (sp_fit (fun _ => true) (fun p => sp_fo tb G p (ce s) z 0 A) k p b) S' ∧ IX κ S' A tb T n by' ik AK so sz ce ∧ gM S S' := by
  have hG := hr.1.2.1
  intro k
  induction k with
  | zero =>
    intro p f b S hp hf h
    obtain ⟨f, rfl⟩ : ∃ q, f = q + 1 := ⟨f - 1, by omega⟩
    obtain rfl : p = G := by omega
    exact ⟨S, by rw [lp_X5_who_17, h.g hr, if_pos (Int32.le_refl _)]; rfl, h, gM.refl S⟩
  | succ k ih =>
    intro p f b S hp hf h
    obtain ⟨f, rfl⟩ : ∃ q, f = q + 1 := ⟨f - 1, by omega⟩
    obtain ⟨S1, a1, a2⟩ := PX.start h
    obtain ⟨S2, b1, b2, b3⟩ := e_firstOtherwise hr hs (show p < G by omega) hz ez h a2 hr.1
    rw [lp_X5_who_17, h.g hr, if_neg (nI_ge (by omega) (by omega)), a1, it_bi_some, b1, it_bi_some, nI_1, sp_fit, if_pos rfl]
    by_cases q : sp_fo tb G p (ce s) z 0 A = -1
    · rw [if_pos q, if_pos q]
      obtain ⟨S3, c1, c2, c3⟩ := ih (p + 1) f (b ||| (1 <<< (nI p &&& 31))) S2 (by omega) (by omega) b2
      exact ⟨S3, c1, c2, b3.trans c3⟩
    · rw [if_neg q, if_neg q]
      obtain ⟨S3, c1, c2, c3⟩ := ih (p + 1) f b S2 (by omega) (by omega) b2
      exact ⟨S3, c1, c2, b3.trans c3⟩
theorem e_whoM_loop {s z : Nat} {c : Nat → Int32} {kont : Int32 → it_SS → Option (Int32 × it_SS)} (ht : sp_tb tb T) (hr : hR A G T) (hs : s < 4) (hz : z ≤ 20) (hS : S0 56 s = nI z) (hC : ∀ j, j < 40 → S0 57 (40 * s + j) = c j) : ∀ (k p f : Nat) (b : Int32) (S : it_SS), p + k = G → k < f → QM tb T S0 S A G → ∃ S', lp_X6_who_17 κ (nI s) kont f b (nI p) S = kont (sp_fit (fun _ => true) (fun p => sp_fo tb G p c z 0 A) k p b) S' ∧ QM tb T S0 S' A G := by
  have hG := hr.2.1
  intro k
  induction k with
  | zero =>
    intro p f b S hp hf h
    obtain ⟨f, rfl⟩ : ∃ q, f = q + 1 := ⟨f - 1, by omega⟩
    obtain rfl : p = G := by omega
    exact ⟨S, by rw [lp_X6_who_17, h.1.2.2.2.1, hr.1, if_pos (Int32.le_refl _)]; rfl, h⟩
  | succ k ih =>
    intro p f b S hp hf h
    obtain ⟨f, rfl⟩ : ∃ q, f = q + 1 := ⟨f - 1, by omega⟩
    obtain ⟨S2, b1, b2⟩ := e_unlike (κ := κ) ht hs (show p < G by omega) hz hS hC h hr
    rw [lp_X6_who_17, h.1.2.2.2.1, hr.1, if_neg (nI_ge (by omega) (by omega)), b1, it_bi_some, nI_1, sp_fit, if_pos rfl]
    by_cases q : sp_fo tb G p c z 0 A = -1
    · rw [if_pos q, if_pos q]
      exact ih (p + 1) f _ S2 (by omega) (by omega) b2
    · rw [if_neg q, if_neg q, or_z]
      exact ih (p + 1) f _ S2 (by omega) (by omega) b2
theorem q_who (x : Int32) : Eqv κ (f_X5_who κ x) (f_X6_who κ x) := Eqv.ask fun A G tb T n by' ik AK GK so sz ce hr => by
  have hG := hr.1.2.1
  by_cases q : sp_rs so sz x = 0
  · obtain ⟨s, z, hs, rfl, hz, ez⟩ := rs_0 hr q
    refine ⟨sp_fit (fun _ => true) (fun p => sp_fo tb G p (ce s) z 0 A) G 0 0, fun S h => ?_, fun S h => ?_⟩
    · obtain ⟨S2, b1, b2, b3⟩ := e_who_loop (κ := κ) (kont := fun v10 S11 => some (v10, S11)) hr hs hz ez G 0 it_FU 0 S (by omega) (by show G < 100000; omega) h
      exact ⟨S2, by rw [f_X5_who, e_refusalOfSheet h, it_bi_some, if_pos q]; exact b1, b2, b3⟩
    · have h5 := h.2.2.2.2 s hs
      obtain ⟨S2, b1, b2⟩ := e_whoM_loop (κ := κ) (kont := fun v10 S11 => some (v10, S11)) hr.2.2.1 hr.1 hs hz (h5.2.1.trans ez) h5.2.2 G 0 it_FU 0 S (by omega) (by show G < 100000; omega) (QM.start h)
      exact ⟨S2, by rw [f_X6_who, e_sheetWrong h, it_bi_some, if_pos q]; exact b1, b2.fin h, b2.gX⟩
  · refine ⟨sp_rs so sz x, fun S h => ⟨S, ?_, h, gM.refl S⟩, fun S h => ⟨S, ?_, h, gX.refl S⟩⟩
    · rw [f_X5_who, e_refusalOfSheet h, it_bi_some, if_neg q]
    · rw [f_X6_who, e_sheetWrong h, it_bi_some, if_neg q]
/-! of which kind -/
def sp_kk (A : it_SS) (p : Nat) (a b : Int32) : it_SS := it_up (it_up A 2 p a) 3 p b
theorem kk_kk {p : Nat} {a b a' b' : Int32} : it_up (it_up (sp_kk A p a b) 2 p a') 3 p b' = sp_kk A p a' b' := by
  funext f g
  simp only [sp_kk, it_up]
  by_cases h2 : f = 2
  · subst h2
    by_cases hg : g = p
    · simp [hg, upd]
    · simp [hg, upd]
  · by_cases h3 : f = 3
    · subst h3
      by_cases hg : g = p
      · simp [hg, upd]
      · simp [hg, upd]
    · simp [h2, h3]
theorem kk_id {p : Nat} : sp_kk A p (A 2 p) (A 3 p) = A := by
  funext f g
  simp only [sp_kk, it_up]
  by_cases h2 : f = 2
  · subst h2
    by_cases hg : g = p
    · simp [hg, upd]
    · simp [hg, upd]
  · by_cases h3 : f = 3
    · subst h3
      by_cases hg : g = p
      · simp [hg, upd]
      · simp [hg, upd]
    · simp [h2, h3]
theorem kk_2 {p : Nat} {a : Int32} : it_up A 2 p a = sp_kk A p a (A 3 p) := by
  funext f g
  simp only [sp_kk, it_up]
  by_cases h2 : f = 2
  · subst h2
    by_cases hg : g = p
    · simp [hg, upd]
    · simp [hg, upd]
  · by_cases h3 : f = 3
    · subst h3
      by_cases hg : g = p
      · simp [hg, upd]
      · simp [hg, upd]
    · simp [h2, h3]
theorem kk_3 {p : Nat} {b : Int32} : it_up A 3 p b = sp_kk A p (A 2 p) b := by
  funext f g
  simp only [sp_kk, it_up]
  by_cases h2 : f = 2
  · subst h2
    by_cases hg : g = p
    · simp [hg, upd]
    · simp [hg, upd]
  · by_cases h3 : f = 3
    · subst h3
      by_cases hg : g = p
      · simp [hg, upd]
      · simp [hg, upd]
    · simp [h2, h3]
theorem hR.kk {p : Nat} {a b : Int32} (hr : hR A G T) (hb : 0 ≤ b.toInt ∧ b.toInt ≤ 9) : hR (sp_kk A p a b) G T := by
  obtain ⟨a1, a2, a3, a4, a5, a6, a7⟩ := hr
  have e : ∀ f, f ≠ 2 → f ≠ 3 → sp_kk A p a b f = A f := fun f h2 h3 => by rw [sp_kk, it_up_ne h3, it_up_ne h2]
  refine ⟨by rw [e 1 (by decide) (by decide)]; exact a1, a2, fun j hj => by rw [e 6 (by decide) (by decide)]; exact a3 j hj, by rw [e 10 (by decide) (by decide)]; exact a4, fun q hq => ?_, fun q hq => by rw [e 4 (by decide) (by decide), e 5 (by decide) (by decide)]; exact a6 q hq, fun j hj => by rw [e 7 (by decide) (by decide), e 8 (by decide) (by decide)]; exact a7 j hj⟩
  rw [sp_kk, it_up_eq, upd, it_up_ne (by decide)]
  split
  · exact hb
  · exact a5 q hq
end OPS7
