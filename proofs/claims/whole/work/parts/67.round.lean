section ROUND
variable {κ : it_KK} {S S' S0 A B : it_SS} {G : Nat} {tb : Nat → Nat → List Nat} {T n : Nat} {by' : Nat → Int32} {ik : Int32} {AK : it_SS} {GK : Nat} {so sz : Nat → Int32} {ce : it_SS}
/-! what a set of glasses is worth: the mood of all, then what it costs -/
theorem sum_Z (hb : ∀ p, p < 6 → -99 ≤ (B 4 p).toInt ∧ (B 4 p).toInt ≤ 99) : ∀ (k p : Nat) (c : Int32), p + k ≤ 6 → -99 * (p : Int) ≤ c.toInt → c.toInt ≤ 99 * (p : Int) → (sp_sum k p B c).toInt = c.toInt + sZ k p (fun i => (B 4 i).toInt)
  | 0, p, c, _, _, _ => by simp [sp_sum, sZ]
  | k + 1, p, c, h, h1, h2 => by
    have hp := hb p (by omega)
    have e : (c + B 4 p).toInt = c.toInt + (B 4 p).toInt := i_add (by omega) (by omega)
    rw [sp_sum, sum_Z hb k (p + 1) (c + B 4 p) (by omega) (by rw [e]; omega) (by rw [e]; omega), e, sZ]
    omega
def mv (tb : Nat → Nat → List Nat) (G m : Nat) (A : it_SS) (x : Int32) (w : Nat) : Int := (sp_mi tb G m (sp_iced A w x 10)).toInt
theorem mv_Z {w m : Nat} {x : Int32} (hr : hR A G T) (hx : 0 ≤ x.toInt ∧ x.toInt ≤ 99) : mv tb G m A x w = sZ G 0 (fun p => (sp_days tb G m (sp_iced A w x 10) 4 p).toInt) := by
  have hr2 := hR.days (tb := tb) m _ (hr.iced (w := w) (k := 10) hx)
  have hG := hr.2.1
  have h := sum_Z (B := sp_days tb G m (sp_iced A w x 10)) (fun p hp => ⟨(hr2.2.2.2.2.2.1 p hp).1, (hr2.2.2.2.2.2.1 p hp).2.1⟩) G 0 0 (by omega) (by decide) (by decide)
  rw [i_0] at h
  rw [mv, sp_mi, sp_md, h]
  omega
/-- less what one's glasses of a set cost -/
def csn (A : it_SS) (p : Nat) : Nat → Nat → Int
  | 0, _ => 0
  | k + 1, w => csn A p k w - if w.testBit k = true ∧ A 6 k = nI p then 1024 + 2 ^ (9 - k) else 0
theorem csn_cg {p w v : Nat} (h : ∀ g, g < 10 → A 6 g = nI p → w.testBit g = v.testBit g) : ∀ k, k ≤ 10 → csn A p k w = csn A p k v
  | 0, _ => rfl
  | k + 1, hk => by
    rw [csn, csn, csn_cg h k (by omega)]
    by_cases e : A 6 k = nI p
    · rw [h k (by omega) e]
    · rw [if_neg (fun q => e q.2), if_neg (fun q => e q.2)]
theorem cs_Z (hr : hR A G T) {w : Nat} : ∀ k, k ≤ 10 → (∀ g, g < k → w.testBit g = true → ¬ A 6 g = -1) → (cs k w : Int) = - sZ G 0 (fun p => csn A p k w)
  | 0, _, _ => by
    have : sZ G 0 (fun p => csn A p 0 w) = sZ G 0 (fun _ => 0) := sZ_eq G 0 (fun i _ _ => rfl)
    rw [this, sZ_z, cs]
    rfl
  | k + 1, hk, h => by
    have ih := cs_Z hr (w := w) k (by omega) (fun g hg => h g (by omega))
    rw [cs]
    by_cases q : w.testBit k = true
    · obtain ⟨p, hp, hw, -⟩ := hr.p (show k < 10 by omega) (h k (by omega) q)
      have hG := hr.2.1
      have e : sZ G 0 (fun i => csn A i (k + 1) w) = sZ G 0 (fun i => 1 * csn A i k w + if i = p then -(1024 + 2 ^ (9 - k)) else 0) := sZ_eq G 0 (fun i _ hi => by
        rw [csn]
        by_cases ei : i = p
        · rw [if_pos ⟨q, by rw [ei]; exact hw⟩, if_pos ei]
          omega
        · rw [if_neg (fun q2 => ei ((nI_eq (by omega) (by omega)).mp (q2.2.symm.trans hw))), if_neg ei]
          omega)
      rw [e, sZ_lin, sZ_ind G 0 (Nat.zero_le p) (by omega), if_pos q]
      have c2 : ((1024 + 2 ^ (9 - k) : Nat) : Int) = 1024 + 2 ^ (9 - k) := by
        rw [Int.natCast_add, Int.natCast_pow]
        rfl
      rw [Int.natCast_add, c2]
      omega
    · have e : sZ G 0 (fun i => csn A i (k + 1) w) = sZ G 0 (fun i => csn A i k w) := sZ_eq G 0 (fun i _ _ => by
        rw [csn, if_neg (fun q2 => q q2.1)]
        omega)
      rw [e, if_neg q, ← ih]
      rfl
def vv (tb : Nat → Nat → List Nat) (G m : Nat) (A : it_SS) (x : Int32) (w : Nat) : Int := 16384 * mv tb G m A x w - (cst w : Int)
def vp (tb : Nat → Nat → List Nat) (G m : Nat) (A : it_SS) (x : Int32) (p w : Nat) : Int := 16384 * (sp_days tb G m (sp_iced A w x 10) 4 p).toInt + csn A p 10 w
theorem vv_Z {w m : Nat} {x : Int32} (hr : hR A G T) (hx : 0 ≤ x.toInt ∧ x.toInt ≤ 99) (hw : ∀ g, g < 10 → w.testBit g = true → ¬ A 6 g = -1) : vv tb G m A x w = sZ G 0 (fun p => vp tb G m A x p w) := by
  have h1 := cs_Z hr (w := w) 10 (by decide) hw
  have h2 := sZ_lin (f := fun p => (sp_days tb G m (sp_iced A w x 10) 4 p).toInt) (g := fun p => csn A p 10 w) (c := 16384) G 0
  rw [vv, mv_Z hr hx, cst, h1]
  simp only [vp]
  rw [h2]
  omega
theorem vp_cg {p w v m : Nat} {x : Int32} (hr : hR A G T) (hp : p < G) (hx : 0 ≤ x.toInt ∧ x.toInt ≤ 99) (h : ∀ g, g < 10 → A 6 g = nI p → w.testBit g = v.testBit g) : vp tb G m A x p w = vp tb G m A x p v := by
  rw [vp, vp, mood_ap hr hp hx h, csn_cg h 10 (by decide)]
theorem vv_of_mv {m a b : Nat} {x : Int32} (ha : a < 1024) (hb : b < 1024) (h : mv tb G m A x b < mv tb G m A x a) : vv tb G m A x b < vv tb G m A x a := by
  have := cst_lt a ha
  have := cst_lt b hb
  unfold vv
  omega
theorem vv_of_cst {m a b : Nat} {x : Int32} (h : mv tb G m A x a = mv tb G m A x b) : vv tb G m A x b < vv tb G m A x a ↔ cst a < cst b := by
  unfold vv
  omega
theorem vv_inj {m a b : Nat} {x : Int32} (ha : a < 1024) (hb : b < 1024) (h : vv tb G m A x a = vv tb G m A x b) : a = b := by
  have h1 := cst_lt a ha
  have h2 := cst_lt b hb
  refine cst_inj ha hb ?_
  unfold vv at h
  omega
/-- the glasses of a set are there -/
def thr (A : it_SS) (w : Nat) : Prop := ∀ g, g < 10 → w.testBit g = true → ¬ A 6 g = -1
theorem thr_0 : thr A 0 := fun g _ h => by simp at h
/-- the best set of all -/
def bst (tb : Nat → Nat → List Nat) (G m : Nat) (A : it_SS) (x : Int32) (w : Nat) : Prop := w < 1024 ∧ thr A w ∧ ∀ v, v < 1024 → thr A v → vv tb G m A x v ≤ vv tb G m A x w
theorem bst_ex {m : Nat} {x : Int32} : ∃ w, bst tb G m A x w := by
  have h : ∀ k, ∃ w, w < 1024 ∧ thr A w ∧ ∀ v, v < k → v < 1024 → thr A v → vv tb G m A x v ≤ vv tb G m A x w := by
    intro k
    induction k with
    | zero => exact ⟨0, by decide, thr_0, fun v hv => absurd hv (Nat.not_lt_zero _)⟩
    | succ k ih =>
      obtain ⟨w, h1, h2, h3⟩ := ih
      by_cases q : k < 1024 ∧ thr A k ∧ vv tb G m A x w < vv tb G m A x k
      · refine ⟨k, q.1, q.2.1, fun v hv a b => ?_⟩
        by_cases e : v = k
        · subst e
          exact Int.le_refl _
        · exact Int.le_trans (h3 v (by omega) a b) (Int.le_of_lt q.2.2)
      · refine ⟨w, h1, h2, fun v hv a b => ?_⟩
        by_cases e : v = k
        · subst e
          exact Int.not_lt.mp (fun c => q ⟨a, b, c⟩)
        · exact h3 v (by omega) a b
  obtain ⟨w, h1, h2, h3⟩ := h 1024
  exact ⟨w, h1, h2, fun v hv => h3 v hv hv⟩
theorem bst_un {m a b : Nat} {x : Int32} (ha : bst tb G m A x a) (hb : bst tb G m A x b) : a = b :=
  vv_inj (tb := tb) (G := G) (m := m) (A := A) (x := x) ha.1 hb.1 (Int.le_antisymm (hb.2.2 a ha.1 ha.2.1) (ha.2.2 b hb.1 hb.2.1))
/-! the class: one's best set, then all of them -/
theorem e_roundOf_loop {m w0 : Nat} {x x1 : Int32} {kont : Int32 → it_SS → Option (Int32 × it_SS)} (hm : m < 1000) (hr : IR A G tb T n by' ik AK GK so sz) (hx : 0 ≤ x.toInt ∧ x.toInt ≤ 99) (hw0 : w0 < 1024) : ∀ (k s f be : Nat) (S : it_SS), s + k = w0 + 1 → k < f → IX κ S A tb T n by' ik AK so sz ce → be < 1024 → be &&& w0 = be → (∀ v, v < s → v &&& w0 = v → vv tb G m A x v ≤ vv tb G m A x be) →
    ∃ be' S', lp_X5_roundOf_25 κ x1 x (nI m) kont f (nI w0) (nI be) (sp_mi tb G m (sp_iced A be x 10)) (nI s) S = kont (nI be') S' ∧ IX κ S' A tb T n by' ik AK so sz ce ∧ gM S S' ∧ be' < 1024 ∧ be' &&& w0 = be' ∧ ∀ v, v &&& w0 = v → vv tb G m A x v ≤ vv tb G m A x be' := by
  intro k
  induction k with
  | zero =>
    intro s f be S hs hf h hb1 hb2 hb3
    obtain ⟨f, rfl⟩ : ∃ q, f = q + 1 := ⟨f - 1, by omega⟩
    obtain rfl : s = w0 + 1 := by omega
    refine ⟨be, S, by rw [lp_X5_roundOf_25, if_pos (nI_lt (by omega) (by omega))], h, gM.refl S, hb1, hb2, fun v hv => hb3 v ?_ hv⟩
    have : v &&& w0 ≤ w0 := Nat.and_le_right
    omega
  | succ k ih =>
    intro s f be S hs hf h hb1 hb2 hb3
    obtain ⟨f, rfl⟩ : ∃ q, f = q + 1 := ⟨f - 1, by omega⟩
    rw [lp_X5_roundOf_25, if_neg (nI_nlt (by omega) (by omega)), nI_and]
    by_cases q : s &&& w0 = s
    · have hs1 : s < 1024 := by omega
      obtain ⟨S1, a1, a2, a3⟩ := e_moodIfIced (κ := κ) (x := x) hs1 hm h hr hx
      rw [if_pos (by rw [q]), a1, it_bi_some, nI_1]
      have better : vv tb G m A x be < vv tb G m A x s → ∃ be' S', lp_X5_roundOf_25 κ x1 x (nI m) kont f (nI w0) (nI s) (sp_mi tb G m (sp_iced A s x 10)) (nI (s + 1)) S1 = kont (nI be') S' ∧ IX κ S' A tb T n by' ik AK so sz ce ∧ gM S S' ∧ be' < 1024 ∧ be' &&& w0 = be' ∧ ∀ v, v &&& w0 = v → vv tb G m A x v ≤ vv tb G m A x be' := fun hl => by
        obtain ⟨be', S2, b1, b2, b3, b4⟩ := ih (s + 1) f s S1 (by omega) (by omega) a2 hs1 q (fun v hv hvw => by
          by_cases e : v = s
          · subst e
            exact Int.le_refl _
          · exact Int.le_trans (hb3 v (by omega) hvw) (Int.le_of_lt hl))
        exact ⟨be', S2, b1, b2, a3.trans b3, b4⟩
      have worse : ¬ vv tb G m A x be < vv tb G m A x s → ∃ be' S', lp_X5_roundOf_25 κ x1 x (nI m) kont f (nI w0) (nI be) (sp_mi tb G m (sp_iced A be x 10)) (nI (s + 1)) S1 = kont (nI be') S' ∧ IX κ S' A tb T n by' ik AK so sz ce ∧ gM S S' ∧ be' < 1024 ∧ be' &&& w0 = be' ∧ ∀ v, v &&& w0 = v → vv tb G m A x v ≤ vv tb G m A x be' := fun hl => by
        obtain ⟨be', S2, b1, b2, b3, b4⟩ := ih (s + 1) f be S1 (by omega) (by omega) a2 hb1 hb2 (fun v hv hvw => by
          by_cases e : v = s
          · subst e
            exact Int.not_lt.mp hl
          · exact hb3 v (by omega) hvw)
        exact ⟨be', S2, b1, b2, a3.trans b3, b4⟩
      by_cases q1 : sp_mi tb G m (sp_iced A be x 10) < sp_mi tb G m (sp_iced A s x 10)
      · rw [if_pos q1]
        exact better (vv_of_mv hs1 hb1 (Int32.lt_iff_toInt_lt.mp q1))
      · rw [if_neg q1]
        by_cases q2 : sp_mi tb G m (sp_iced A s x 10) = sp_mi tb G m (sp_iced A be x 10)
        · have q3 : mv tb G m A x s = mv tb G m A x be := congrArg Int32.toInt q2
          rw [if_pos q2, e_isAhead hs1 hb1, it_bi_some]
          by_cases q4 : cst s < cst be
          · rw [if_pos q4, if_neg (by decide)]
            exact better ((vv_of_cst q3).mpr q4)
          · rw [if_neg q4, if_pos rfl]
            exact worse (fun c => q4 ((vv_of_cst q3).mp c))
        · rw [if_neg q2]
          refine worse (fun c => ?_)
          have q3 : mv tb G m A x s < mv tb G m A x be := by
            have h1 : ¬ mv tb G m A x be < mv tb G m A x s := fun c => q1 (Int32.lt_iff_toInt_lt.mpr c)
            have h2 : ¬ mv tb G m A x s = mv tb G m A x be := fun c => q2 (Int32.toInt_inj.mp c)
            omega
          have := vv_of_mv hb1 hs1 q3
          omega
    · rw [if_neg (fun c => q ((nI_eq (by have : s &&& w0 ≤ w0 := Nat.and_le_right; omega) (by omega)).mp c)), nI_1]
      exact ih (s + 1) f be S (by omega) (by omega) h hb1 hb2 (fun v hv hvw => hb3 v (by
        have : v ≠ s := fun e => q (by rw [← e]; exact hvw)
        omega) hvw)
theorem e_roundOf {m p : Nat} {x : Int32} (hm : m < 1000) (hr : IR A G tb T n by' ik AK GK so sz) (hx : 0 ≤ x.toInt ∧ x.toInt ≤ 99) (hp : p < G) (h : IX κ S A tb T n by' ik AK so sz ce) : ∃ be S', f_X5_roundOf κ (nI p) x (nI m) S = some (nI be, S') ∧ IX κ S' A tb T n by' ik AK so sz ce ∧ gM S S' ∧ be < 1024 ∧ (∀ g, g < 10 → be.testBit g = true → A 6 g = nI p) ∧ ∀ v, (∀ g, v.testBit g = true → g < 10 ∧ A 6 g = nI p) → vv tb G m A x v ≤ vv tb G m A x be := by
  obtain ⟨w0, o1, o2, o3⟩ := own_w A (nI p)
  obtain ⟨S1, a1, a2, a3⟩ := e_moodIfIced (κ := κ) (w := 0) (m := m) (x := x) (by decide) hm h hr hx
  obtain ⟨be, S2, b1, b2, b3, b4, b5, b6⟩ := e_roundOf_loop (κ := κ) (x1 := nI p) (kont := fun v14 S15 => some (v14, S15)) hm hr hx o2 w0 1 it_FU 0 S1 (by omega) (by show w0 < 100000; omega) a2 (by decide) (Nat.zero_and w0) (fun v hv _ => by
    obtain rfl : v = 0 := by omega
    exact Int.le_refl _)
  refine ⟨be, S2, ?_, b2, a3.trans b3, b4, fun g hg hb => ?_, fun v hv => b6 v (Nat.eq_of_testBit_eq fun i => ?_)⟩
  · rw [f_X5_roundOf, e_glassesOf h.1 hr.1 hp, it_bi_some, o1, show f_X5_moodIfIced κ 0 x (nI m) S = _ from a1, it_bi_some]
    exact b1
  · rw [← b5, Nat.testBit_and, o3 g hg] at hb
    simp only [Bool.and_eq_true, decide_eq_true_eq] at hb
    exact hb.2
  · rw [Nat.testBit_and]
    cases e : v.testBit i with
    | false => rfl
    | true =>
      obtain ⟨h1, h2⟩ := hv i e
      rw [o3 i h1, h2]
      simp
theorem e_round_loop {m : Nat} {x x3 : Int32} {kont : Int32 → it_SS → Option (Int32 × it_SS)} (hm : m < 1000) (hr : IR A G tb T n by' ik AK GK so sz) (hx : 0 ≤ x.toInt ∧ x.toInt ≤ 99) : ∀ (k p f acc : Nat) (S : it_SS), p + k = G → k < f → IX κ S A tb T n by' ik AK so sz ce → acc < 1024 → (∀ g, g < 10 → acc.testBit g = true → ∃ q, q < p ∧ A 6 g = nI q) → (∀ q, q < p → ∀ v, vp tb G m A x q v ≤ vp tb G m A x q acc) →
    ∃ acc' S', lp_X5_round_39 κ x (nI m) x3 kont f (nI acc) (nI p) S = kont (nI acc') S' ∧ IX κ S' A tb T n by' ik AK so sz ce ∧ gM S S' ∧ acc' < 1024 ∧ (∀ g, g < 10 → acc'.testBit g = true → ∃ q, q < G ∧ A 6 g = nI q) ∧ ∀ q, q < G → ∀ v, vp tb G m A x q v ≤ vp tb G m A x q acc' := by
  have hG := hr.1.2.1
  intro k
  induction k with
  | zero =>
    intro p f acc S hp hf h h1 h2 h3
    obtain ⟨f, rfl⟩ : ∃ q, f = q + 1 := ⟨f - 1, by omega⟩
    obtain rfl : p = G := by omega
    exact ⟨acc, S, by rw [lp_X5_round_39, h.1.2.2.1, hr.1.1, if_pos (Int32.le_refl _)], h, gM.refl S, h1, h2, h3⟩
  | succ k ih =>
    intro p f acc S hp hf h h1 h2 h3
    obtain ⟨f, rfl⟩ : ∃ q, f = q + 1 := ⟨f - 1, by omega⟩
    obtain ⟨be, S1, a1, a2, a3, a4, a5, a6⟩ := e_roundOf (κ := κ) (p := p) hm hr hx (by omega) h
    have nn : ∀ {a b : Nat}, a < G → b < G → nI a = nI b → a = b := fun ha hb e => (nI_eq (by omega) (by omega)).mp e
    rw [lp_X5_round_39, h.1.2.2.1, hr.1.1, if_neg (nI_ge (by omega) (by omega)), a1, it_bi_some, nI_or, nI_1]
    obtain ⟨acc', S2, b1, b2, b3, b4⟩ := ih (p + 1) f (acc ||| be) S1 (by omega) (by omega) a2 (Nat.or_lt_two_pow (n := 10) h1 a4) (fun g hg hb => by
      rw [Nat.testBit_or, Bool.or_eq_true] at hb
      rcases hb with hb | hb
      · obtain ⟨q, hq, hw⟩ := h2 g hg hb
        exact ⟨q, by omega, hw⟩
      · exact ⟨p, by omega, a5 g hg hb⟩) (fun q hq v => by
      by_cases e : q = p
      · subst e
        obtain ⟨w0, o1, o2, o3⟩ := own_w A (nI q)
        have c1 : vp tb G m A x q (acc ||| be) = vp tb G m A x q be := vp_cg hr.1 (by omega) hx (fun g hg hw => by
          rw [Nat.testBit_or]
          cases e2 : acc.testBit g with
          | false => rfl
          | true =>
            obtain ⟨q', hq', hw'⟩ := h2 g hg e2
            exact absurd (nn (by omega) (by omega) (hw.symm.trans hw')) (by omega))
        have c2 : vp tb G m A x q v = vp tb G m A x q (v &&& w0) := vp_cg hr.1 (by omega) hx (fun g hg hw => by
          rw [Nat.testBit_and, o3 g hg, hw]
          simp)
        have c0 : ∀ g, (v &&& w0).testBit g = true → g < 10 ∧ A 6 g = nI q := fun g hb => by
          rw [Nat.testBit_and, Bool.and_eq_true] at hb
          have hg : g < 10 := by
            rcases Nat.lt_or_ge g 10 with c | c
            · exact c
            · have := Nat.testBit_lt_two_pow (x := w0) (i := g) (Nat.lt_of_lt_of_le o2 (Nat.pow_le_pow_right (n := 2) (by decide) c))
              rw [this] at hb
              exact absurd hb.2 (by decide)
          have h3 := hb.2
          rw [o3 g hg] at h3
          exact ⟨hg, of_decide_eq_true h3⟩
        have c3 := a6 (v &&& w0) c0
        have m1 : ∀ g, A 6 g = nI q → ¬ A 6 g = -1 := fun g hw => by rw [hw]; exact nI_nm1 (by omega)
        rw [vv_Z hr.1 hx (fun g _ hb => m1 g (c0 g hb).2), vv_Z hr.1 hx (fun g hg hb => m1 g (a5 g hg hb))] at c3
        have c4 := sZ_one (f := fun i => vp tb G m A x i (v &&& w0)) (g := fun i => vp tb G m A x i be) (q := q) G 0 (Nat.zero_le q) (by omega) (fun i _ hi hne => vp_cg hr.1 (by omega) hx (fun g hg hw => by
          have n1 : (v &&& w0).testBit g = false := by
            cases e2 : (v &&& w0).testBit g with
            | false => rfl
            | true => exact absurd (nn (by omega) (by omega) (hw.symm.trans (c0 g e2).2)) hne
          have n2 : be.testBit g = false := by
            cases e2 : be.testBit g with
            | false => rfl
            | true => exact absurd (nn (by omega) (by omega) (hw.symm.trans (a5 g hg e2))) hne
          rw [n1, n2]))
        rw [c1, c2]
        omega
      · have c1 : vp tb G m A x q (acc ||| be) = vp tb G m A x q acc := vp_cg hr.1 (by omega) hx (fun g hg hw => by
          rw [Nat.testBit_or]
          cases e2 : be.testBit g with
          | false => rw [Bool.or_false]
          | true => exact absurd (nn (by omega) (by omega) (hw.symm.trans (a5 g hg e2))) e)
        rw [c1]
        exact h3 q (by omega) v)
    exact ⟨acc', S2, b1, b2, a3.trans b3, b4⟩
theorem e_round {m : Nat} {x x3 : Int32} {kont : Int32 → it_SS → Option (Int32 × it_SS)} (hm : m < 1000) (hr : IR A G tb T n by' ik AK GK so sz) (hx : 0 ≤ x.toInt ∧ x.toInt ≤ 99) (h : IX κ S A tb T n by' ik AK so sz ce) : ∃ w S', lp_X5_round_39 κ x (nI m) x3 kont it_FU 0 0 S = kont (nI w) S' ∧ IX κ S' A tb T n by' ik AK so sz ce ∧ gM S S' ∧ bst tb G m A x w := by
  have hG := hr.1.2.1
  obtain ⟨w, S', a1, a2, a3, a4, a5, a6⟩ := e_round_loop (κ := κ) (x3 := x3) (kont := kont) hm hr hx G 0 it_FU 0 S (by omega) (by show G < 100000; omega) h (by decide) (fun g _ hb => by simp at hb) (fun q hq => absurd hq (Nat.not_lt_zero _))
  have ht : thr A w := fun g hg hb => by
    obtain ⟨q, hq, hw⟩ := a5 g hg hb
    rw [hw]
    exact nI_nm1 (by omega)
  refine ⟨w, S', a1, a2, a3, a4, ht, fun v _ hv => ?_⟩
  rw [vv_Z hr.1 hx hv, vv_Z hr.1 hx ht]
  exact sZ_le G 0 (fun i _ hi => a6 i (by omega) v)
end ROUND
