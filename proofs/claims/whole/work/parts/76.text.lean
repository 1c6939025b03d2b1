section TEXT
variable {κ : it_KK} {S S' S0 A B : it_SS} {G : Nat} {tb : Nat → Nat → List Nat} {T n : Nat} {by' : Nat → Int32} {ik : Int32} {AK : it_SS} {GK : Nat} {so sz : Nat → Int32} {ce : it_SS}
/-! text() -/
theorem IX.tx {κ' : it_KK} {tb' : Nat → Nat → List Nat} {T' : Nat} (h : IX κ S A tb T n by' ik AK so sz ce) (hf : ∀ a, a ≠ 1 → a ≠ 5 → a ≠ 7 → a ≠ 8 → a < 43 → S' a = S a) (ht : tX κ' S' tb' T') (h5 : S' 5 1 = nI 0) : IX κ' S' A tb' T' 0 by' ik AK so sz ce := by
  obtain ⟨h1, h2, h3, h4, h7⟩ := h
  refine ⟨h1.cg (fun k hk => hf _ (by omega) (by omega) (by omega) (by omega) (by omega)), ht, ⟨h5, fun j hj => absurd hj (Nat.not_lt_zero _)⟩, ⟨by rw [hf 0 (by omega) (by omega) (by omega) (by omega) (by omega)]; exact h4.1, fun q => (h4.2 q).cg (fun k hk => hf _ (by omega) (by omega) (by omega) (by omega) (by omega))⟩, fun s hs => ?_⟩
  have := h7 s hs
  rw [it_el2_eq] at this ⊢
  rw [hf _ (by omega) (by omega) (by omega) (by omega) (by omega), hf _ (by omega) (by omega) (by omega) (by omega) (by omega)]
  exact this
theorem IM.tx {tb' : Nat → Nat → List Nat} {T' : Nat} (h : IM S A G tb T n by' ik AK GK so sz ce) (hf : ∀ a, 45 < a → a < 60 → a ≠ 51 → a ≠ 52 → S' a = S a) (h45 : ∀ j, j = 0 ∨ j = 5 ∨ j = 11 ∨ j = 12 → S' 45 j = S 45 j) (ht : tM S' tb' T') (h7 : S' 45 7 = nI 0) : IM S' A G tb' T' 0 by' ik AK GK so sz ce := by
  obtain ⟨h1, h2, h3, h4, h5⟩ := h
  refine ⟨h1.cg (fun j hj => h45 j (by omega)) (hf 46 (by omega) (by omega) (by omega) (by omega)) (hf 47 (by omega) (by omega) (by omega) (by omega)) (hf 48 (by omega) (by omega) (by omega) (by omega)) (hf 49 (by omega) (by omega) (by omega) (by omega)), ht, ⟨h7, fun j hj => absurd hj (Nat.not_lt_zero _), fun j hj => by rw [hf 59 (by omega) (by omega) (by omega) (by omega)]; exact h3.2.2 j hj⟩, ⟨by rw [h45 12 (by omega)]; exact h4.1, fun q => ?_⟩, fun s hs => by rw [hf 55 (by omega) (by omega) (by omega) (by omega), hf 56 (by omega) (by omega) (by omega) (by omega), hf 57 (by omega) (by omega) (by omega) (by omega)]; exact h5 s hs⟩
  obtain ⟨i1, i2, i3⟩ := h4.2 q
  exact ⟨fun p hp => by rw [hf 53 (by omega) (by omega) (by omega) (by omega)]; exact i1 p hp, fun j hj => by rw [hf 53 (by omega) (by omega) (by omega) (by omega)]; exact i2 j hj, by rw [hf 54 (by omega) (by omega) (by omega) (by omega)]; exact i3⟩
theorem hR.tx {T' : Nat} (h : hR A G T) (hT : T ≤ T') : hR A G T' := by
  obtain ⟨a1, a2, a3, ⟨t, ht, a4⟩, a5⟩ := h
  exact ⟨a1, a2, a3, ⟨t, by omega, a4⟩, a5⟩
theorem IR.tx {tb' : Nat → Nat → List Nat} {T' : Nat} (h : IR A G tb T n by' ik AK GK so sz) (hT : T ≤ T') (ht : sp_tb tb' T') : IR A G tb' T' 0 by' ik AK GK so sz := by
  obtain ⟨a1, a2, a3, a4, a5, a6, a7, a8⟩ := h
  refine ⟨a1.tx hT, a2, ht, by omega, ⟨by omega, fun j hj => absurd hj (Nat.not_lt_zero _)⟩, ?_, a7, a8⟩
  rcases a6 with a6 | ⟨b1, b2, b3⟩
  · exact Or.inl a6
  · exact Or.inr ⟨b1, b2.tx hT, b3⟩
/-- the bytes as numbers -/
def byN (by' : Nat → Int32) (j : Nat) : Nat := (by' j).toNatClampNeg
theorem byN_e {x : Int32} (h1 : 0 ≤ x.toInt) (h2 : x.toInt ≤ 255) : x = nI x.toNatClampNeg ∧ x.toNatClampNeg < 256 := by
  have h3 : ¬ x < 0 := by
    rw [Int32.lt_iff_toInt_lt, i_0]
    omega
  obtain ⟨j, hj, rfl⟩ := nI_of h3
  rw [nI_clamp hj]
  have : (nI j).toInt = (j : Int) := nI_toInt hj
  exact ⟨rfl, by omega⟩
theorem IR.byts (hr : IR A G tb T n by' ik AK GK so sz) {f : Nat → Int32} (h : ∀ j, j < n → f j = by' j) : byts (byN by') n f := ⟨hr.2.2.2.2.1.1, fun j hj => by
  have q := hr.2.2.2.2.1.2 j hj
  have e := byN_e q.1 q.2
  exact ⟨(h j hj).trans e.1, e.2⟩⟩
/-- the texts, one more -/
def tbn (tb : Nat → Nat → List Nat) (T : Nat) (c0 e1 e2 : List Nat) (t p : Nat) : List Nat := if t = T then (if p = 0 then c0 else if p = 1 then e1 else e2) else tb t p
theorem tbn_ne {c0 e1 e2 : List Nat} {t p : Nat} (h : t ≠ T) : tbn tb T c0 e1 e2 t p = tb t p := if_neg h
theorem tbn_off {c0 e1 e2 : List Nat} {t p : Nat} (h : t ≠ T) : sp_off (tbn tb T c0 e1 e2) t p = sp_off tb t p ∧ sp_all (tbn tb T c0 e1 e2) t = sp_all tb t := by
  simp only [sp_off, sp_all, tbn_ne h]
  exact ⟨trivial, trivial⟩
theorem tbn_T {c0 e1 e2 : List Nat} : sp_all (tbn tb T c0 e1 e2) T = c0 ++ e1 ++ e2 ∧ sp_off (tbn tb T c0 e1 e2) T 0 = 0 ∧ sp_off (tbn tb T c0 e1 e2) T 1 = c0.length ∧ sp_off (tbn tb T c0 e1 e2) T 2 = (c0 ++ e1).length ∧ sp_off (tbn tb T c0 e1 e2) T 3 = (c0 ++ e1 ++ e2).length := by
  simp [sp_off, sp_all, tbn, List.append_assoc, Nat.add_assoc]
theorem tbn_ok {c0 e1 e2 : List Nat} (ht : sp_tb tb T) (hT : T < 6) (hl : (c0 ++ e1 ++ e2).length ≤ 160) (h0 : sp_wf 0 c0) (h1 : sp_wf 0 e1) (h2 : sp_wf 0 e2) : sp_tb (tbn tb T c0 e1 e2) (T + 1) := by
  refine ⟨by omega, fun t htt => ?_⟩
  by_cases e : t = T
  · subst e
    refine ⟨by rw [tbn_T.2.2.2.2]; exact hl, fun p hp => ?_⟩
    rcases (show p = 0 ∨ p = 1 ∨ p = 2 by omega) with rfl | rfl | rfl
    · simpa [tbn] using h0
    · simpa [tbn] using h1
    · simpa [tbn] using h2
  · rw [(tbn_off e).1]
    have := ht.2 t (by omega)
    exact ⟨this.1, fun p hp => by rw [tbn_ne e]; exact this.2 p hp⟩
theorem tM_n {c0 e1 e2 : List Nat} (h : tM S tb T) (h10 : S' 45 10 = nI (T + 1)) (h51 : ∀ j, j < 200 * T → S' 51 j = S 51 j) (h52 : ∀ j, j < 4 * T → S' 52 j = S 52 j) (ht : sp_tb tb T) (hc : ∀ j, j < (c0 ++ e1 ++ e2).length → S' 51 (200 * T + j) = nI (sp_mc ((c0 ++ e1 ++ e2).getD j 0))) (s0 : S' 52 (4 * T) = 0) (s1 : S' 52 (4 * T + 1) = nI c0.length) (s2 : S' 52 (4 * T + 2) = nI (c0 ++ e1).length) (s3 : S' 52 (4 * T + 3) = nI (c0 ++ e1 ++ e2).length) : tM S' (tbn tb T c0 e1 e2) (T + 1) := by
  refine ⟨h10, fun t htt => ?_⟩
  by_cases e : t = T
  · subst e
    rw [tbn_T.2.2.2.2, tbn_T.1]
    refine ⟨hc, fun p hp => ?_⟩
    rcases (show p = 0 ∨ p = 1 ∨ p = 2 ∨ p = 3 by omega) with rfl | rfl | rfl | rfl
    · rw [tbn_T.2.1]; exact s0
    · rw [tbn_T.2.2.1]; exact s1
    · rw [tbn_T.2.2.2.1]; exact s2
    · rw [tbn_T.2.2.2.2]; exact s3
  · have q := h.2 t (by omega)
    have w := (ht.2 t (by omega)).1
    rw [(tbn_off e).1, (tbn_off (p := 0) e).2]
    refine ⟨fun j hj => by rw [h51 _ (by omega)]; exact q.1 j hj, fun p hp => by rw [(tbn_off e).1, h52 _ (by omega)]; exact q.2 p hp⟩
theorem tX_n {κ' : it_KK} {N : Nat} {c0 e1 e2 : List Nat} (h : tX κ S tb T) (h13 : S' 1 3 = nI (T + 1)) (hk : κ' = it_tk κ N T) (hN : N = (c0 ++ e1 ++ e2).length) (hz : κ.1 = it_el 1 T) (ha : ∀ t, t < T → S' (it_el 1 t + 1) = S (it_el 1 t + 1) ∧ S' (it_el 1 t + 2) = S (it_el 1 t + 2)) (hc : ∀ j, j < N → S' (κ.1 + 1) j = nI ((c0 ++ e1 ++ e2).getD j 0)) (s0 : S' (κ.1 + 2) 0 = nI c0.length) (s1 : S' (κ.1 + 2) 1 = nI (c0 ++ e1).length) (s2 : S' (κ.1 + 2) 2 = nI (c0 ++ e1 ++ e2).length) (hlt : ∀ t, t < T → it_el 1 t + 1 < it_el 1 T) : tX κ' S' (tbn tb T c0 e1 e2) (T + 1) := by
  refine ⟨h13, fun t htt => ?_⟩
  by_cases e : t = T
  · subst e
    rw [tbn_T.2.2.2.2, tbn_T.1, ← hz]
    refine ⟨by rw [hk]; simp [it_tk, it_on], ?_, fun j hj => hc j (by omega), fun p hp => ?_⟩
    · rw [hk, ← hN]
      have n1 : κ.1 + 1 ≠ κ.1 + 1 + 1 := by omega
      simp [it_tk, it_wr, it_on, it_new]
    · rcases (show p = 0 ∨ p = 1 ∨ p = 2 by omega) with rfl | rfl | rfl
      · rw [tbn_T.2.2.1]; exact s0
      · rw [tbn_T.2.2.2.1]; exact s1
      · rw [tbn_T.2.2.2.2]; exact s2
  · obtain ⟨q1, q2, q3, q4⟩ := h.2 t (by omega)
    have hl := hlt t (by omega)
    have w := ha t (by omega)
    rw [(tbn_off e).1, (tbn_off (p := 0) e).2, w.1, w.2]
    refine ⟨?_, ?_, q3, fun p hp => by rw [(tbn_off e).1]; exact q4 p hp⟩
    · rw [hk]
      have n2 : (2 : Nat) ≠ κ.1 ∧ (2 : Nat) ≠ κ.1 + 1 ∧ (2 : Nat) ≠ κ.1 + 1 + 1 := by
        have := it_el1_ge T
        omega
      have n0 : ¬ κ.1 = 0 := by
        have := it_el1_ge T
        omega
      simp [it_tk, it_wr, it_on, it_new, n2, n0, q1]
    · rw [hk, ← q2]
      have n3 : it_el 1 t + 1 ≠ κ.1 ∧ it_el 1 t + 1 ≠ κ.1 + 1 ∧ it_el 1 t + 1 ≠ κ.1 + 1 + 1 := by omega
      simp only [it_tk, it_wr, it_on, it_new, if_neg n3.1, if_neg n3.2.1, if_neg n3.2.2]
theorem el1_lt {t T : Nat} (h : t < T) : it_el 1 t + 2 < it_el 1 T := by
  obtain ⟨T, rfl⟩ : ∃ q, T = q + 1 := ⟨T - 1, by omega⟩
  cases t with
  | zero => show 42 + 2 < 65 + 3 * T; omega
  | succ t => show 65 + 3 * t + 2 < 65 + 3 * T; omega
theorem el1_s {T : Nat} (h : 1 ≤ T) : it_el 1 (T + 1) = it_el 1 T + 3 ∧ 65 ≤ it_el 1 T := by
  obtain ⟨T, rfl⟩ : ∃ q, T = q + 1 := ⟨T - 1, by omega⟩
  show 65 + 3 * (T + 1) = 65 + 3 * T + 3 ∧ 65 ≤ 65 + 3 * T
  omega
theorem it_tk_hs {N u : Nat} (h : it_hs κ u) : it_hs (it_tk κ N T) u := ⟨it_tk_ob h.1, it_tk_ar h.2.1, it_tk_ar h.2.2.1, it_tk_ar h.2.2.2.1, it_tk_ar h.2.2.2.2.1, it_tk_ar h.2.2.2.2.2.1, it_tk_ar h.2.2.2.2.2.2.1, it_tk_ar h.2.2.2.2.2.2.2⟩
theorem it_tk_wx {N : Nat} (hz : κ.1 = it_el 1 T) (hT : 1 ≤ T) (h : it_wx κ) : it_wx (it_tk κ N T) := by
  obtain ⟨a1, ⟨b1, b2, b3, b4, b5⟩, ⟨c1, c2, c3, c4⟩, a4, a5, a6, a7, a8, a9⟩ := h
  have h65 := (el1_s hT).2
  refine ⟨it_tk_ob a1, ⟨it_tk_ob b1, it_wr_rr b2, it_tk_ar b3, it_tk_ar b4, fun t q => ?_⟩, ⟨it_tk_ob c1, it_tk_ar c2, it_tk_ar c3, it_tk_ar c4⟩, it_tk_hs a4, it_tk_hs a5, it_tk_hs a6, it_wr_rr a7, fun j hj => ?_, fun j hj => ⟨it_tk_ob (a9 j hj).1, it_tk_ar (a9 j hj).2⟩⟩
  · by_cases e : t = T
    · subst e
      rw [← hz]
      refine ⟨⟨by show κ.1 < κ.1 + 1 + 1 + 1; omega, ?_, fun k hk => ?_⟩, ⟨by show κ.1 + 1 < κ.1 + 1 + 1 + 1; omega, ?_⟩, ⟨by show κ.1 + 2 < κ.1 + 1 + 1 + 1; omega, ?_⟩⟩
      · simp [it_tk, it_wr, it_on, it_new]
        omega
      · match k, hk with
        | 0, _ => simp [it_tk, it_wr, it_on]
        | 1, _ => simp [it_tk, it_wr, it_on]
        | k + 2, hk => simp [it_mask] at hk
      · simp [it_tk, it_wr, it_on, it_new]
      · simp [it_tk, it_wr, it_on, it_new]
    · have n2 : (2 : Nat) ≠ κ.1 ∧ (2 : Nat) ≠ κ.1 + 1 ∧ (2 : Nat) ≠ κ.1 + 1 + 1 := by omega
      have n0 : ¬ κ.1 = 0 := by omega
      have q' : κ.2.2 2 t = true := by
        simpa [it_tk, it_wr, it_on, it_new, n2, n0, e] using q
      obtain ⟨d1, d2, d3⟩ := b5 t q'
      have e2 := it_tk_ar (N := N) (T := T) d2
      refine ⟨it_tk_ob d1, ?_, it_tk_ar d3⟩
      exact ⟨e2.1, by rw [e2.2]⟩
  · have n3 : (33 : Nat) ≠ κ.1 ∧ (33 : Nat) ≠ κ.1 + 1 ∧ (33 : Nat) ≠ κ.1 + 1 + 1 := by omega
    have := a8 j hj
    simp [it_tk, it_wr, it_on, it_new, n3, this]
theorem it_tk_wm {N : Nat} (h : it_wm κ) : it_wm (it_tk κ N T) := by
  obtain ⟨a0, a1, a2, a3, a4, a5, a6, a7, a8, a9, a10, a11, a12, a13, a14, a15, a16, a17, a18, a19⟩ := h
  exact ⟨it_tk_ob a0, it_tk_ar a1, it_tk_ar a2, it_tk_ar a3, it_tk_ar a4, it_tk_ar a5, it_tk_ar a6, it_tk_ar a7, it_tk_ar a8, it_tk_ar a9, it_tk_ar a10, it_tk_ar a11, it_tk_ar a12, it_tk_ar a13, it_tk_ar a14, it_tk_ar a15, it_tk_ar a16, it_tk_ar a17, it_tk_ar a18, it_tk_ar a19⟩
theorem q_text {g : it_G} {l : Launch} (hI : Inv κ S) : it_Cn g l 70 it_m_X5_text [.ref 0] κ S (fun v κ' S' => ∃ r, v = some (.int r) ∧ it_wm κ' ∧ it_ok (f_X6_text κ' S') (fun r' S2 => r' = r ∧ Inv κ' S2)) := by
  obtain ⟨wx, wm, A, G, tb, T, n, by', ik, AK, GK, so, sz, ce, hz, hX', hM', hr⟩ := hI
  have hT1 := hr.2.2.2.1
  have hT6 := hr.2.2.1.1
  by_cases h6 : T = 6
  · subst h6
    refine L_X5_text_full wx (by rw [hX'.2.1.1]; decide) ⟨-4, rfl, wm, -4, S, ?_, rfl, wx, wm, A, G, tb, 6, n, by', ik, AK, GK, so, sz, ce, hz, hX', hM', hr⟩
    rw [f_X6_text, hM'.2.1.1, if_pos (show nI 6 = 6 from rfl)]
  · have hT : T < 6 := by omega
    have es := el1_s hT1
    refine L_X5_text wx hT hX'.2.1.1 hz ?_
    have E : cE S (byN by') n := ⟨hr.byts hX'.2.2.1.2, hX'.2.2.1.1⟩
    have EM : ∀ S1 : it_SS, S1 45 = S 45 → S1 50 = S 50 → S1 59 = S 59 → mE S1 (byN by') n T := fun S1 h45 h50 h59 => ⟨by rw [h50]; exact hr.byts hM'.2.2.1.2.1, fun j hj => by rw [h59]; exact hM'.2.2.1.2.2 j hj, by rw [h45]; exact hM'.2.2.1.1, by rw [h45]; exact hM'.2.1.1, hT⟩
    rcases e_isRead (κ := κ) E with ⟨S1, j, a1, a2, a3, a4⟩ | ⟨S1, j, c0, e1, e2, a1, a2, a3, a4, a5, a6, a7, a8, a9, a10, a11, a12⟩
    · refine ⟨0, S1, a1, ?_⟩
      show (if (0 : Int32) = 0 then _ else _)
      rw [if_pos rfl, a3]
      refine ⟨_, rfl, wm, ?_⟩
      have f5 : ∀ a, a ≠ 5 → a ≠ 7 → a ≠ 8 → it_up S1 5 1 0 a = S a := fun a h5 h7 h8 => (it_up_ne h5).trans (a2 a h5 h7 h8)
      rcases e_text_m (κ := κ) (EM (it_up S1 5 1 0) (f5 45 (by decide) (by decide) (by decide)) (f5 50 (by decide) (by decide) (by decide)) (f5 59 (by decide) (by decide) (by decide))) with ⟨S2, j', b1, b2, b3, b4, b5, b6, b7⟩ | ⟨S2, j', c0, c1, c2, b1, b2, b3, b4, b5, b6, b7, b8, b9, b10, b11, b12, b13⟩
      · rw [a4] at b7
        obtain rfl : j = j' := by
          have := Option.some.inj b7
          exact (Prod.mk.inj (Prod.mk.inj this).2).1
        refine ⟨_, S2, b1, rfl, wx, wm, A, G, tb, T, 0, by', ik, AK, GK, so, sz, ce, hz, ?_, ?_, hr.tx (Nat.le_refl _) hr.2.2.1⟩
        · refine hX'.tx (fun a h1 h5 h7 h8 h43 => by rw [b3 a (by omega) (by omega) (by omega) (by omega), f5 a h5 h7 h8]) (hX'.2.1.fr2 (fun a ha => by rw [b3 a (by omega) (by omega) (by omega) (by omega), f5 a (by omega) (by omega) (by omega)])) ?_
          rw [b3 5 (by decide) (by decide) (by decide) (by decide), it_up_eq, upd, if_pos rfl]
          rfl
        · refine hM'.tx (fun a h1 h2 h3 h4 => by rw [b3 a (by omega) h3 h4 (by omega), f5 a (by omega) (by omega) (by omega)]) (fun j hj => by rw [b4 j (by omega) (by omega), f5 45 (by decide) (by decide) (by decide)]) ⟨?_, fun t ht => ?_⟩ b2
          · rw [b4 10 (by decide) (by omega), f5 45 (by decide) (by decide) (by decide)]
            exact hM'.2.1.1
          · have q := hM'.2.1.2 t ht
            have w := (hr.2.2.1.2 t ht).1
            exact ⟨fun j hj => by rw [b5 _ (by omega), f5 51 (by decide) (by decide) (by decide)]; exact q.1 j hj, fun p hp => by rw [b6 _ (by omega), f5 52 (by decide) (by decide) (by decide)]; exact q.2 p hp⟩
      · rw [a4] at b13
        exact absurd (congrArg (fun o => o.map Prod.fst) b13) (by simp)
    · refine ⟨1, S1, a1, ?_⟩
      show (if (1 : Int32) = 0 then _ else _)
      rw [if_neg (by decide)]
      refine ⟨(c0 ++ e1 ++ e2).length, a4, a3, by rw [a2 1 (by decide) (by decide) (by decide)]; exact hX'.2.1.1, fun Sn s1 s2 s3 => ?_⟩
      refine ⟨_, rfl, it_tk_wm wm, ?_⟩
      obtain ⟨Sx, hSx⟩ : ∃ Sx, Sx = it_up (it_up Sn 1 3 (nI (T + 1))) 5 1 0 := ⟨_, rfl⟩
      rw [← hSx]
      have f5 : ∀ a, a ≠ 1 → a ≠ 5 → a ≠ 7 → a ≠ 8 → a < κ.1 → Sx a = S a := fun a h1 h5 h7 h8 hk => by rw [hSx, it_up_ne h5, it_up_ne h1, s3 a hk, a2 a h5 h7 h8]
      have f6 : ∀ a, κ.1 ≤ a → Sx a = Sn a := fun a hk => by rw [hSx, it_up_ne (by omega), it_up_ne (by omega)]
      rcases e_text_m (κ := it_tk κ (c0 ++ e1 ++ e2).length T) (EM Sx (f5 45 (by decide) (by decide) (by decide) (by decide) (by omega)) (f5 50 (by decide) (by decide) (by decide) (by decide) (by omega)) (f5 59 (by decide) (by decide) (by decide) (by decide) (by omega))) with ⟨S2, j', b1, b2, b3, b4, b5, b6, b7⟩ | ⟨S2, j', c0', c1', c2', b1, b2, b3, b4, b5, b6, b7, b8, b9, b10, b11, b12, b13⟩
      · rw [a12] at b7
        exact absurd (congrArg (fun o => o.map Prod.fst) b7) (by simp)
      · rw [a12] at b13
        have inj := Prod.mk.inj (Prod.mk.inj (Option.some.inj b13)).2
        have inj2 := Prod.mk.inj inj.2
        have inj3 := Prod.mk.inj inj2.2
        rw [← inj2.1] at b10
        rw [← inj3.1] at b11
        rw [← inj3.2] at b8 b12
        have wx' := it_tk_wx (N := (c0 ++ e1 ++ e2).length) hz hT1 wx
        refine ⟨_, S2, b1, rfl, wx', it_tk_wm wm, A, G, tbn tb T c0 e1 e2, T + 1, 0, by', ik, AK, GK, so, sz, ce, ?_, ?_, ?_, hr.tx (by omega) (tbn_ok hr.2.2.1 hT a4 a9 a10 a11)⟩
        · show κ.1 + 1 + 1 + 1 = _
          rw [es.1]
          omega
        · refine hX'.tx (fun a h1 h5 h7 h8 h43 => by rw [b4 a (by omega) (by omega) (by omega) (by omega), f5 a h1 h5 h7 h8 (by omega)]) (tX_n hX'.2.1 ?_ rfl rfl hz (fun t ht => ?_) (fun j hj => ?_) ?_ ?_ ?_ (fun t ht => by have := el1_lt ht; omega)) ?_
          · rw [b4 1 (by decide) (by decide) (by decide) (by decide), hSx, it_up_ne (by decide), it_up_eq, upd, if_pos rfl]
          · have g1 := el1_not t
            have g2 := el1_lt ht
            have g3 := it_el1_ge t
            exact ⟨by rw [b4 _ (by omega) (by omega) (by omega) (by omega), f5 _ (by omega) (by omega) (by omega) (by omega) (by omega)], by rw [b4 _ (by omega) (by omega) (by omega) (by omega), f5 _ (by omega) (by omega) (by omega) (by omega) (by omega)]⟩
          · rw [b4 _ (by omega) (by omega) (by omega) (by omega), f6 _ (by omega), s1 j hj, a5 j hj]
          · rw [b4 _ (by omega) (by omega) (by omega) (by omega), f6 _ (by omega), s2 0 (by decide), a6]
          · rw [b4 _ (by omega) (by omega) (by omega) (by omega), f6 _ (by omega), s2 1 (by decide), a7]
          · rw [b4 _ (by omega) (by omega) (by omega) (by omega), f6 _ (by omega), s2 2 (by decide), a8]
          · rw [b4 5 (by decide) (by decide) (by decide) (by decide), hSx, it_up_eq, upd, if_pos rfl]
            rfl
        · refine hM'.tx (fun a h1 h2 h3 h4 => by rw [b4 a (by omega) h3 h4 (by omega), f5 a (by omega) (by omega) (by omega) (by omega) (by omega)]) (fun j hj => by rw [b5 j (by omega) (by omega) (by omega), f5 45 (by decide) (by decide) (by decide) (by decide) (by omega)]) (tM_n (S := S) hM'.2.1 b3 (fun j hj => by rw [b6 j hj, f5 51 (by decide) (by decide) (by decide) (by decide) (by omega)]) (fun j hj => by rw [b7 j hj, f5 52 (by decide) (by decide) (by decide) (by decide) (by omega)]) hr.2.2.1 b8 b9 b10 b11 b12) b2
end TEXT
