section EREAD2
variable {κ : it_KK} {S S' S0 : it_SS} {b : Nat → Nat} {n tt : Nat} {h c : List Nat}
theorem rf_jn {T V : Nat → Nat} {i : Nat} {mn : Bool} (hi : i < 200) (hj : isJ (T i)) : rf T V (200 - i) i false mn h c = (if rk (10000 + T i) = 4 ∧ rtp (rst (if rk (10000 + T i) = 4 then 5 else rk (10000 + T i)) h) = 4 then some (false, i, []) else rf T V (200 - (i + 1)) (i + 1) true (decide (T i ≤ 4)) ((10000 + T i) :: rst (if rk (10000 + T i) = 4 then 5 else rk (10000 + T i)) h) (c ++ stp (if rk (10000 + T i) = 4 then 5 else rk (10000 + T i)) h)) ∧ okc (10000 + T i) ∧ (∀ h, opn ((10000 + T i) :: h) = opn h) ∧ 1 ≤ rk (10000 + T i) := by
  rcases hj with t | t | t | t | t | t | t
  · rw [k200 hi, rf, if_neg (by omega), if_neg (by omega), if_pos t, t]
    exact ⟨rfl, by simp [okc], fun h => by rw [opn]; simp, by decide⟩
  · rw [k200 hi, rf, if_neg (by omega), if_neg (by omega), if_neg (by omega), if_pos t, t]
    exact ⟨rfl, by simp [okc], fun h => by rw [opn]; simp, by decide⟩
  · rw [rf_cmp hi (Or.inl t), t]
    refine ⟨?_, by simp [okc], fun h => by rw [opn]; simp, by decide⟩
    rw [show (if rk (10000 + 60) = 4 then 5 else rk (10000 + 60)) = 5 from rfl]
    by_cases q : rtp (rst 5 h) = 4
    · rw [if_pos q, if_pos ⟨rfl, q⟩]
    · rw [if_neg q, if_neg (fun e => q e.2)]
      rfl
  · rw [rf_cmp hi (Or.inr t), t]
    refine ⟨?_, by simp [okc], fun h => by rw [opn]; simp, by decide⟩
    rw [show (if rk (10000 + 61) = 4 then 5 else rk (10000 + 61)) = 5 from rfl]
    by_cases q : rtp (rst 5 h) = 4
    · rw [if_pos q, if_pos ⟨rfl, q⟩]
    · rw [if_neg q, if_neg (fun e => q e.2)]
      rfl
  · rw [k200 hi, rf, if_neg (by omega), if_neg (by omega), if_neg (by omega), if_neg (by omega), if_neg (by omega), if_pos (Or.inl t), t]
    exact ⟨rfl, by simp [okc], fun h => by rw [opn]; simp, by decide⟩
  · rw [k200 hi, rf, if_neg (by omega), if_neg (by omega), if_neg (by omega), if_neg (by omega), if_neg (by omega), if_pos (Or.inr t), t]
    exact ⟨rfl, by simp [okc], fun h => by rw [opn]; simp, by decide⟩
  · rw [k200 hi, rf, if_neg (by omega), if_neg (by omega), if_neg (by omega), if_neg (by omega), if_neg (by omega), if_neg (by omega), if_pos t, t]
    exact ⟨rfl, by simp [okc], fun h => by rw [opn]; simp, by decide⟩
theorem rst_hd {r x : Nat} {h' : List Nat} : ∀ {h : List Nat}, rst r h = x :: h' → rk x < r
  | [], q => by cases q
  | y :: h, q => by
    rw [rst] at q
    by_cases e : r ≤ rk y
    · rw [if_pos e] at q
      exact rst_hd q
    · rw [if_neg e] at q
      cases q
      omega
theorem okc_0 {x : Nat} (hx : okc x) (h : rk x < 1) : x = 10040 := by
  rcases hx with rfl | rfl | rfl | rfl | rfl | rfl | rfl | rfl | rfl | rfl
  · rfl
  all_goals exact absurd h (by decide)
theorem sc_12 {t : Nat} (hj : isJ t) : 12 < nI (sc (10000 + t)) ↔ ¬ t ≤ 4 := by
  rcases hj with rfl | rfl | rfl | rfl | rfl | rfl | rfl <;> decide
/-- how eRead() ends -/
def eEnd (κ : it_KK) (S0 : it_SS) (b : Nat → Nat) (n tt : Nat) (o : Option (Int32 × it_SS)) (r : Option (Bool × Nat × List Nat)) : Prop :=
  (∃ S' j, o = some (0, S') ∧ mF S0 S' b n tt j ∧ r = some (false, j, [])) ∨
  (∃ S' j c', o = some (1, S') ∧ mH S0 S' tt [] c' ∧ S' 45 19 = nI (tq b n (j + 1)) ∧ j + 1 ≤ tq b n (j + 1) ∧ c'.length ≤ j + 1 ∧ r = some (true, j, c'))
theorem e_eRead_loop (E : mE S0 b n tt) : ∀ (k i f : Nat) (w mn : Bool) (h c : List Nat) (S : it_SS) (v1 v2 : Int32), k + i = 200 → k < f → mH S0 S tt h c → S 45 19 = nI (tq b n i) → okh h → c.length + h.length ≤ i → i ≤ tq b n i → v1 = (if w = true then 1 else 0) → (w = true → v2 = if mn = true then 1 else 0) →
    eEnd κ S0 b n tt (lp_X6_eRead_14 κ f v1 v2 S) (rf (tT b n) (tV b n) (200 - i) i w mn h c) := by
  have hn := E.1.1
  intro k
  induction k with
  | zero =>
    intro i f w mn h c S v1 v2 hk hf m h19 ho hl hi hv1 hv2
    have := tq_200 hn hi
    omega
  | succ k ih =>
    intro i f w mn h c S v1 v2 hk hf m h19 ho hl hi hv1 hv2
    obtain ⟨f, rfl⟩ : ∃ q, f = q + 1 := ⟨f - 1, by omega⟩
    have hi2 := tq_200 hn hi
    obtain ⟨S1, a1, a2, a3, a4, a5, a6, a7, a8⟩ := e_nx (κ := κ) E m h19
    have ht := tT_lt (b := b) (n := n) i
    obtain ⟨k59, k41, k1, k2, k6, k45, k40, k3, k0⟩ := rt_k _ ht
    rw [lp_X6_eRead_14, a1, it_bi_some, a4]
    cases w with
    | true =>
      obtain rfl : v1 = 1 := hv1
      have hv2 := hv2 rfl
      rw [if_neg (by decide)]
      by_cases t12 : tT b n i = 12
      · have hv : tV b n i < 10000 := by
          rcases t_cases (b := b) (n := n) (tq b n i) with g | ⟨-, g | g | g | g⟩
          · have := g.1; change tT b n i = 13 at this; omega
          · change tT b n i < 12 at g; omega
          · change tT b n i = 14 at g; omega
          · exact g.2
          · change sgn (tT b n i) = true at g
            rw [t12] at g
            exact absurd g (by decide)
        obtain ⟨S2, p1, p2, p3⟩ := e_puts (κ := κ) (v := tV b n i) (x := 100000 + nI (tV b n i)) E a2 (by omega) (by rw [sp_mc, if_pos hv]; exact nI_add 100000 _)
        obtain ⟨S3, q1, q2, q3⟩ := e_unwinds (κ := κ) (r := 7) (x := 7) E rfl (by decide) (by decide) ho (by rw [List.length_append]; show c.length + 1 + h.length ≤ 160; have := tq_200 hn (tq_s hi (show tT b n i ≠ 13 by omega)); omega) p2
        have hlen := st_len 7 h
        rw [if_pos (k1.mpr t12), if_pos (k1.mpr t12), a6 t12, p1, it_bi_some, q1, it_bi_some, rf_num hi2.1 t12]
        rw [List.append_assoc] at q2
        exact ih (i + 1) f false true (rst 7 h) _ S3 0 v2 (by omega) (by omega) q2 (by rw [q3 19 (by decide) (by decide) (by decide), p3 19 (by decide)]; exact a3) (okh_rst ho) (by rw [List.length_append, List.length_cons]; omega) (tq_s hi (by omega)) rfl (fun q => absurd q (by decide))
      · rw [if_neg (fun q => t12 (k1.mp q))]
        by_cases tn : 6 ≤ tT b n i ∧ tT b n i < 12
        · obtain ⟨S2, p1, p2, p3⟩ := e_puts (κ := κ) (v := 10000 + tT b n i) (x := nI (tT b n i - 6)) E a2 (by omega) (by rw [sp_mc, if_neg (by omega), if_pos (by omega)]; exact congrArg nI (by omega))
          obtain ⟨S3, q1, q2, q3⟩ := e_unwinds (κ := κ) (r := 7) (x := 7) E rfl (by decide) (by decide) ho (by rw [List.length_append]; show c.length + 1 + h.length ≤ 160; have := tq_200 hn (tq_s hi (show tT b n i ≠ 13 by omega)); omega) p2
          have hlen := st_len 7 h
          rw [if_pos (k2.mpr tn), if_neg (fun q => t12 (k1.mp q)), a8 tn, p1, it_bi_some, q1, it_bi_some, rf_nam hi2.1 tn]
          rw [List.append_assoc] at q2
          exact ih (i + 1) f false true (rst 7 h) _ S3 0 v2 (by omega) (by omega) q2 (by rw [q3 19 (by decide) (by decide) (by decide), p3 19 (by decide)]; exact a3) (okh_rst ho) (by rw [List.length_append, List.length_cons]; omega) (tq_s hi (by omega)) rfl (fun q => absurd q (by decide))
        · rw [if_neg (fun q => tn (k2.mp q))]
          by_cases t5 : tT b n i = 5
          · rw [if_pos (k6.mpr t5)]
            cases mn with
            | true =>
              obtain rfl : v2 = 1 := hv2
              rw [if_neg (by decide), rf_not hi2.1 t5]
              have op := e_opens (κ := κ) (y := 10005) (x := 13) a2 (by omega) rfl (by rw [opn, if_pos (by decide), Nat.add_comm])
              by_cases q5 : opn h = 5
              · rw [op.1 q5, it_bi_some, if_pos rfl, if_pos q5]
                exact Or.inl ⟨S1, i, rfl, a2.F a5, rfl⟩
              · obtain ⟨S2, o1, o2, o3⟩ := op.2 q5
                rw [o1, it_bi_some, if_neg (by decide), if_neg q5]
                exact ih (i + 1) f true true (10005 :: h) c S2 1 1 (by omega) (by omega) o2 (by rw [o3 19 (by decide) (by decide)]; exact a3) (okh_cons (by simp [okc]) ho) (by rw [List.length_cons]; omega) (tq_s hi (by omega)) rfl (fun _ => rfl)
            | false =>
              obtain rfl : v2 = 0 := hv2
              rw [if_pos rfl, if_neg (fun q => by have := k45.mp q; omega), if_neg (fun q => by have := k40.mp q; omega), rf_bad hi2.1 t12 tn (fun _ => rfl) (by omega) (by omega)]
              exact Or.inl ⟨S1, i, rfl, a2.F a5, rfl⟩
          · rw [if_neg (fun q => t5 (k6.mp q))]
            by_cases t45 : tT b n i = 45
            · rw [if_pos (k45.mpr t45), rf_neg hi2.1 t45]
              have op := e_opens (κ := κ) (y := 10015) (x := 19) a2 (by omega) rfl (by rw [opn, if_pos (by decide), Nat.add_comm])
              by_cases q5 : opn h = 5
              · rw [op.1 q5, it_bi_some, if_pos rfl, if_pos q5]
                exact Or.inl ⟨S1, i, rfl, a2.F a5, rfl⟩
              · obtain ⟨S2, o1, o2, o3⟩ := op.2 q5
                rw [o1, it_bi_some, if_neg (by decide), if_neg q5]
                exact ih (i + 1) f true false (10015 :: h) c S2 1 0 (by omega) (by omega) o2 (by rw [o3 19 (by decide) (by decide)]; exact a3) (okh_cons (by simp [okc]) ho) (by rw [List.length_cons]; omega) (tq_s hi (by omega)) rfl (fun _ => rfl)
            · rw [if_neg (fun q => t45 (k45.mp q))]
              by_cases t40 : tT b n i = 40
              · rw [if_pos (k40.mpr t40), rf_par hi2.1 t40]
                have op := e_opens (κ := κ) (y := 10040) (x := 0) a2 (by omega) rfl (by rw [opn, if_pos (by decide), Nat.add_comm])
                by_cases q5 : opn h = 5
                · rw [op.1 q5, it_bi_some, if_pos rfl, if_pos q5]
                  exact Or.inl ⟨S1, i, rfl, a2.F a5, rfl⟩
                · obtain ⟨S2, o1, o2, o3⟩ := op.2 q5
                  rw [o1, it_bi_some, if_neg (by decide), if_neg q5]
                  exact ih (i + 1) f true true (10040 :: h) c S2 1 1 (by omega) (by omega) o2 (by rw [o3 19 (by decide) (by decide)]; exact a3) (okh_cons (by simp [okc]) ho) (by rw [List.length_cons]; omega) (tq_s hi (by omega)) rfl (fun _ => rfl)
              · rw [if_neg (fun q => t40 (k40.mp q)), rf_bad hi2.1 t12 tn (fun q => absurd q t5) t45 t40]
                exact Or.inl ⟨S1, i, rfl, a2.F a5, rfl⟩
    | false =>
      obtain rfl : v1 = 0 := hv1
      rw [if_pos rfl]
      by_cases t59 : tT b n i = 59
      · obtain ⟨S2, u1, u2, u3⟩ := e_unwinds (κ := κ) (r := 1) (x := 1) E rfl (by decide) (by decide) ho (by omega) a2
        have hlen := st_len 1 h
        rw [if_pos (k59.mpr t59), u1, it_bi_some, u2.2.2.1, rf_semi hi2.1 t59]
        cases hh : rst 1 h with
        | nil =>
          rw [hh] at u2
          rw [if_pos (show nI ([] : List Nat).length = 0 from rfl), if_pos rfl]
          exact Or.inr ⟨S2, i, c ++ stp 1 h, rfl, u2, by rw [u3 19 (by decide) (by decide) (by decide)]; exact a3, tq_s hi (by omega), by rw [List.length_append]; omega, rfl⟩
        | cons x h' =>
          rw [if_neg (show ¬ nI (x :: h').length = 0 from nI_ne0 (by rw [List.length_cons]; omega) (by rw [hh] at hlen; omega)), if_neg (by simp)]
          exact Or.inl ⟨S2, i, rfl, u2.F (by rw [u3 20 (by decide) (by decide) (by decide)]; exact a5), rfl⟩
      · rw [if_neg (fun q => t59 (k59.mp q))]
        by_cases t41 : tT b n i = 41
        · obtain ⟨S2, u1, u2, u3⟩ := e_unwinds (κ := κ) (r := 1) (x := 1) E rfl (by decide) (by decide) ho (by omega) a2
          have hlen := st_len 1 h
          rw [if_pos (k41.mpr t41), u1, it_bi_some, u2.2.2.1]
          cases hh : rst 1 h with
          | nil =>
            rw [if_pos (show nI ([] : List Nat).length = 0 from rfl), rf_close0 hi2.1 t41 hh]
            exact Or.inl ⟨S2, i, rfl, u2.F (by rw [u3 20 (by decide) (by decide) (by decide)]; exact a5), rfl⟩
          | cons x h' =>
            have okx := okh_rst (r := 1) ho
            rw [hh] at hlen u2 okx
            have hx : x = 10040 := okc_0 (okx x List.mem_cons_self) (rst_hd hh)
            subst hx
            have okh' : okh h' := fun z hz => okx z (List.mem_cons_of_mem _ hz)
            rw [if_neg (show ¬ nI (10040 :: h').length = 0 from nI_ne0 (by rw [List.length_cons]; omega) (by omega)), show nI (10040 :: h').length - 1 = nI h'.length from nI_pred _, rf_close hi2.1 t41 hh]
            obtain ⟨m1, m2, m3, m4, m5, m6, m7, m8⟩ := u2
            have e26 : it_up S2 45 25 (nI h'.length) 45 26 - 1 = nI (opn h') := by
              rw [it_up_eq, upd, if_neg (by decide), m5, opn, if_pos (by decide), Nat.add_comm]
              exact nI_pred _
            rw [e26]
            rw [List.map_cons] at m4
            have tp := sp_pile_top m4
            have mm : mH S0 (it_up (it_up S2 45 25 (nI h'.length)) 45 26 (nI (opn h'))) tt h' (c ++ stp 1 h) :=
              ⟨fun a h1 h2 h3 => by rw [it_up_ne h1, it_up_ne h1, m1 a h1 h2 h3], fun j hj => by rw [it_up_eq, upd, if_neg (by omega), it_up_eq, upd, if_neg (by omega), m2 j hj], by rw [it_up_eq, upd, if_neg (by decide), it_up_eq, upd, if_pos rfl], by rw [it_up_ne (by decide), it_up_ne (by decide)]; exact tp.2, by rw [it_up_eq, upd, if_pos rfl], by rw [it_up_eq, upd, if_neg (by decide), it_up_eq, upd, if_neg (by decide)]; exact m6, fun j hj => by rw [it_up_ne (by decide), it_up_ne (by decide)]; exact m7 j hj, fun j hj => by rw [it_up_ne (by decide), it_up_ne (by decide)]; exact m8 j hj⟩
            rw [List.length_cons] at hlen
            obtain ⟨S3, q1, q2, q3⟩ := e_unwinds (κ := κ) (r := 7) (x := 7) E rfl (by decide) (by decide) okh' (by rw [List.length_append]; omega) mm
            have hlen2 := st_len 7 h'
            rw [q1, it_bi_some]
            rw [List.append_assoc] at q2
            exact ih (i + 1) f false true (rst 7 h') _ S3 0 v2 (by omega) (by omega) q2 (by rw [q3 19 (by decide) (by decide) (by decide), it_up_eq, upd, if_neg (by decide), it_up_eq, upd, if_neg (by decide), u3 19 (by decide) (by decide) (by decide)]; exact a3) (okh_rst okh') (by rw [List.length_append, List.length_append]; omega) (tq_s hi (by omega)) rfl (fun q => absurd q (by decide))
        · rw [if_neg (fun q => t41 (k41.mp q)), e_signOf, it_bi_some, a4]
          have sg := sgf_t _ ht
          by_cases tj : isJ (tT b n i)
          · obtain ⟨j1, j2, j3, j4⟩ := rf_jn (T := tT b n) (V := tV b n) (mn := mn) (h := h) (c := c) hi2.1 tj
            have s1 := sg.1 tj
            obtain ⟨r, hr⟩ : ∃ r, r = if rk (10000 + tT b n i) = 4 then 5 else rk (10000 + tT b n i) := ⟨_, rfl⟩
            rw [← hr] at j1
            have bt := e_between (κ := κ) (y := 10000 + tT b n i) (r := r) (x := nI (sc (10000 + tT b n i))) E j2 rfl j3 j4 hr ho (by omega) a2
            have hlen := st_len r h
            rw [if_neg s1.2, s1.1, j1]
            by_cases q : rk (10000 + tT b n i) = 4 ∧ rtp (rst r h) = 4
            · obtain ⟨S2, w1, w2, w3⟩ := bt.1 q
              rw [w1, it_bi_some, if_pos rfl, if_pos q]
              exact Or.inl ⟨S2, i, rfl, w2.F (by rw [w3 20 (by decide) (by decide) (by decide)]; exact a5), rfl⟩
            · obtain ⟨S2, w1, w2, w3⟩ := bt.2 q
              have h13 : tT b n i ≠ 13 := by
                unfold isJ at tj
                omega
              rw [w1, it_bi_some, if_neg (by decide), if_neg q]
              by_cases t4 : tT b n i ≤ 4
              · rw [if_neg (fun e => (sc_12 tj).mp e t4), decide_eq_true t4]
                exact ih (i + 1) f true true _ _ S2 1 1 (by omega) (by omega) w2 (by rw [w3 19 (by decide) (by decide) (by decide)]; exact a3) (okh_cons j2 (okh_rst ho)) (by rw [List.length_append, List.length_cons]; omega) (tq_s hi h13) rfl (fun _ => rfl)
              · rw [if_pos ((sc_12 tj).mpr t4), decide_eq_false t4]
                exact ih (i + 1) f true false _ _ S2 1 0 (by omega) (by omega) w2 (by rw [w3 19 (by decide) (by decide) (by decide)]; exact a3) (okh_cons j2 (okh_rst ho)) (by rw [List.length_append, List.length_cons]; omega) (tq_s hi h13) rfl (fun _ => rfl)
          · rw [if_pos (sg.2 tj), rf_none hi2.1 t59 t41 tj]
            exact Or.inl ⟨S1, i, rfl, a2.F a5, rfl⟩
/-- eRead() -/
theorem e_eRead {i : Nat} (E : mE S b n tt) (h19 : S 45 19 = nI (tq b n i)) (h27 : S 45 27 = nI c.length) (h51 : ∀ j, j < c.length → S 51 (200 * tt + j) = nI (sp_mc (c.getD j 0))) (hl : c.length ≤ i) (hi : i ≤ tq b n i) : eEnd κ S b n tt (f_X6_eRead κ S) (rf (tT b n) (tV b n) (200 - i) i true true [] c) := by
  have hi2 := tq_200 E.1.1 hi
  rw [f_X6_eRead]
  refine e_eRead_loop E (200 - i) i it_FU true true [] c _ 1 1 (by omega) (by show 200 - i < 100000; omega) ⟨fun a h1 h2 h3 => by rw [it_up_ne h1, it_up_ne h1], fun j hj => by rw [it_up_eq, upd, if_neg (by omega), it_up_eq, upd, if_neg (by omega)], by rw [it_up_eq, upd, if_neg (by decide), it_up_eq, upd, if_pos rfl]; rfl, fun j hj => absurd hj (Nat.not_lt_zero _), by rw [it_up_eq, upd, if_pos rfl]; rfl, by rw [it_up_eq, upd, if_neg (by decide), it_up_eq, upd, if_neg (by decide)]; exact h27, fun j hj => by rw [it_up_ne (by decide), it_up_ne (by decide)]; exact h51 j hj, fun j _ => by rw [it_up_ne (by decide), it_up_ne (by decide)]⟩ (by rw [it_up_eq, upd, if_neg (by decide), it_up_eq, upd, if_neg (by decide)]; exact h19) (fun y hy => absurd hy (by simp)) (by simpa using hl) hi rfl (fun _ => rfl)
/-! a text, the reference's -/
def fT (S S' : it_SS) (tt : Nat) : Prop := (∀ a, a ≠ 45 → a ≠ 51 → a ≠ 52 → a ≠ 60 → S' a = S a) ∧ (∀ j, j < 19 ∨ 22 < j ∧ j < 25 ∨ 27 < j → S' 45 j = S 45 j) ∧ (∀ j, j < 200 * tt → S' 51 j = S 51 j) ∧ ∀ j, j < 4 * tt → S' 52 j = S 52 j
theorem fT.refl (S : it_SS) (tt : Nat) : fT S S tt := ⟨fun _ _ _ _ _ => rfl, fun _ _ => rfl, fun _ _ => rfl, fun _ _ => rfl⟩
theorem fT.trans {S1 S2 S3 : it_SS} (h : fT S1 S2 tt) (k : fT S2 S3 tt) : fT S1 S3 tt := ⟨fun a h1 h2 h3 h4 => (k.1 a h1 h2 h3 h4).trans (h.1 a h1 h2 h3 h4), fun j hj => (k.2.1 j hj).trans (h.2.1 j hj), fun j hj => (k.2.2.1 j hj).trans (h.2.2.1 j hj), fun j hj => (k.2.2.2 j hj).trans (h.2.2.2 j hj)⟩
theorem mE.fT (E : mE S b n tt) (h : fT S S' tt) : mE S' b n tt := ⟨by rw [h.1 50 (by decide) (by decide) (by decide) (by decide)]; exact E.1, fun j hj => by rw [h.1 59 (by decide) (by decide) (by decide) (by decide)]; exact E.2.1 j hj, by rw [h.2.1 7 (by omega)]; exact E.2.2.1, by rw [h.2.1 10 (by omega)]; exact E.2.2.2.1, E.2.2.2.2⟩
/-- how the text stands ahead of a part -/
def mC (S : it_SS) (b : Nat → Nat) (n tt i : Nat) (c : List Nat) : Prop := S 45 19 = nI (tq b n i) ∧ S 45 27 = nI c.length ∧ (∀ j, j < c.length → S 51 (200 * tt + j) = nI (sp_mc (c.getD j 0))) ∧ c.length ≤ i ∧ i ≤ tq b n i
theorem e_nt {i : Nat} (E : mE S b n tt) (m : mC S b n tt i c) : ∃ S', f_X6_next κ S = some ((), S') ∧ fT S S' tt ∧ S' 52 = S 52 ∧ S' 45 19 = nI (tq b n (i + 1)) ∧ S' 45 21 = rt (tT b n i) ∧ S' 45 20 = nI (tP b n i) ∧ (tT b n i < 3 → S' 45 22 = nI (tT b n i)) ∧ S' 45 27 = nI c.length ∧ (∀ j, j < c.length → S' 51 (200 * tt + j) = nI (sp_mc (c.getD j 0))) := by
  obtain ⟨e1, e2, e3, e4, e5⟩ := E
  obtain ⟨S', a1, a2, a3, a4, a5, a6, a7, a8, a9⟩ := e_next_m (κ := κ) (S := S) (b := b) (n := n) (tq_le i) e1 e2 e3 m.1
  exact ⟨S', a1, ⟨fun a h1 h2 h3 h4 => a2 a h1, fun j hj => a3 j (by omega) (by omega) (by omega) (by omega), fun j _ => by rw [a2 51 (by decide)], fun j _ => by rw [a2 52 (by decide)]⟩, a2 52 (by decide), a4, a5, a6, a8, by rw [a3 27 (by decide) (by decide) (by decide) (by decide)]; exact m.2.1, fun j hj => by rw [a2 51 (by decide)]; exact m.2.2.1 j hj⟩
theorem e_partM {p i f : Nat} {kont : Int32 → it_SS → Option (Int32 × it_SS)} (hp : p < 3) (E : mE S b n tt) (m : mC S b n tt i c) :
    (∃ S' j, lp_X6_text_26 κ kont (f + 2) 1 (nI p) S = kont 0 S' ∧ fT S S' tt ∧ S' 45 20 = nI (tP b n j) ∧ rq (tT b n) (tV b n) p i c = some (false, j, [])) ∨
    (∃ S' j c', lp_X6_text_26 κ kont (f + 2) 1 (nI p) S = lp_X6_text_26 κ kont (f + 1) 1 (nI (p + 1)) S' ∧ fT S S' tt ∧ S' 52 (4 * tt + p) = nI c.length ∧ (∀ q, q ≠ 4 * tt + p → S' 52 q = S 52 q) ∧ mC S' b n tt (j + 1) c' ∧ rq (tT b n) (tV b n) p i c = some (true, j, c')) := by
  have hn := E.1.1
  have ht := tT_lt (b := b) (n := n) i
  have tt6 := E.2.2.2.2
  obtain ⟨k59, k41, k1, k2, k6, k45, k40, k3, k0⟩ := rt_k _ ht
  obtain ⟨S1, a1, a2, a3, a4, a5, a6, a7, a8, a9⟩ := e_nt (κ := κ) E m
  have h10 : S1 45 10 = nI tt := (a2.2.1 10 (by omega)).trans E.2.2.2.1
  have ea : 4 * nI tt + nI p = nI (4 * tt + p) := by rw [show (4 : Int32) = nI 4 from rfl, pk_mul, nI_add]
  have zero : ∀ S2 : it_SS, lp_X6_text_26 κ kont (f + 1) 0 (nI (p + 1)) S2 = kont 0 S2 := fun S2 => by
    rw [lp_X6_text_26]
    by_cases q : 3 ≤ nI (p + 1)
    · rw [if_pos q]
    · rw [if_neg q, if_pos rfl]
  rw [show f + 2 = f + 1 + 1 from rfl, lp_X6_text_26, if_neg (show ¬ 3 ≤ nI p from nI_ge (b := 3) (by omega) (by decide)), if_neg (by decide), a1, it_bi_some, a5, h10, ea, nI_clamp (show 4 * tt + p < 2 ^ 31 by omega), a8, nI_1, rq]
  obtain ⟨S2, hS2⟩ : ∃ S2, S2 = it_up S1 52 (4 * tt + p) (nI c.length) := ⟨_, rfl⟩
  rw [← hS2]
  have f2 : fT S S2 tt := a2.trans ⟨fun a h1 h2 h3 h4 => by rw [hS2, it_up_ne h3], fun j hj => by rw [hS2, it_up_ne (by decide)], fun j hj => by rw [hS2, it_up_ne (by decide)], fun j hj => by rw [hS2, it_up_eq, upd, if_neg (by omega)]⟩
  by_cases q : tT b n i = p
  · have E2 := E.fT f2
    have hi1 := tq_s m.2.2.2.2 (show tT b n i ≠ 13 by omega)
    have hl := m.2.2.2.1
    have er := e_eRead (κ := κ) (S := S2) (i := i + 1) (c := c) E2 (by rw [hS2, it_up_ne (by decide)]; exact a4) (by rw [hS2, it_up_ne (by decide)]; exact a8) (fun j hj => by rw [hS2, it_up_ne (by decide)]; exact a9 j hj) (by omega) hi1
    rw [if_pos (k3.mpr (by omega)), a7 (by omega), if_pos (congrArg nI q), if_pos (bd_nI (show 4 * tt + p < 24 by omega) (by decide)), if_pos q]
    rcases er with ⟨S3, j, b1, b2, b3⟩ | ⟨S3, j, c', b1, b2, b3, b4, b5, b6⟩
    · rw [b1, it_bi_some, if_pos rfl, zero, b3]
      exact Or.inl ⟨S3, j, rfl, f2.trans ⟨fun a h1 h2 h3 h4 => b2.1 a h1 h2 h4, fun j hj => b2.2.1 j hj, fun j hj => b2.2.2.1 j hj, fun j hj => by rw [b2.1 52 (by decide) (by decide) (by decide)]⟩, b2.2.2.2, rfl⟩
    · rw [b1, it_bi_some, if_neg (by decide), b6]
      exact Or.inr ⟨S3, j, c', rfl, f2.trans ⟨fun a h1 h2 h3 h4 => b2.1 a h1 h2 h4, fun j hj => b2.2.1 j hj, fun j hj => b2.2.2.2.2.2.2.2 j hj, fun j hj => by rw [b2.1 52 (by decide) (by decide) (by decide)]⟩, by rw [b2.1 52 (by decide) (by decide) (by decide), hS2, it_up_eq, upd, if_pos rfl], fun q hq => by rw [b2.1 52 (by decide) (by decide) (by decide), hS2, it_up_eq, upd, if_neg hq, a3], ⟨b3, b2.2.2.2.2.2.1, b2.2.2.2.2.2.2.1, b5, b4⟩, rfl⟩
  · rw [if_neg q]
    refine Or.inl ⟨S2, i, ?_, f2, by rw [hS2, it_up_ne (by decide)]; exact a6, rfl⟩
    by_cases q3 : tT b n i < 3
    · rw [if_pos (k3.mpr q3), a7 q3, if_neg (fun e => q ((nE (by omega) (by omega)).mp e)), if_pos (bd_nI (show 4 * tt + p < 24 by omega) (by decide)), zero]
    · rw [if_neg (fun e => q3 (k3.mp e)), if_pos (bd_nI (show 4 * tt + p < 24 by omega) (by decide)), zero]
theorem e_text_m (E : mE S b n tt) :
    (∃ S' j, f_X6_text κ S = some (-100 - nI (tP b n j), S') ∧ S' 45 7 = 0 ∧ (∀ a, a ≠ 45 → a ≠ 51 → a ≠ 52 → a ≠ 60 → S' a = S a) ∧ (∀ j, j ≠ 7 → (j < 19 ∨ 22 < j ∧ j < 25 ∨ 27 < j) → S' 45 j = S 45 j) ∧ (∀ j, j < 200 * tt → S' 51 j = S 51 j) ∧ (∀ j, j < 4 * tt → S' 52 j = S 52 j) ∧ rtx (tT b n) (tV b n) = some (false, j, [], [], [])) ∨
    (∃ S' j c0 c1 c2, f_X6_text κ S = some (nI tt, S') ∧ S' 45 7 = 0 ∧ S' 45 10 = nI (tt + 1) ∧ (∀ a, a ≠ 45 → a ≠ 51 → a ≠ 52 → a ≠ 60 → S' a = S a) ∧ (∀ j, j ≠ 7 → j ≠ 10 → (j < 19 ∨ 22 < j ∧ j < 25 ∨ 27 < j) → S' 45 j = S 45 j) ∧ (∀ j, j < 200 * tt → S' 51 j = S 51 j) ∧ (∀ j, j < 4 * tt → S' 52 j = S 52 j) ∧ (∀ j, j < c2.length → S' 51 (200 * tt + j) = nI (sp_mc (c2.getD j 0))) ∧ S' 52 (4 * tt) = 0 ∧ S' 52 (4 * tt + 1) = nI c0.length ∧ S' 52 (4 * tt + 2) = nI c1.length ∧ S' 52 (4 * tt + 3) = nI c2.length ∧ rtx (tT b n) (tV b n) = some (true, j, c0, c1, c2)) := by
  have hn := E.1.1
  have tt6 := E.2.2.2.2
  obtain ⟨S0, hS0⟩ : ∃ S0, S0 = it_up (it_up S 45 19 0) 45 27 0 := ⟨_, rfl⟩
  have f0 : fT S S0 tt := ⟨fun a h1 _ _ _ => by rw [hS0, it_up_ne h1, it_up_ne h1], fun j hj => by rw [hS0, it_up_eq, upd, if_neg (by omega), it_up_eq, upd, if_neg (by omega)], fun j _ => by rw [hS0, it_up_ne (by decide), it_up_ne (by decide)], fun j _ => by rw [hS0, it_up_ne (by decide), it_up_ne (by decide)]⟩
  have E0 := E.fT f0
  have C0 : mC S0 b n tt 0 [] := ⟨by rw [hS0, it_up_eq, upd, if_neg (by decide), it_up_eq, upd, if_pos rfl]; rfl, by rw [hS0, it_up_eq, upd, if_pos rfl]; rfl, fun j hj => absurd hj (Nat.not_lt_zero _), Nat.le_refl _, Nat.zero_le _⟩
  have ea : 4 * nI tt + 3 = nI (4 * tt + 3) := by rw [show (4 : Int32) = nI 4 from rfl, pk_mul]; exact nI_add _ 3
  rw [f_X6_text, E.2.2.2.1, if_neg (show ¬ nI tt = 6 from fun e => by have := (nE (m := 6) (by omega) (by decide)).mp e; omega), ← hS0, show it_FU = 99996 + 1 + 1 + 1 + 1 from rfl, rtx]
  generalize hk : (fun (v14 : Int32) (S15 : it_SS) => (_ : Option (Int32 × it_SS))) = kont
  have bad : ∀ (S1 : it_SS) (j : Nat), fT S S1 tt → S1 45 20 = nI (tP b n j) → ∃ S', kont 0 S1 = some (-100 - nI (tP b n j), S') ∧ S' 45 7 = 0 ∧ (∀ a, a ≠ 45 → a ≠ 51 → a ≠ 52 → a ≠ 60 → S' a = S a) ∧ (∀ j, j ≠ 7 → (j < 19 ∨ 22 < j ∧ j < 25 ∨ 27 < j) → S' 45 j = S 45 j) ∧ (∀ j, j < 200 * tt → S' 51 j = S 51 j) ∧ (∀ j, j < 4 * tt → S' 52 j = S 52 j) := fun S1 j ff h20 => by
    have h10 : S1 45 10 = nI tt := (ff.2.1 10 (by omega)).trans E.2.2.2.1
    refine ⟨it_up (it_up S1 52 (4 * tt + 3) (S1 45 27)) 45 7 0, ?_, by rw [it_up_eq, upd, if_pos rfl], fun a h1 h2 h3 h4 => by rw [it_up_ne h1, it_up_ne h3, ff.1 a h1 h2 h3 h4], fun j j7 hj => by rw [it_up_eq, upd, if_neg j7, it_up_ne (by decide), ff.2.1 j hj], fun j hj => by rw [it_up_ne (by decide), it_up_ne (by decide), ff.2.2.1 j hj], fun j hj => by rw [it_up_ne (by decide), it_up_eq, upd, if_neg (by omega), ff.2.2.2 j hj]⟩
    rw [← hk]
    simp only []
    rw [if_pos trivial, h10, ea, if_pos (bd_nI (show 4 * tt + 3 < 24 by omega) (by decide)), if_pos trivial, nI_clamp (by omega), show it_up (it_up S1 52 (4 * tt + 3) (S1 45 27)) 45 7 0 45 20 = nI (tP b n j) from (by rw [it_up_eq, upd, if_neg (by decide), it_up_ne (by decide)]; exact h20)]
  rcases e_partM (κ := κ) (kont := kont) (p := 0) (f := 99996 + 1 + 1) (by decide) E0 C0 with ⟨S', j, g1, g2, g3, g4⟩ | ⟨S1, j0, c0, g1, g2, g3, g3', g4, g5⟩
  · obtain ⟨S'', b1, b2, b3, b4, b5, b6⟩ := bad S' j (f0.trans g2) g3
    rw [g4]
    exact Or.inl ⟨S'', j, g1.trans b1, b2, b3, b4, b5, b6, rfl⟩
  rw [show lp_X6_text_26 κ kont (99996 + 1 + 1 + 1 + 1) 1 0 S0 = _ from g1, g5]
  simp only []
  have F1 := f0.trans g2
  rcases e_partM (κ := κ) (kont := kont) (p := 1) (f := 99996 + 1) (by decide) (E.fT F1) g4 with ⟨S', j, k1, k2, k3, k4⟩ | ⟨S2, j1, c1, k1, k2, k3, k3', k4, k5⟩
  · obtain ⟨S'', b1, b2, b3, b4, b5, b6⟩ := bad S' j (F1.trans k2) k3
    rw [k4]
    exact Or.inl ⟨S'', j, k1.trans b1, b2, b3, b4, b5, b6, rfl⟩
  rw [show lp_X6_text_26 κ kont (99996 + 1 + 1 + 1) 1 (nI (0 + 1)) S1 = _ from k1, k5]
  simp only []
  have F2 := F1.trans k2
  rcases e_partM (κ := κ) (kont := kont) (p := 2) (f := 99996) (by decide) (E.fT F2) k4 with ⟨S', j, m1, m2, m3, m4⟩ | ⟨S3, j2, c2, m1, m2, m3, m3', m4, m5⟩
  · obtain ⟨S'', b1, b2, b3, b4, b5, b6⟩ := bad S' j (F2.trans m2) m3
    rw [m4]
    exact Or.inl ⟨S'', j, m1.trans b1, b2, b3, b4, b5, b6, rfl⟩
  rw [show lp_X6_text_26 κ kont (99996 + 1 + 1) 1 (nI (1 + 1)) S2 = _ from m1, m5, lp_X6_text_26, if_pos (show (3 : Int32) ≤ nI (2 + 1) by decide)]
  simp only []
  have F3 := F2.trans m2
  have E3 := E.fT F3
  obtain ⟨S4, a1, a2, a3, a4, a5, a6, a7, a8, a9⟩ := e_nt (κ := κ) E3 m4
  have ht := tT_lt (b := b) (n := n) (j2 + 1)
  have k0 := (rt_k _ ht).2.2.2.2.2.2.2.2
  have F4 := F3.trans a2
  have h10 : S4 45 10 = nI tt := (F4.2.1 10 (by omega)).trans E.2.2.2.1
  rw [← hk]
  simp only []
  rw [if_neg (by decide), a1, it_bi_some, a5, h10, ea, if_pos (bd_nI (show 4 * tt + 3 < 24 by omega) (by decide)), nI_clamp (by omega), a8]
  by_cases q : tT b n (j2 + 1) = 13
  · rw [if_pos (k0.mpr q), if_pos q]
    have e10 : it_up (it_up S4 52 (4 * tt + 3) (nI c2.length)) 45 7 0 45 10 + 1 = nI (tt + 1) := by
      rw [it_up_eq, upd, if_neg (by decide), it_up_ne (by decide), h10, nI_1]
    rw [e10]
    refine Or.inr ⟨it_up (it_up (it_up S4 52 (4 * tt + 3) (nI c2.length)) 45 7 0) 45 10 (nI (tt + 1)), j2 + 1, c0, c1, c2, ?_, by rw [it_up_eq, upd, if_neg (by decide), it_up_eq, upd, if_pos rfl], by rw [it_up_eq, upd, if_pos rfl], fun a h1 h2 h3 h4 => by rw [it_up_ne h1, it_up_ne h1, it_up_ne h3, F4.1 a h1 h2 h3 h4], fun j h7 h1 hj => by rw [it_up_eq, upd, if_neg h1, it_up_eq, upd, if_neg h7, it_up_ne (by decide), F4.2.1 j hj], fun j hj => by rw [it_up_ne (by decide), it_up_ne (by decide), it_up_ne (by decide), F4.2.2.1 j hj], fun j hj => by rw [it_up_ne (by decide), it_up_ne (by decide), it_up_eq, upd, if_neg (by omega), F4.2.2.2 j hj], fun j hj => by rw [it_up_ne (by decide), it_up_ne (by decide), it_up_ne (by decide)]; exact a9 j hj, ?_, ?_, ?_, ?_, rfl⟩
    · rw [it_up_eq, upd, if_pos rfl]
      exact congrArg some (Prod.ext (nI_pred tt) rfl)
    · rw [it_up_ne (by decide), it_up_ne (by decide), it_up_eq, upd, if_neg (by omega), a3, m3' _ (by omega), k3' _ (by omega)]
      exact g3
    · rw [it_up_ne (by decide), it_up_ne (by decide), it_up_eq, upd, if_neg (by omega), a3, m3' _ (by omega)]
      exact k3
    · rw [it_up_ne (by decide), it_up_ne (by decide), it_up_eq, upd, if_neg (by omega), a3]
      exact m3
    · rw [it_up_ne (by decide), it_up_ne (by decide), it_up_eq, upd, if_pos rfl]
  · rw [if_neg (fun e => q (k0.mp e)), if_neg q, if_pos (bd_nI (show 4 * tt + 3 < 24 by omega) (by decide))]
    refine Or.inl ⟨it_up (it_up S4 52 (4 * tt + 3) (nI c2.length)) 45 7 0, j2 + 1, ?_, by rw [it_up_eq, upd, if_pos rfl], fun a h1 h2 h3 h4 => by rw [it_up_ne h1, it_up_ne h3, F4.1 a h1 h2 h3 h4], fun j h7 hj => by rw [it_up_eq, upd, if_neg h7, it_up_ne (by decide), F4.2.1 j hj], fun j hj => by rw [it_up_ne (by decide), it_up_ne (by decide), F4.2.2.1 j hj], fun j hj => by rw [it_up_ne (by decide), it_up_eq, upd, if_neg (by omega), F4.2.2.2 j hj], rfl⟩
    rw [show it_up (it_up S4 52 (4 * tt + 3) (nI c2.length)) 45 7 0 45 20 = nI (tP b n (j2 + 1)) from (by rw [it_up_eq, upd, if_neg (by decide), it_up_ne (by decide)]; exact a6)]
end EREAD2
