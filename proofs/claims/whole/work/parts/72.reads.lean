section READS
variable {κ : it_KK} {S S' S0 : it_SS} {b : Nat → Nat} {n : Nat}
/-! the class's reading: i the token that stands, c the code -/
def cX (S0 S : it_SS) (b : Nat → Nat) (n i : Nat) (c : List Nat) : Prop :=
  (∀ a, a ≠ 5 → a ≠ 7 → S a = S0 a) ∧ (∀ j, j ≠ 2 → j ≠ 3 → j ≠ 4 → j ≠ 5 → j ≠ 7 → S 5 j = S0 5 j) ∧ S 5 2 = nI (tq b n (i + 1)) ∧ S 5 3 = nI (tT b n i) ∧ S 5 5 = nI (tP b n i) ∧ (tT b n i = 12 → S 5 4 = nI (tV b n i)) ∧ S 5 7 = nI c.length ∧ ∀ j, j < c.length → S 7 j = nI (c.getD j 0)
/-- a fault at a token -/
def cF (S0 S : it_SS) (b : Nat → Nat) (n i : Nat) : Prop := (∀ a, a ≠ 5 → a ≠ 7 → S a = S0 a) ∧ S 5 5 = nI (tP b n i) ∧ ∃ k, k ≤ 160 ∧ S 5 7 = nI k
def cE (S0 : it_SS) (b : Nat → Nat) (n : Nat) : Prop := byts b n (S0 6) ∧ S0 5 1 = nI n
theorem gd_l {c d : List Nat} {j : Nat} (h : j < c.length) : (c ++ d).getD j 0 = c.getD j 0 := by
  rw [List.getD_eq_getElem?_getD, List.getD_eq_getElem?_getD, List.getElem?_append_left h]
theorem gd_1 {c : List Nat} {v : Nat} : (c ++ [v]).getD c.length 0 = v := by
  rw [List.getD_eq_getElem?_getD, List.getElem?_append_right (Nat.le_refl _), Nat.sub_self]
  rfl
theorem cX.next {i : Nat} {c : List Nat} (E : cE S0 b n) (h : cX S0 S b n i c) : ∃ S', f_X3_next κ S = some ((), S') ∧ cX S0 S' b n (i + 1) c := by
  obtain ⟨h1, h2, h3, h4, h5, h6, h7, h8⟩ := h
  obtain ⟨S', a1, a2, a3, a4, a5, a6, a7⟩ := e_next_x (κ := κ) (S := S) (tq_le (b := b) (n := n) (i + 1)) (by rw [h1 6 (by decide) (by decide)]; exact E.1) (by rw [h2 1 (by decide) (by decide) (by decide) (by decide) (by decide)]; exact E.2) h3
  exact ⟨S', a1, fun a b5 b7 => (a2 a b5).trans (h1 a b5 b7), fun j j2 j3 j4 j5 j7 => (a3 j j2 j3 j4 j5).trans (h2 j j2 j3 j4 j5 j7), a4, a5, a6, a7, by rw [a3 7 (by decide) (by decide) (by decide) (by decide)]; exact h7, fun j hj => by rw [a2 7 (by decide)]; exact h8 j hj⟩
theorem cX.write {i v : Nat} {c : List Nat} (h : cX S0 S b n i c) (hl : c.length < 160) : ∃ S', f_X3_write κ (nI v) S = some ((), S') ∧ cX S0 S' b n i (c ++ [v]) := by
  obtain ⟨h1, h2, h3, h4, h5, h6, h7, h8⟩ := h
  refine ⟨it_up (it_up S 7 c.length (nI v)) 5 7 (nI (c.length + 1)), ?_, fun a b5 b7 => by rw [it_up_ne b5, it_up_ne b7, h1 a b5 b7], fun j j2 j3 j4 j5 j7 => by rw [it_up_eq, upd, if_neg j7, it_up_ne (by decide), h2 j j2 j3 j4 j5 j7], by rw [it_up_eq, upd, if_neg (by decide), it_up_ne (by decide)]; exact h3, by rw [it_up_eq, upd, if_neg (by decide), it_up_ne (by decide)]; exact h4, by rw [it_up_eq, upd, if_neg (by decide), it_up_ne (by decide)]; exact h5, fun q => by rw [it_up_eq, upd, if_neg (by decide), it_up_ne (by decide)]; exact h6 q, by rw [it_up_eq, upd, if_pos rfl, List.length_append]; rfl, fun j hj => ?_⟩
  · rw [f_X3_write, it_up_ne (show (5 : Nat) ≠ 7 by decide), h7, if_neg (show ¬ 160 ≤ nI c.length from nI_ge (b := 160) hl (by decide)), if_pos (bd_nI hl (by decide)), nI_clamp (by omega), nI_1]
  · rw [it_up_ne (by decide), it_up_eq, upd]
    rw [List.length_append] at hj
    have hj' : j < c.length + 1 := hj
    by_cases e : j = c.length
    · rw [if_pos e, e, gd_1]
    · rw [if_neg e, gd_l (by omega)]
      exact h8 j (by omega)
theorem cX.cF {i : Nat} {c : List Nat} (h : cX S0 S b n i c) (hl : c.length ≤ 160) : cF S0 S b n i := ⟨h.1, h.2.2.2.2.1, c.length, hl, h.2.2.2.2.2.2.1⟩
theorem cF.write {i : Nat} {x : Int32} (h : cF S0 S b n i) : ∃ S', f_X3_write κ x S = some ((), S') ∧ cF S0 S' b n i := by
  obtain ⟨h1, h2, k, hk, h3⟩ := h
  by_cases q : k = 160
  · exact ⟨S, by rw [f_X3_write, h3, q, if_pos (show (160 : Int32) ≤ nI 160 by decide)], h1, h2, k, hk, h3⟩
  · refine ⟨it_up (it_up S 7 k x) 5 7 (nI (k + 1)), ?_, fun a b5 b7 => by rw [it_up_ne b5, it_up_ne b7, h1 a b5 b7], by rw [it_up_eq, upd, if_neg (by decide), it_up_ne (by decide)]; exact h2, k + 1, by omega, by rw [it_up_eq, upd, if_pos rfl]⟩
    rw [f_X3_write, it_up_ne (show (5 : Nat) ≠ 7 by decide), h3, if_neg (show ¬ 160 ≤ nI k from nI_ge (b := 160) (by omega) (by decide)), if_pos (bd_nI (show k < 160 by omega) (by decide)), nI_clamp (by omega), nI_1]
/-- how a reader ends -/
def rOK (S0 : it_SS) (b : Nat → Nat) (n : Nat) (r : Option (Int32 × it_SS)) (i : Nat) (c : List Nat) (D : Nat) (Pf : Nat → Prop) (Ps : Nat → List Nat → Prop) : Prop :=
  (∃ S' j, r = some (0, S') ∧ cF S0 S' b n j ∧ Pf j) ∨ (∃ S' j e, r = some (1, S') ∧ cX S0 S' b n j (c ++ e) ∧ i < j ∧ j ≤ tq b n j ∧ e.length ≤ j - i ∧ wfD D e ∧ Ps j e)
def mnOK (l : Nat) (mn : Bool) (t : Nat) : Prop := (l ≤ 2 → mn = true) ∧ (3 ≤ l → t = 5 → mn = false)
def PfL (b : Nat → Nat) (n l o i j : Nat) : Prop := ∀ (h c' : List Nat) (mn : Bool), opn h = o → rtp h < Rl l → mnOK l mn (tT b n i) → rf (tT b n) (tV b n) (200 - i) i true mn h c' = some (false, j, [])
def PsL (b : Nat → Nat) (n l o i j : Nat) (e : List Nat) : Prop := ∃ d pd, e = d ++ pd ∧ (∀ y, y ∈ pd → Rm l ≤ rk y) ∧ xit l (tT b n j) pd ∧ ∀ (h c' : List Nat) (mn : Bool), opn h = o → rtp h < Rl l → mnOK l mn (tT b n i) → rf (tT b n) (tV b n) (200 - i) i true mn h c' = rf (tT b n) (tV b n) (200 - j) j false true (pd ++ h) (c' ++ d)
def PfO (b : Nat → Nat) (n o i j : Nat) : Prop := ∀ (h c' : List Nat) (mn : Bool), opn h = o → (tT b n i = 5 → mn = false) → rf (tT b n) (tV b n) (200 - i) i true mn h c' = some (false, j, [])
def PsO (b : Nat → Nat) (n o i j : Nat) (e : List Nat) : Prop := ∀ (h c' : List Nat) (mn : Bool), opn h = o → (tT b n i = 5 → mn = false) → rf (tT b n) (tV b n) (200 - i) i true mn h c' = rf (tT b n) (tV b n) (200 - j) j false true (rst 7 h) (c' ++ (e ++ stp 7 h))
def StL (κ : it_KK) (S0 : it_SS) (b : Nat → Nat) (n m : Nat) : Prop := ∀ (l o i : Nat) (c : List Nat) (S : it_SS), l ≤ 5 → o ≤ 5 → (6 - l) + 2 + 8 * (5 - o) ≤ m → cX S0 S b n i c → i ≤ tq b n i → c.length ≤ i → rOK S0 b n (f_rd κ m 0 (nI l) (nI o) S) i c (6 - l + 5 * (5 - o)) (PfL b n l o i) (PsL b n l o i)
def StO (κ : it_KK) (S0 : it_SS) (b : Nat → Nat) (n m : Nat) : Prop := ∀ (o i : Nat) (c : List Nat) (S : it_SS), o ≤ 5 → 2 + 8 * (5 - o) ≤ m → cX S0 S b n i c → i ≤ tq b n i → c.length ≤ i → rOK S0 b n (f_rd κ m 1 (nI o) 0 S) i c (1 + 5 * (5 - o)) (PfO b n o i) (PsO b n o i)
def StN (κ : it_KK) (S0 : it_SS) (b : Nat → Nat) (n m : Nat) : Prop := ∀ (o i : Nat) (c : List Nat) (S : it_SS), o ≤ 5 → 1 + 8 * (5 - o) ≤ m → tT b n i = 5 → cX S0 S b n i c → i ≤ tq b n i → c.length ≤ i → rOK S0 b n (f_rd κ m 2 (nI o) 5 S) i c (4 + 5 * (5 - o)) (PfL b n 2 o i) (PsL b n 2 o i)
def StM (κ : it_KK) (S0 : it_SS) (b : Nat → Nat) (n m : Nat) : Prop := ∀ (o i : Nat) (c : List Nat) (S : it_SS), o ≤ 5 → 1 + 8 * (5 - o) ≤ m → tT b n i = 45 → cX S0 S b n i c → i ≤ tq b n i → c.length ≤ i → rOK S0 b n (f_rd κ m 2 (nI o) 15 S) i c (1 + 5 * (5 - o)) (PfO b n o i) (PsO b n o i)
def StI (κ : it_KK) (S0 : it_SS) (b : Nat → Nat) (n m : Nat) : Prop := ∀ (o i : Nat) (c : List Nat) (S : it_SS), o ≤ 5 → 1 + 8 * (5 - o) ≤ m → tT b n i = 40 → cX S0 S b n i c → i ≤ tq b n i → c.length ≤ i → rOK S0 b n (f_rd κ m 3 (nI o) 0 S) i c (1 + 5 * (5 - o)) (PfO b n o i) (PsO b n o i)
theorem tq_s {i : Nat} (h : i ≤ tq b n i) (ht : tT b n i ≠ 13) : i + 1 ≤ tq b n (i + 1) := Nat.le_trans (Nat.succ_le_succ h) (tq_gt ht)
theorem tq_200 {i : Nat} (hn : n ≤ 160) (h : i ≤ tq b n i) : i < 200 ∧ i ≤ 160 := by
  have := tq_le (b := b) (n := n) i
  omega
theorem tT_lt (i : Nat) : tT b n i < 62 := t_lt _
theorem tok_eq {i t : Nat} (ht : t < 62) (h : tT b n i ≠ t) : ¬ nI (tT b n i) = nI t := fun q => h ((nE (by have := tT_lt (b := b) (n := n) i; omega) (by omega)).mp q)
theorem e_inner {m : Nat} (E : cE S0 b n) (ih : StL κ S0 b n m) : StI κ S0 b n (m + 1) := by
  intro o i c S ho hm ht hc hi hl
  have h2 := tq_200 E.1.1 hi
  rw [f_rd, if_neg (by decide), if_neg (by decide), if_neg (by decide), f_X3_readInner]
  by_cases h5 : o < 5
  · rw [if_pos (show nI o < 5 from nI_lt h5 (by decide))]
    obtain ⟨S2, a1, a2⟩ := hc.next (κ := κ) E
    have hi1 : i + 1 ≤ tq b n (i + 1) := tq_s hi (by omega)
    have g := ih 0 (o + 1) (i + 1) c S2 (by omega) (by omega) (by omega) a2 hi1 (by omega)
    have rf1 : ∀ (h c' : List Nat) (mn : Bool), opn h = o → rf (tT b n) (tV b n) (200 - i) i true mn h c' = rf (tT b n) (tV b n) (200 - (i + 1)) (i + 1) true true (10040 :: h) c' ∧ opn (10040 :: h) = o + 1 := fun h c' mn hh => ⟨by rw [rf_par h2.1 ht, if_neg (by omega)], by rw [opn, hh]; simp; omega⟩
    rw [a1, it_bi_some, nI_1]
    rcases g with ⟨S4, j, g1, g2, g3⟩ | ⟨S4, j, e, g1, g2, g3, g4, g5, g6, d, pd, g7, g8, g9, g10⟩
    · rw [show f_rd κ m 0 0 (nI (o + 1)) S2 = _ from g1, it_bi_some, if_pos rfl]
      refine Or.inl ⟨S4, j, rfl, g2, fun h c' mn hh _ => ?_⟩
      rw [(rf1 h c' mn hh).1]
      exact g3 _ _ _ (rf1 h c' mn hh).2 (by show rk 10040 < Rl 0; decide) ⟨fun _ => rfl, fun q => absurd q (by decide)⟩
    · rw [show f_rd κ m 0 0 (nI (o + 1)) S2 = _ from g1, it_bi_some, if_neg (by decide), g2.2.2.2.1]
      have hj := tq_200 E.1.1 g4
      have rf2 : ∀ (h c' : List Nat) (mn : Bool), opn h = o → rf (tT b n) (tV b n) (200 - i) i true mn h c' = rf (tT b n) (tV b n) (200 - j) j false true (pd ++ 10040 :: h) (c' ++ d) := fun h c' mn hh => by
        rw [(rf1 h c' mn hh).1]
        exact g10 _ _ _ (rf1 h c' mn hh).2 (by show rk 10040 < Rl 0; decide) ⟨fun _ => rfl, fun q => absurd q (by decide)⟩
      by_cases q : tT b n j = 41
      · rw [if_pos (show nI (tT b n j) = 41 from congrArg nI q)]
        obtain ⟨S8, b1, b2⟩ := g2.next (κ := κ) E
        rw [b1, it_bi_some]
        refine Or.inr ⟨S8, j + 1, e, rfl, b2, by omega, tq_s g4 (by omega), by omega, g6.mono (by omega), fun h c' mn hh _ => ?_⟩
        have st := st_all (r := 1) (h := 10040 :: h) g8 (by show rk 10040 < 1; decide)
        rw [rf2 h c' mn hh, rf_close hj.1 q st.2, st.1, g7]
        simp only [List.append_assoc]
      · rw [if_neg (show ¬ nI (tT b n j) = 41 from tok_eq (by decide) q)]
        refine Or.inl ⟨S4, j, rfl, g2.cF (by rw [List.length_append]; omega), fun h c' mn hh _ => ?_⟩
        rw [rf2 h c' mn hh]
        exact rf_stop hj.1 g9 g8 (Or.inr ⟨⟨h, rfl⟩, q⟩)
  · obtain rfl : o = 5 := by omega
    rw [if_neg (show ¬ nI 5 < 5 by decide)]
    exact Or.inl ⟨S, i, rfl, hc.cF (by omega), fun h c' mn hh _ => by rw [rf_par h2.1 ht, if_pos hh]⟩
theorem bz_1 : it_bz 1 = true := by decide
theorem bz_0 : it_bz 0 = true := by decide
theorem e_minus {m : Nat} (E : cE S0 b n) (ih : StO κ S0 b n m) : StM κ S0 b n (m + 1) := by
  intro o i c S ho hm ht hc hi hl
  have h2 := tq_200 E.1.1 hi
  rw [f_rd, if_neg (by decide), if_neg (by decide), if_pos rfl, f_X3_readTurned]
  by_cases h5 : o < 5
  · rw [if_pos (show nI o < 5 from nI_lt h5 (by decide))]
    obtain ⟨S2, a1, a2⟩ := hc.next (κ := κ) E
    have hi1 : i + 1 ≤ tq b n (i + 1) := tq_s hi (by omega)
    have g := ih (o + 1) (i + 1) c S2 (by omega) (by omega) a2 hi1 (by omega)
    have rf1 : ∀ (h c' : List Nat) (mn : Bool), opn h = o → rf (tT b n) (tV b n) (200 - i) i true mn h c' = rf (tT b n) (tV b n) (200 - (i + 1)) (i + 1) true false (10015 :: h) c' ∧ opn (10015 :: h) = o + 1 := fun h c' mn hh => ⟨by rw [rf_neg h2.1 ht, if_neg (by omega)], by rw [opn, hh]; simp; omega⟩
    rw [a1, it_bi_some, if_neg (by decide), nI_1]
    rcases g with ⟨S4, j, g1, g2, g3⟩ | ⟨S4, j, e, g1, g2, g3, g4, g5, g6, g7⟩
    · obtain ⟨S5, b1, b2⟩ := g2.write (κ := κ) (x := 10000 + 15)
      rw [g1, it_bi_some, b1, it_bi_some, if_pos bz_0]
      refine Or.inl ⟨S5, j, rfl, b2, fun h c' mn hh _ => ?_⟩
      rw [(rf1 h c' mn hh).1]
      exact g3 _ _ _ (rf1 h c' mn hh).2 (fun _ => rfl)
    · have hj := tq_200 E.1.1 g4
      obtain ⟨S5, b1, b2⟩ := g2.write (κ := κ) (v := 10015) (by rw [List.length_append]; omega)
      rw [g1, it_bi_some, show f_X3_write κ (10000 + 15) S4 = _ from b1, it_bi_some, if_pos bz_1]
      refine Or.inr ⟨S5, j, e ++ [10015], rfl, by rw [← List.append_assoc]; exact b2, by omega, g4, by rw [List.length_append]; show e.length + 1 ≤ _; omega, (g6.mono (by omega)).turn (Or.inr rfl), fun h c' mn hh _ => ?_⟩
      rw [(rf1 h c' mn hh).1, g7 _ _ _ (rf1 h c' mn hh).2 (fun _ => rfl), show rst 7 (10015 :: h) = rst 7 h from if_pos (by decide), show stp 7 (10015 :: h) = 10015 :: stp 7 h from if_pos (by decide), List.append_assoc e]
      rfl
  · obtain rfl : o = 5 := by omega
    rw [if_neg (show ¬ nI 5 < 5 by decide)]
    exact Or.inl ⟨S, i, rfl, hc.cF (by omega), fun h c' mn hh _ => by rw [rf_neg h2.1 ht, if_pos hh]⟩
theorem e_nots {m : Nat} (E : cE S0 b n) (ih : StL κ S0 b n m) : StN κ S0 b n (m + 1) := by
  intro o i c S ho hm ht hc hi hl
  have h2 := tq_200 E.1.1 hi
  rw [f_rd, if_neg (by decide), if_neg (by decide), if_pos rfl, f_X3_readTurned]
  by_cases h5 : o < 5
  · rw [if_pos (show nI o < 5 from nI_lt h5 (by decide))]
    obtain ⟨S2, a1, a2⟩ := hc.next (κ := κ) E
    have hi1 : i + 1 ≤ tq b n (i + 1) := tq_s hi (by omega)
    have g := ih 2 (o + 1) (i + 1) c S2 (by omega) (by omega) (by omega) a2 hi1 (by omega)
    have rf1 : ∀ (h c' : List Nat) (mn : Bool), opn h = o → mnOK 2 mn (tT b n i) → rf (tT b n) (tV b n) (200 - i) i true mn h c' = rf (tT b n) (tV b n) (200 - (i + 1)) (i + 1) true true (10005 :: h) c' ∧ opn (10005 :: h) = o + 1 := fun h c' mn hh hm => ⟨by rw [hm.1 (by decide), rf_not h2.1 ht, if_neg (by omega)], by rw [opn, hh]; simp; omega⟩
    rw [a1, it_bi_some, if_pos rfl, nI_1]
    rcases g with ⟨S4, j, g1, g2, g3⟩ | ⟨S4, j, e, g1, g2, g3, g4, g5, g6, d, pd, g7, g8, g9, g10⟩
    · obtain ⟨S5, b1, b2⟩ := g2.write (κ := κ) (x := 10000 + 5)
      rw [show f_rd κ m 0 2 (nI (o + 1)) S2 = _ from g1, it_bi_some, b1, it_bi_some, if_pos bz_0]
      refine Or.inl ⟨S5, j, rfl, b2, fun h c' mn hh _ hmn => ?_⟩
      rw [(rf1 h c' mn hh hmn).1]
      exact g3 _ _ _ (rf1 h c' mn hh hmn).2 (by show rk 10005 < Rl 2; decide) ⟨fun _ => rfl, fun q => absurd q (by decide)⟩
    · have hj := tq_200 E.1.1 g4
      obtain ⟨S5, b1, b2⟩ := g2.write (κ := κ) (v := 10005) (by rw [List.length_append]; omega)
      rw [show f_rd κ m 0 2 (nI (o + 1)) S2 = _ from g1, it_bi_some, show f_X3_write κ (10000 + 5) S4 = _ from b1, it_bi_some, if_pos bz_1]
      refine Or.inr ⟨S5, j, e ++ [10005], rfl, by rw [← List.append_assoc]; exact b2, by omega, g4, by rw [List.length_append]; show e.length + 1 ≤ _; omega, (g6.mono (by omega)).turn (Or.inl rfl), d, pd ++ [10005], by rw [g7, List.append_assoc], fun y hy => ?_, xit_app g9, fun h c' mn hh _ hmn => ?_⟩
      · rcases List.mem_append.mp hy with q | q
        · exact g8 y q
        · rw [List.mem_singleton.mp q]
          decide
      · rw [(rf1 h c' mn hh hmn).1, g10 _ _ _ (rf1 h c' mn hh hmn).2 (by show rk 10005 < Rl 2; decide) ⟨fun _ => rfl, fun q => absurd q (by decide)⟩, List.append_assoc]
        rfl
  · obtain rfl : o = 5 := by omega
    rw [if_neg (show ¬ nI 5 < 5 by decide)]
    exact Or.inl ⟨S, i, rfl, hc.cF (by omega), fun h c' mn hh _ hmn => by rw [hmn.1 (by decide), rf_not h2.1 ht, if_pos hh]⟩
theorem rOK.bz {r : Option (Int32 × it_SS)} {i : Nat} {c : List Nat} {D : Nat} {Pf : Nat → Prop} {Ps : Nat → List Nat → Prop} (h : rOK S0 b n r i c D Pf Ps) : rOK S0 b n (it_bi r (fun r34 S33 => if it_bz r34 = true then some (r34, S33) else none)) i c D Pf Ps := by
  rcases h with ⟨S', j, h1, h2⟩ | ⟨S', j, e, h1, h2⟩
  · exact Or.inl ⟨S', j, by rw [h1, it_bi_some, if_pos bz_0], h2⟩
  · exact Or.inr ⟨S', j, e, by rw [h1, it_bi_some, if_pos bz_1], h2⟩
theorem e_one {m : Nat} (E : cE S0 b n) (ihM : StM κ S0 b n m) (ihI : StI κ S0 b n m) : StO κ S0 b n (m + 1) := by
  intro o i c S ho hm hc hi hl
  have h2 := tq_200 E.1.1 hi
  have h3 := hc.2.2.2.1
  rw [f_rd, if_neg (by decide), if_pos rfl, f_X3_readOne, h3]
  by_cases q1 : tT b n i = 45
  · rw [if_pos (show nI (tT b n i) = 45 from congrArg nI q1)]
    exact (ihM o i c S ho (by omega) q1 hc hi hl).bz
  · rw [if_neg (show ¬ nI (tT b n i) = 45 from tok_eq (by decide) q1)]
    by_cases q2 : tT b n i = 40
    · rw [if_pos (show nI (tT b n i) = 40 from congrArg nI q2)]
      exact (ihI o i c S ho (by omega) q2 hc hi hl).bz
    · rw [if_neg (show ¬ nI (tT b n i) = 40 from tok_eq (by decide) q2)]
      by_cases q3 : tT b n i = 12
      · have hv : tV b n i < 10000 := by
          rcases t_cases (b := b) (n := n) (tq b n i) with g | ⟨-, g | g | g | g⟩
          · have := g.1; change tT b n i = 13 at this; omega
          · change tT b n i < 12 at g; omega
          · change tT b n i = 14 at g; omega
          · exact g.2
          · change sgn (tT b n i) = true at g
            rw [q3] at g
            exact absurd g (by decide)
        have hi1 := tq_200 E.1.1 (tq_s hi (show tT b n i ≠ 13 by omega))
        obtain ⟨S4, a1, a2⟩ := hc.write (κ := κ) (v := tV b n i) (by omega)
        obtain ⟨S5, b1, b2⟩ := a2.next (κ := κ) E
        rw [if_pos (show nI (tT b n i) = 12 from congrArg nI q3), if_pos (show nI (tT b n i) = 12 from congrArg nI q3), hc.2.2.2.2.2.1 q3, a1, it_bi_some, b1, it_bi_some]
        refine Or.inr ⟨S5, i + 1, [tV b n i], rfl, b2, by omega, tq_s hi (by omega), by show 1 ≤ _; omega, wfD.one (by omega) (Or.inl hv), fun h c' mn hh _ => ?_⟩
        rw [rf_num h2.1 q3]
        rfl
      · have ht := tT_lt (b := b) (n := n) i
        rw [if_neg (show ¬ nI (tT b n i) = 12 from tok_eq (by decide) q3), e_isName κ (by omega), it_bi_some]
        by_cases q4 : 6 ≤ tT b n i ∧ tT b n i < 12
        · have hi1 := tq_200 E.1.1 (tq_s hi (show tT b n i ≠ 13 by omega))
          obtain ⟨S4, a1, a2⟩ := hc.write (κ := κ) (v := 10000 + tT b n i) (by omega)
          obtain ⟨S5, b1, b2⟩ := a2.next (κ := κ) E
          rw [if_pos q4, if_neg (by decide), h3, if_neg (show ¬ nI (tT b n i) = 12 from tok_eq (by decide) q3), show (10000 : Int32) + nI (tT b n i) = nI (10000 + tT b n i) from nI_add 10000 _, a1, it_bi_some, b1, it_bi_some]
          refine Or.inr ⟨S5, i + 1, [10000 + tT b n i], rfl, b2, by omega, tq_s hi (by omega), by show 1 ≤ _; omega, wfD.one (by omega) (Or.inr ⟨by omega, by omega⟩), fun h c' mn hh _ => ?_⟩
          rw [rf_nam h2.1 q4]
          rfl
        · rw [if_neg q4, if_pos rfl]
          exact Or.inl ⟨S, i, rfl, hc.cF (by omega), fun h c' mn hh hmn => rf_bad h2.1 q3 q4 hmn q1 q2⟩
theorem e_joins {l i : Nat} {c : List Nat} (hl : l ≤ 4) (hc : cX S0 S b n i c) : (jn l (tT b n i) → f_X3_joins κ (nI l) S = some (1, S)) ∧ (¬ jn l (tT b n i) → f_X3_joins κ (nI l) S = some (0, S)) := by
  have h3 := hc.2.2.2.1
  have ht := tT_lt (b := b) (n := n) i
  have k : ∀ t, t < 62 → (nI (tT b n i) = nI t ↔ tT b n i = t) := fun t h => nE (by omega) (by omega)
  have k3 := k 3 (by decide)
  have k4 := k 4 (by decide)
  have k60 := k 60 (by decide)
  have k61 := k 61 (by decide)
  have k43 := k 43 (by decide)
  have k45 := k 45 (by decide)
  have k42 := k 42 (by decide)
  rw [f_X3_joins, h3]
  unfold jn
  rcases (show l = 0 ∨ l = 1 ∨ l = 2 ∨ l = 3 ∨ l = 4 by omega) with rfl | rfl | rfl | rfl | rfl
  · rw [if_pos (show nI 0 = 0 from rfl)]
    exact ⟨fun q => if_pos (show nI (tT b n i) = 3 from k3.mpr (by omega)), fun q => if_neg (show ¬ nI (tT b n i) = 3 from fun x => by have := k3.mp x; omega)⟩
  · rw [if_neg (show ¬ nI 1 = 0 by decide), if_pos (show nI 1 = 1 from rfl)]
    exact ⟨fun q => if_pos (show nI (tT b n i) = 4 from k4.mpr (by omega)), fun q => if_neg (show ¬ nI (tT b n i) = 4 from fun x => by have := k4.mp x; omega)⟩
  · rw [if_neg (show ¬ nI 2 = 0 by decide), if_neg (show ¬ nI 2 = 1 by decide), if_pos (show nI 2 = 2 from rfl)]
    refine ⟨fun q => ?_, fun q => ?_⟩
    · by_cases e : tT b n i = 60
      · exact if_pos (show nI (tT b n i) = 60 from k60.mpr e)
      · rw [if_neg (show ¬ nI (tT b n i) = 60 from fun x => e (k60.mp x))]
        exact if_pos (show nI (tT b n i) = 61 from k61.mpr (by omega))
    · rw [if_neg (show ¬ nI (tT b n i) = 60 from fun x => by have := k60.mp x; omega)]
      exact if_neg (show ¬ nI (tT b n i) = 61 from fun x => by have := k61.mp x; omega)
  · rw [if_neg (show ¬ nI 3 = 0 by decide), if_neg (show ¬ nI 3 = 1 by decide), if_neg (show ¬ nI 3 = 2 by decide), if_pos (show nI 3 = 3 from rfl)]
    refine ⟨fun q => ?_, fun q => ?_⟩
    · by_cases e : tT b n i = 43
      · exact if_pos (show nI (tT b n i) = 43 from k43.mpr e)
      · rw [if_neg (show ¬ nI (tT b n i) = 43 from fun x => e (k43.mp x))]
        exact if_pos (show nI (tT b n i) = 45 from k45.mpr (by omega))
    · rw [if_neg (show ¬ nI (tT b n i) = 43 from fun x => by have := k43.mp x; omega)]
      exact if_neg (show ¬ nI (tT b n i) = 45 from fun x => by have := k45.mp x; omega)
  · rw [if_neg (show ¬ nI 4 = 0 by decide), if_neg (show ¬ nI 4 = 1 by decide), if_neg (show ¬ nI 4 = 2 by decide), if_neg (show ¬ nI 4 = 3 by decide)]
    exact ⟨fun q => if_pos (show nI (tT b n i) = 42 from k42.mpr (by omega)), fun q => if_neg (show ¬ nI (tT b n i) = 42 from fun x => by have := k42.mp x; omega)⟩
theorem Rm_s {l : Nat} (hl : l ≤ 4) : Rm l ≤ Rm (l + 1) ∧ Rl l ≤ Rl (l + 1) := by
  rcases (show l = 0 ∨ l = 1 ∨ l = 2 ∨ l = 3 ∨ l = 4 by omega) with rfl | rfl | rfl | rfl | rfl <;> decide
theorem jn_13 {l t : Nat} (h : jn l t) : t ≠ 13 ∧ t < 62 := by
  unfold jn at h
  omega
theorem jn_no {l t : Nat} (hj : ¬ jn l t) : (l = 4 → t ≠ 42) ∧ (l = 3 → t ≠ 43 ∧ t ≠ 45) ∧ (l = 2 → ¬ (t = 60 ∨ t = 61)) ∧ (l = 1 → t ≠ 4) ∧ (l = 0 → t ≠ 3) := by
  unfold jn at hj
  omega
theorem lt_of_ne {l k : Nat} (h : l ≤ k) (e : ¬ l = k) : l + 1 ≤ k := by omega
theorem xit_s {l t : Nat} {pd : List Nat} (h : xit (l + 1) t pd) (hj : ¬ jn l t) (h2 : l ≠ 2 → l ≤ 2 → (t = 60 ∨ t = 61) → ∃ p1 x p2, pd = p1 ++ x :: p2 ∧ rk x = 4 ∧ ∀ y, y ∈ p1 → 5 ≤ rk y) : xit l t pd := by
  obtain ⟨a1, a2, -, a4, a5⟩ := h
  obtain ⟨n1, n2, n3, n4, n5⟩ := jn_no hj
  refine ⟨fun q => ?_, fun q => ?_, fun q ht => ?_, fun q => ?_, fun q => ?_⟩
  · by_cases e : l = 4
    · exact n1 e
    · exact a1 (lt_of_ne q e)
  · by_cases e : l = 3
    · exact n2 e
    · exact a2 (lt_of_ne q e)
  · by_cases e : l = 2
    · exact absurd ht (n3 e)
    · exact h2 e q ht
  · by_cases e : l = 1
    · exact n4 e
    · exact a4 (lt_of_ne q e)
  · exact n5 (Nat.le_zero.mp q)
/-- a level's loop (but the third's) -/
theorem e_level_loop {m l o i0 : Nat} {c : List Nat} (E : cE S0 b n) (ih : StL κ S0 b n m) (hl : l ≤ 4) (h2 : l ≠ 2) (ho : o ≤ 5) (hm : (6 - (l + 1)) + 2 + 8 * (5 - o) ≤ m) (hc0 : c.length ≤ i0) : ∀ (k j v f : Nat) (d pd : List Nat) (S : it_SS), 160 ≤ j + k → k < f → v ≤ j → cX S0 S b n j (c ++ (d ++ pd)) → i0 < j → j ≤ tq b n j → (d ++ pd).length ≤ j - i0 → wfD (6 - l + 5 * (5 - o)) (d ++ pd) → (∀ y, y ∈ pd → Rm l ≤ rk y) → xit (l + 1) (tT b n j) pd → (∀ (h c' : List Nat) (mn : Bool), opn h = o → rtp h < Rl l → mnOK l mn (tT b n i0) → rf (tT b n) (tV b n) (200 - i0) i0 true mn h c' = rf (tT b n) (tV b n) (200 - j) j false true (pd ++ h) (c' ++ d)) →
    rOK S0 b n (lp_X3_readLevel_57 κ (f_rd κ m) (nI l) (nI o) (fun v27 S28 => if it_bz v27 = true then some (v27, S28) else none) f 1 160 (nI v) S) i0 c (6 - l + 5 * (5 - o)) (PfL b n l o i0) (PsL b n l o i0) := by
  have hn := E.1.1
  intro k
  induction k with
  | zero =>
    intro j v f d pd S hk hf hv hc hij hj hlen hwf hpd hx hrf
    obtain ⟨f, rfl⟩ : ∃ q, f = q + 1 := ⟨f - 1, by omega⟩
    have hq := tq_le (b := b) (n := n) (j + 1)
    have h13 : tT b n j = 13 := by
      by_cases e : tT b n j = 13
      · exact e
      · have := tq_s hj e
        omega
    have hnj : ¬ jn l (tT b n j) := fun q => (jn_13 q).1 h13
    have ex : xit l (tT b n j) pd := xit_s hx hnj (fun _ _ q => by rw [h13] at q; exact absurd q (by decide))
    have fin : rOK S0 b n (some ((1 : Int32), S)) i0 c (6 - l + 5 * (5 - o)) (PfL b n l o i0) (PsL b n l o i0) := Or.inr ⟨S, j, d ++ pd, rfl, hc, hij, hj, hlen, hwf, d, pd, rfl, hpd, ex, hrf⟩
    rw [lp_X3_readLevel_57]
    by_cases q : 160 ≤ nI v
    · rw [if_pos q, if_pos bz_1]
      exact fin
    · rw [if_neg q, if_neg (by decide), (e_joins (κ := κ) hl hc).2 hnj, it_bi_some, if_pos rfl, if_pos bz_1]
      exact fin
  | succ k ihk =>
    intro j v f d pd S hk hf hv hc hij hj hlen hwf hpd hx hrf
    obtain ⟨f, rfl⟩ : ∃ q, f = q + 1 := ⟨f - 1, by omega⟩
    by_cases hjn : jn l (tT b n j)
    · have h13 := jn_13 hjn
      have hj1 : j + 1 ≤ tq b n (j + 1) := tq_s hj h13.1
      have hq := tq_le (b := b) (n := n) (j + 1)
      have hj2 := tq_200 hn hj
      obtain ⟨S2, a1, a2⟩ := hc.next (κ := κ) E
      have g := ih (l + 1) o (j + 1) (c ++ (d ++ pd)) S2 (by omega) ho hm a2 hj1 (by rw [List.length_append]; omega)
      have rf1 : ∀ (h c' : List Nat) (mn : Bool), opn h = o → rtp h < Rl l → mnOK l mn (tT b n i0) → rf (tT b n) (tV b n) (200 - i0) i0 true mn h c' = rf (tT b n) (tV b n) (200 - (j + 1)) (j + 1) true (decide (tT b n j ≤ 4)) ((10000 + tT b n j) :: h) (c' ++ d ++ pd) := fun h c' mn e1 e2 e3 => by
        rw [hrf h c' mn e1 e2 e3]
        exact (rf_join (mn := true) (c := c' ++ d) hj2.1 h2 hjn hpd e2).1
      have mn1 : mnOK (l + 1) (decide (tT b n j ≤ 4)) (tT b n (j + 1)) := by
        unfold jn at hjn
        refine ⟨fun q => ?_, fun q _ => ?_⟩
        · exact decide_eq_true (by omega)
        · exact decide_eq_false (by omega)
      have e3 : S 5 3 = nI (tT b n j) := hc.2.2.2.1
      rw [lp_X3_readLevel_57, if_neg (show ¬ 160 ≤ nI v from nI_ge (b := 160) (by omega) (by decide)), if_neg (by decide), (e_joins (κ := κ) hl hc).1 hjn, it_bi_some, if_neg (by decide), a1, it_bi_some, e3, nI_1, nI_1, show (10000 : Int32) + nI (tT b n j) = nI (10000 + tT b n j) from nI_add 10000 _]
      rcases g with ⟨S4, j', g1, g2, g3⟩ | ⟨S4, j', e, g1, g2, g3, g4, g5, g6, d2, pd2, g7, g8, g9, g10⟩
      · obtain ⟨S5, b1, b2⟩ := g2.write (κ := κ) (x := nI (10000 + tT b n j))
        rw [g1, it_bi_some, b1, it_bi_some]
        have hf1 : ∃ f', f = f' + 1 := ⟨f - 1, by omega⟩
        obtain ⟨f', rfl⟩ := hf1
        have fin : rOK S0 b n (some ((0 : Int32), S5)) i0 c (6 - l + 5 * (5 - o)) (PfL b n l o i0) (PsL b n l o i0) := Or.inl ⟨S5, j', rfl, b2, fun h c' mn e1 e2 e3 => by
          have w := rf_join (T := tT b n) (V := tV b n) (mn := true) (c := c') hj2.1 h2 hjn hpd e2
          rw [rf1 h c' mn e1 e2 e3]
          exact g3 _ _ _ (w.2.2.2.2.1.trans e1) w.2.2.2.2.2 mn1⟩
        rw [lp_X3_readLevel_57]
        by_cases q : 160 ≤ nI (v + 1)
        · rw [if_pos q, if_pos bz_0]
          exact fin
        · rw [if_neg q, if_pos rfl, if_pos bz_0]
          exact fin
      · have hj3 := tq_200 hn g4
        have hll : (c ++ (d ++ pd) ++ e).length < 160 := by
          rw [List.length_append, List.length_append]
          omega
        obtain ⟨S5, b1, b2⟩ := g2.write (κ := κ) (v := 10000 + tT b n j) hll
        have w0 := rf_join (T := tT b n) (V := tV b n) (mn := true) (c := c) (h := []) (pd := pd) hj2.1 h2 hjn hpd (by show 0 < Rl l; unfold jn at hjn; rcases (show l = 0 ∨ l = 1 ∨ l = 3 ∨ l = 4 by omega) with rfl | rfl | rfl | rfl <;> decide)
        rw [g1, it_bi_some, b1, it_bi_some]
        have ea : c ++ (d ++ pd) ++ e ++ [10000 + tT b n j] = c ++ ((d ++ pd ++ d2) ++ (pd2 ++ [10000 + tT b n j])) := by
          rw [g7]
          simp only [List.append_assoc]
        have eb : d ++ pd ++ e ++ [10000 + tT b n j] = (d ++ pd ++ d2) ++ (pd2 ++ [10000 + tT b n j]) := by
          rw [g7]
          simp only [List.append_assoc]
        rw [ea] at b2
        refine ihk j' (v + 1) f (d ++ pd ++ d2) (pd2 ++ [10000 + tT b n j]) S5 (by omega) (by omega) (by omega) b2 (by omega) g4 ?_ ?_ (fun y hy => ?_) (xit_app g9) (fun h c' mn e1 e2 e3 => ?_)
        · rw [← eb, List.length_append, List.length_append]
          show (d ++ pd).length + e.length + 1 ≤ _
          omega
        · rw [← eb]
          have g6' : wfD (6 - (l + 1) + 5 * (5 - o)) e := g6
          have hD : 6 - l + 5 * (5 - o) = (6 - (l + 1) + 5 * (5 - o)) + 1 := by omega
          rw [hD] at hwf ⊢
          exact hwf.join g6' w0.2.2.2.1
        · rcases List.mem_append.mp hy with q | q
          · exact Nat.le_trans (Rm_s hl).1 (g8 y q)
          · rw [List.mem_singleton.mp q, w0.2.1, w0.2.2.1]
            exact Nat.le_refl _
        · have w := rf_join (T := tT b n) (V := tV b n) (mn := true) (c := c') hj2.1 h2 hjn hpd e2
          rw [rf1 h c' mn e1 e2 e3, g10 _ _ _ (w.2.2.2.2.1.trans e1) w.2.2.2.2.2 mn1]
          simp only [List.append_assoc, List.singleton_append]
    · have fin : rOK S0 b n (some ((1 : Int32), S)) i0 c (6 - l + 5 * (5 - o)) (PfL b n l o i0) (PsL b n l o i0) := Or.inr ⟨S, j, d ++ pd, rfl, hc, hij, hj, hlen, hwf, d, pd, rfl, hpd, xit_s hx hjn (fun e1 e2 q => hx.2.2.1 (lt_of_ne e2 e1) q), hrf⟩
      rw [lp_X3_readLevel_57]
      by_cases q : 160 ≤ nI v
      · rw [if_pos q, if_pos bz_1]
        exact fin
      · rw [if_neg q, if_neg (by decide), (e_joins (κ := κ) hl hc).2 hjn, it_bi_some, if_pos rfl, if_pos bz_1]
        exact fin
end READS
