section EREAD
variable {κ : it_KK} {S S' S0 : it_SS} {b : Nat → Nat} {n tt : Nat} {h c : List Nat}
/-! the reference's reading -/
def sc (y : Nat) : Nat := if y = 10040 then 0 else sp_mc y
def okc (y : Nat) : Prop := y = 10040 ∨ y = 10003 ∨ y = 10004 ∨ y = 10005 ∨ y = 10060 ∨ y = 10061 ∨ y = 10043 ∨ y = 10045 ∨ y = 10042 ∨ y = 10015
def okh (h : List Nat) : Prop := ∀ y, y ∈ h → okc y
def mH (S0 S : it_SS) (tt : Nat) (h c : List Nat) : Prop :=
  (∀ a, a ≠ 45 → a ≠ 51 → a ≠ 60 → S a = S0 a) ∧ (∀ j, j < 19 ∨ 22 < j ∧ j < 25 ∨ 27 < j → S 45 j = S0 45 j) ∧ S 45 25 = nI h.length ∧ sp_pile (S 60) (h.map (fun y => nI (sc y))) ∧ S 45 26 = nI (opn h) ∧ S 45 27 = nI c.length ∧ (∀ j, j < c.length → S 51 (200 * tt + j) = nI (sp_mc (c.getD j 0))) ∧ ∀ j, j < 200 * tt → S 51 j = S0 51 j
def mF (S0 S : it_SS) (b : Nat → Nat) (n tt j : Nat) : Prop := (∀ a, a ≠ 45 → a ≠ 51 → a ≠ 60 → S a = S0 a) ∧ (∀ j, j < 19 ∨ 22 < j ∧ j < 25 ∨ 27 < j → S 45 j = S0 45 j) ∧ (∀ j, j < 200 * tt → S 51 j = S0 51 j) ∧ S 45 20 = nI (tP b n j)
def mE (S0 : it_SS) (b : Nat → Nat) (n tt : Nat) : Prop := byts b n (S0 50) ∧ wT S0 ∧ S0 45 7 = nI n ∧ S0 45 10 = nI tt ∧ tt < 6
theorem e_rank {y : Nat} (hy : okc y) : f_X6_rank κ (nI (sc y)) S = some (nI (rk y), S) := by
  rcases hy with rfl | rfl | rfl | rfl | rfl | rfl | rfl | rfl | rfl | rfl <;> rfl
theorem rk_lt (y : Nat) : rk y < 8 := by
  unfold rk
  repeat' split
  all_goals decide
theorem opn_le : ∀ h : List Nat, opn h ≤ h.length
  | [] => Nat.le_refl _
  | y :: h => by
    have := opn_le h
    rw [opn, List.length_cons]
    split <;> omega
theorem st_len (r : Nat) : ∀ h : List Nat, (stp r h).length + (rst r h).length = h.length
  | [] => rfl
  | y :: h => by
    have := st_len r h
    rw [stp, rst]
    split
    · rw [List.length_cons, List.length_cons]
      omega
    · simp
theorem okh_rst {r : Nat} : ∀ {h : List Nat}, okh h → okh (rst r h)
  | [], q => q
  | y :: h, q => by
    rw [rst]
    split
    · exact okh_rst (fun z hz => q z (List.mem_cons_of_mem _ hz))
    · exact q
theorem okh_cons {y : Nat} (hy : okc y) (q : okh h) : okh (y :: h) := fun z hz => by
  rcases List.mem_cons.mp hz with e | e
  · rw [e]; exact hy
  · exact q z e
theorem e_puts {v : Nat} {x : Int32} (E : mE S0 b n tt) (m : mH S0 S tt h c) (hl : c.length < 200) (hx : x = nI (sp_mc v)) : ∃ S', f_X6_puts κ x S = some ((), S') ∧ mH S0 S' tt h (c ++ [v]) ∧ ∀ j, j ≠ 27 → S' 45 j = S 45 j := by
  obtain ⟨m1, m2, m3, m4, m5, m6, m7, m8⟩ := m
  obtain ⟨e1, e2, e3, e4, e5⟩ := E
  have h10 : S 45 10 = nI tt := (m2 10 (by omega)).trans e4
  have ea : 200 * nI tt + nI c.length = nI (200 * tt + c.length) := by rw [show (200 : Int32) = nI 200 from rfl, pk_mul, nI_add]
  refine ⟨it_up (it_up S 51 (200 * tt + c.length) x) 45 27 (nI (c.length + 1)), ?_, ⟨fun a h1 h2 h3 => by rw [it_up_ne h1, it_up_ne h2, m1 a h1 h2 h3], fun j hj => by rw [it_up_eq, upd, if_neg (by omega), it_up_ne (by decide), m2 j hj], by rw [it_up_eq, upd, if_neg (by decide), it_up_ne (by decide)]; exact m3, by rw [it_up_ne (by decide), it_up_ne (by decide)]; exact m4, by rw [it_up_eq, upd, if_neg (by decide), it_up_ne (by decide)]; exact m5, by rw [it_up_eq, upd, if_pos rfl, List.length_append]; rfl, fun j hj => ?_, fun j hj => by rw [it_up_ne (by decide), it_up_eq, upd, if_neg (by omega)]; exact m8 j hj⟩, fun j hj => by rw [it_up_eq, upd, if_neg hj, it_up_ne (by decide)]⟩
  · rw [f_X6_puts, it_up_ne (show (45 : Nat) ≠ 51 by decide), h10, m6, ea, if_pos (bd_nI (show 200 * tt + c.length < 1200 by omega) (by decide)), nI_clamp (by omega), nI_1]
  · rw [it_up_ne (by decide), it_up_eq, upd]
    rw [List.length_append] at hj
    have hj' : j < c.length + 1 := hj
    by_cases e : j = c.length
    · rw [if_pos (by omega), e, gd_1, hx]
    · rw [if_neg (by omega), gd_l (by omega)]
      exact m7 j (by omega)
/-- a sign waits that opens nothing -/
theorem e_holds {y : Nat} {x : Int32} (m : mH S0 S tt h c) (hl : h.length < 200) (hx : x = nI (sc y)) (ho : opn (y :: h) = opn h) : ∃ S', f_X6_holds κ x S = some ((), S') ∧ mH S0 S' tt (y :: h) c ∧ ∀ j, j ≠ 25 → S' 45 j = S 45 j := by
  obtain ⟨m1, m2, m3, m4, m5, m6, m7, m8⟩ := m
  refine ⟨it_up (it_up S 60 h.length x) 45 25 (nI (h.length + 1)), ?_, ⟨fun a h1 h2 h3 => by rw [it_up_ne h1, it_up_ne h3, m1 a h1 h2 h3], fun j hj => by rw [it_up_eq, upd, if_neg (by omega), it_up_ne (by decide), m2 j hj], by rw [it_up_eq, upd, if_pos rfl]; rfl, ?_, by rw [it_up_eq, upd, if_neg (by decide), it_up_ne (by decide), ho]; exact m5, by rw [it_up_eq, upd, if_neg (by decide), it_up_ne (by decide)]; exact m6, fun j hj => by rw [it_up_ne (by decide), it_up_ne (by decide)]; exact m7 j hj, fun j hj => by rw [it_up_ne (by decide), it_up_ne (by decide)]; exact m8 j hj⟩, fun j hj => by rw [it_up_eq, upd, if_neg hj, it_up_ne (by decide)]⟩
  · rw [f_X6_holds, it_up_ne (show (45 : Nat) ≠ 60 by decide), m3, if_pos (bd_nI hl (by decide)), nI_clamp (by omega), nI_1]
  · rw [it_up_ne (by decide), it_up_eq, List.map_cons, hx]
    have := sp_pile_push (nI (sc y)) m4
    rw [List.length_map] at this
    exact this
theorem e_opens {y : Nat} {x : Int32} (m : mH S0 S tt h c) (hl : h.length < 200) (hx : x = nI (sc y)) (ho : opn (y :: h) = opn h + 1) : (opn h = 5 → f_X6_opensOne κ x S = some (0, S)) ∧ (opn h ≠ 5 → ∃ S', f_X6_opensOne κ x S = some (1, S') ∧ mH S0 S' tt (y :: h) c ∧ ∀ j, j ≠ 25 → j ≠ 26 → S' 45 j = S 45 j) := by
  have m5 := m.2.2.2.2.1
  refine ⟨fun q => by rw [f_X6_opensOne, m5, q, if_pos (show nI 5 = 5 from rfl)], fun q => ?_⟩
  have hle := opn_le h
  obtain ⟨m1, m2, m3, m4, m5, m6, m7, m8⟩ := m
  refine ⟨it_up (it_up (it_up S 45 26 (nI (opn h + 1))) 60 h.length x) 45 25 (nI (h.length + 1)), ?_, ⟨fun a h1 h2 h3 => by rw [it_up_ne h1, it_up_ne h3, it_up_ne h1, m1 a h1 h2 h3], fun j hj => by rw [it_up_eq, upd, if_neg (by omega), it_up_ne (by decide), it_up_eq, upd, if_neg (by omega), m2 j hj], by rw [it_up_eq, upd, if_pos rfl]; rfl, ?_, by rw [it_up_eq, upd, if_neg (by decide), it_up_ne (by decide), it_up_eq, upd, if_pos rfl, ho], by rw [it_up_eq, upd, if_neg (by decide), it_up_ne (by decide), it_up_eq, upd, if_neg (by decide)]; exact m6, fun j hj => by rw [it_up_ne (by decide), it_up_ne (by decide), it_up_ne (by decide)]; exact m7 j hj, fun j hj => by rw [it_up_ne (by decide), it_up_ne (by decide), it_up_ne (by decide)]; exact m8 j hj⟩, fun j h25 h26 => by rw [it_up_eq, upd, if_neg h25, it_up_ne (by decide), it_up_eq, upd, if_neg h26]⟩
  · rw [f_X6_opensOne, m5, if_neg (show ¬ nI (opn h) = 5 from fun e => q ((nE (m := 5) (by omega) (by decide)).mp e)), nI_1, f_X6_holds, it_up_ne (show (45 : Nat) ≠ 60 by decide), show it_up S 45 26 (nI (opn h + 1)) 45 25 = nI h.length from (by rw [it_up_eq, upd, if_neg (by decide)]; exact m3), if_pos (bd_nI hl (by decide)), nI_clamp (by omega), nI_1, it_bi_some]
  · rw [it_up_ne (by decide), it_up_eq, it_up_ne (by decide), List.map_cons, hx]
    have := sp_pile_push (nI (sc y)) m4
    rw [List.length_map] at this
    exact this
theorem e_unwinds_loop {r : Nat} (E : mE S0 b n tt) (hr : 1 ≤ r) (hr8 : r < 8) : ∀ (h c : List Nat) (f : Nat) (S : it_SS), h.length < f → okh h → c.length + h.length ≤ 160 → mH S0 S tt h c → ∃ S', lp_X6_unwinds_0 κ (nI r) (fun S15 => some ((), S15)) f S = some ((), S') ∧ mH S0 S' tt (rst r h) (c ++ stp r h) ∧ ∀ j, j ≠ 25 → j ≠ 26 → j ≠ 27 → S' 45 j = S 45 j
  | [], c, f, S, hf, ho, hl, m => by
    obtain ⟨f, rfl⟩ : ∃ q, f = q + 1 := ⟨f - 1, by omega⟩
    refine ⟨S, ?_, ?_, fun _ _ _ _ => rfl⟩
    · rw [lp_X6_unwinds_0, m.2.2.1, if_pos (show nI ([] : List Nat).length ≤ 0 by decide)]
    · rw [rst, stp, List.append_nil]
      exact m
  | y :: h, c, f, S, hf, ho, hl, m => by
    obtain ⟨f, rfl⟩ : ∃ q, f = q + 1 := ⟨f - 1, by omega⟩
    rw [List.length_cons] at hf hl
    have hoy := ho y List.mem_cons_self
    have hrk := rk_lt y
    obtain ⟨m1, m2, m3, m4, m5, m6, m7, m8⟩ := m
    have m3' : S 45 25 = nI (h.length + 1) := m3
    rw [List.map_cons] at m4
    have tp := sp_pile_top m4
    rw [List.length_map] at tp
    have e1 : nI (h.length + 1) - 1 = nI h.length := nI_pred _
    rw [lp_X6_unwinds_0, m3', if_neg (show ¬ nI (h.length + 1) ≤ 0 from nI_ge (a := 0) (by omega) (by omega)), e1, if_pos (bd_nI (show h.length < 200 by omega) (by decide)), nI_clamp (by omega), tp.1, e_rank hoy, it_bi_some, rst, stp]
    by_cases q : r ≤ rk y
    · rw [if_neg (show ¬ nI (rk y) < nI r from nI_nlt q (by omega)), if_pos q, if_pos q]
      obtain ⟨S1, hS1⟩ : ∃ S1, S1 = it_up S 45 25 (nI h.length) := ⟨_, rfl⟩
      have a25 : S1 45 25 = nI h.length := by rw [hS1, it_up_eq, upd, if_pos rfl]
      have a60 : S1 60 h.length = nI (sc y) := by rw [hS1, it_up_ne (by decide)]; exact tp.1
      have a26 : S1 45 26 = nI (opn (y :: h)) := by rw [hS1, it_up_eq, upd, if_neg (by decide)]; exact m5
      have mm : ∀ v : Int32, v = nI (opn h) → mH S0 (it_up S1 45 26 v) tt h c := fun v hv =>
        ⟨fun a h1 h2 h3 => by rw [it_up_ne h1, hS1, it_up_ne h1, m1 a h1 h2 h3], fun j hj => by rw [it_up_eq, upd, if_neg (by omega), hS1, it_up_eq, upd, if_neg (by omega), m2 j hj], by rw [it_up_eq, upd, if_neg (by decide)]; exact a25, by rw [it_up_ne (by decide), hS1, it_up_ne (by decide)]; exact tp.2, by rw [it_up_eq, upd, if_pos rfl, hv], by rw [it_up_eq, upd, if_neg (by decide), hS1, it_up_eq, upd, if_neg (by decide)]; exact m6, fun j hj => by rw [it_up_ne (by decide), hS1, it_up_ne (by decide)]; exact m7 j hj, fun j hj => by rw [it_up_ne (by decide), hS1, it_up_ne (by decide)]; exact m8 j hj⟩
      have go : ∀ v : Int32, v = nI (opn h) → ∃ S', it_bi (f_X6_puts κ (nI (sc y)) (it_up S1 45 26 v)) (fun _ S8 => lp_X6_unwinds_0 κ (nI r) (fun S15 => some ((), S15)) f S8) = some ((), S') ∧ mH S0 S' tt (rst r h) (c ++ y :: stp r h) ∧ ∀ j, j ≠ 25 → j ≠ 26 → j ≠ 27 → S' 45 j = S 45 j := fun v hv => by
        have hsc : sc y = sp_mc y := if_neg (fun e => by rw [e] at q; have : rk 10040 = 0 := rfl; omega)
        obtain ⟨S2, p1, p2, p3⟩ := e_puts (κ := κ) (v := y) E (mm v hv) (by omega) (congrArg nI hsc)
        obtain ⟨S3, q1, q2, q3⟩ := e_unwinds_loop E hr hr8 h (c ++ [y]) f S2 (by omega) (fun z hz => ho z (List.mem_cons_of_mem _ hz)) (by rw [List.length_append]; show c.length + 1 + h.length ≤ 160; omega) p2
        refine ⟨S3, by rw [p1, it_bi_some]; exact q1, ?_, fun j h25 h26 h27 => by rw [q3 j h25 h26 h27, p3 j h27, it_up_eq, upd, if_neg h26, hS1, it_up_eq, upd, if_neg h25]⟩
        rw [List.append_assoc] at q2
        exact q2
      rw [m3', e1, ← hS1, a25, if_pos (bd_nI (show h.length < 200 by omega) (by decide)), nI_clamp (by omega), a60, a26]
      by_cases t1 : y = 10005
      · subst t1
        rw [if_pos (show nI (sc 10005) = 13 from rfl)]
        exact go _ (by rw [opn, if_pos (by decide), Nat.add_comm]; exact nI_pred _)
      · by_cases t2 : y = 10015
        · subst t2
          rw [if_neg (show ¬ nI (sc 10015) = 13 by decide), if_pos (show nI (sc 10015) = 19 from rfl)]
          exact go _ (by rw [opn, if_pos (by decide), Nat.add_comm]; exact nI_pred _)
        · have t3 : y ≠ 10040 := fun e => by rw [e] at q; have : rk 10040 = 0 := rfl; omega
          have n13 : ¬ nI (sc y) = 13 ∧ ¬ nI (sc y) = 19 := by
            rcases hoy with rfl | rfl | rfl | rfl | rfl | rfl | rfl | rfl | rfl | rfl <;> first | decide | exact absurd rfl t1 | exact absurd rfl t2 | exact absurd rfl t3
          rw [if_neg n13.1, if_neg n13.2]
          exact go _ (by rw [opn, if_neg (by omega), Nat.zero_add]; exact Int32.sub_zero _)
    · rw [if_pos (show nI (rk y) < nI r from nI_lt (by omega) (by omega)), if_neg q, if_neg q, List.append_nil]
      exact ⟨S, rfl, ⟨m1, m2, m3, by rw [List.map_cons]; exact m4, m5, m6, m7, m8⟩, fun _ _ _ _ => rfl⟩
theorem e_unwinds {r : Nat} {x : Int32} (E : mE S0 b n tt) (hx : x = nI r) (hr : 1 ≤ r) (hr8 : r < 8) (ho : okh h) (hl : c.length + h.length ≤ 160) (m : mH S0 S tt h c) : ∃ S', f_X6_unwinds κ x S = some ((), S') ∧ mH S0 S' tt (rst r h) (c ++ stp r h) ∧ ∀ j, j ≠ 25 → j ≠ 26 → j ≠ 27 → S' 45 j = S 45 j := by
  rw [f_X6_unwinds, hx]
  exact e_unwinds_loop E hr hr8 h c it_FU S (by show h.length < 100000; omega) ho hl m
/-- a sign between two -/
theorem e_between {y r : Nat} {x : Int32} (E : mE S0 b n tt) (hy : okc y) (hx : x = nI (sc y)) (hop : ∀ h, opn (y :: h) = opn h) (hrk : 1 ≤ rk y) (hr : r = if rk y = 4 then 5 else rk y) (ho : okh h) (hl : c.length + h.length ≤ 160) (m : mH S0 S tt h c) :
    (rk y = 4 ∧ rtp (rst r h) = 4 → ∃ S', f_X6_between κ x S = some (0, S') ∧ mH S0 S' tt (rst r h) (c ++ stp r h) ∧ ∀ j, j ≠ 25 → j ≠ 26 → j ≠ 27 → S' 45 j = S 45 j) ∧
    (¬ (rk y = 4 ∧ rtp (rst r h) = 4) → ∃ S', f_X6_between κ x S = some (1, S') ∧ mH S0 S' tt (y :: rst r h) (c ++ stp r h) ∧ ∀ j, j ≠ 25 → j ≠ 26 → j ≠ 27 → S' 45 j = S 45 j) := by
  have h8 := rk_lt y
  have hlen := st_len r h
  subst hx
  obtain ⟨S1, u1, u2, u3⟩ := e_unwinds (κ := κ) (x := nI r) E rfl (by rw [hr]; split <;> omega) (by rw [hr]; split <;> omega) ho hl m
  have ho1 := okh_rst (r := r) ho
  obtain ⟨S2, w1, w2, w3⟩ := e_holds (κ := κ) (y := y) u2 (by omega) rfl (hop _)
  have fr : ∀ j, j ≠ 25 → j ≠ 26 → j ≠ 27 → S2 45 j = S 45 j := fun j h1 h2 h3 => (w3 j h1).trans (u3 j h1 h2 h3)
  rw [f_X6_between, e_rank hy, it_bi_some]
  by_cases q : rk y = 4
  · have hr5 : r = 5 := by rw [hr, if_pos q]
    have u5 : f_X6_unwinds κ 5 S = some ((), S1) := by rw [hr5] at u1; exact u1
    rw [if_pos (show nI (rk y) = 4 from congrArg nI q), u5, it_bi_some, e_rank hy, it_bi_some, if_pos (show nI (rk y) = 4 from congrArg nI q), u2.2.2.1]
    cases hh : rst r h with
    | nil =>
      rw [hh] at w2
      rw [if_pos (show nI ([] : List Nat).length ≤ 0 by decide), w1, it_bi_some]
      exact ⟨fun c => absurd c.2 (by decide), fun _ => ⟨S2, rfl, w2, fr⟩⟩
    | cons z t =>
      have hoz := ho1 z (by rw [hh]; exact List.mem_cons_self)
      have hz8 := rk_lt z
      have tl : t.length < 200 := by rw [hh, List.length_cons] at hlen; omega
      have u4 := u2.2.2.2.1
      rw [hh, List.map_cons] at u4
      have tp := sp_pile_top u4
      rw [List.length_map] at tp
      rw [hh] at w2 u2
      rw [if_neg (show ¬ nI (z :: t).length ≤ 0 from nI_ge (a := 0) (by rw [List.length_cons]; omega) (by rw [List.length_cons]; omega)), show nI (z :: t).length - 1 = nI t.length from nI_pred _, if_pos (bd_nI tl (by decide)), nI_clamp (by omega), tp.1, e_rank hoz, it_bi_some]
      by_cases q2 : rk z = 4
      · rw [if_pos (show nI (rk z) = 4 from congrArg nI q2)]
        exact ⟨fun _ => ⟨S1, rfl, u2, u3⟩, fun c => absurd ⟨q, q2⟩ c⟩
      · rw [if_neg (show ¬ nI (rk z) = 4 from fun e => q2 ((nE (m := 4) (by omega) (by decide)).mp e)), w1, it_bi_some]
        exact ⟨fun c => absurd c.2 q2, fun _ => ⟨S2, rfl, w2, fr⟩⟩
  · have hrr : r = rk y := by rw [hr, if_neg q]
    have nq : ¬ nI (rk y) = 4 := fun e => q ((nE (m := 4) (by omega) (by decide)).mp e)
    have u5 : f_X6_unwinds κ (nI (rk y)) S = some ((), S1) := by rw [← hrr]; exact u1
    rw [if_neg nq, e_rank hy, it_bi_some, u5, it_bi_some, e_rank hy, it_bi_some, if_neg nq, w1, it_bi_some]
    exact ⟨fun c => absurd c.1 q, fun _ => ⟨S2, rfl, w2, fr⟩⟩
def sgf (x : Int32) : Int32 := if x = 4 then 11 else if x = 5 then 12 else if x = 60 then 14 else if x = 61 then 15 else if x = 43 then 16 else if x = 45 then 17 else if x = 42 then 18 else -1
theorem e_signOf : f_X6_signOf κ S = some (sgf (S 45 21), S) := by
  rw [f_X6_signOf, sgf]
  repeat' split
  all_goals rfl
theorem sgf_t : ∀ t, t < 62 → (t = 3 ∨ t = 4 ∨ t = 60 ∨ t = 61 ∨ t = 43 ∨ t = 45 ∨ t = 42 → sgf (rt t) = nI (sc (10000 + t)) ∧ ¬ sgf (rt t) = -1) ∧ (¬ (t = 3 ∨ t = 4 ∨ t = 60 ∨ t = 61 ∨ t = 43 ∨ t = 45 ∨ t = 42) → sgf (rt t) = -1) := by decide +kernel
theorem rt_k : ∀ t, t < 62 → ((rt t = 59 ↔ t = 59) ∧ (rt t = 41 ↔ t = 41) ∧ (rt t = 1 ↔ t = 12) ∧ (rt t = 2 ↔ (6 ≤ t ∧ t < 12)) ∧ (rt t = 6 ↔ t = 5) ∧ (rt t = 45 ↔ t = 45) ∧ (rt t = 40 ↔ t = 40) ∧ (rt t = 3 ↔ t < 3) ∧ (rt t = 0 ↔ t = 13)) := by decide +kernel
/-- next(), as the reading goes -/
theorem e_nx {i : Nat} (E : mE S0 b n tt) (m : mH S0 S tt h c) (h19 : S 45 19 = nI (tq b n i)) : ∃ S', f_X6_next κ S = some ((), S') ∧ mH S0 S' tt h c ∧ S' 45 19 = nI (tq b n (i + 1)) ∧ S' 45 21 = rt (tT b n i) ∧ S' 45 20 = nI (tP b n i) ∧ (tT b n i = 12 → S' 45 22 = nI (tV b n i)) ∧ (tT b n i < 3 → S' 45 22 = nI (tT b n i)) ∧ (6 ≤ tT b n i ∧ tT b n i < 12 → S' 45 22 = nI (tT b n i - 6)) := by
  obtain ⟨m1, m2, m3, m4, m5, m6, m7, m8⟩ := m
  obtain ⟨e1, e2, e3, e4, e5⟩ := E
  obtain ⟨S', a1, a2, a3, a4, a5, a6, a7, a8, a9⟩ := e_next_m (κ := κ) (S := S) (b := b) (n := n) (tq_le i) (by rw [m1 50 (by decide) (by decide) (by decide)]; exact e1) (fun j hj => by rw [m1 59 (by decide) (by decide) (by decide)]; exact e2 j hj) (by rw [m2 7 (by omega)]; exact e3) h19
  exact ⟨S', a1, ⟨fun a h1 h2 h3 => (a2 a h1).trans (m1 a h1 h2 h3), fun j hj => (a3 j (by omega) (by omega) (by omega) (by omega)).trans (m2 j hj), by rw [a3 25 (by decide) (by decide) (by decide) (by decide)]; exact m3, by rw [a2 60 (by decide)]; exact m4, by rw [a3 26 (by decide) (by decide) (by decide) (by decide)]; exact m5, by rw [a3 27 (by decide) (by decide) (by decide) (by decide)]; exact m6, fun j hj => by rw [a2 51 (by decide)]; exact m7 j hj, fun j hj => by rw [a2 51 (by decide)]; exact m8 j hj⟩, a4, a5, a6, a7, a8, a9⟩
theorem mH.F {j : Nat} (m : mH S0 S tt h c) (h20 : S 45 20 = nI (tP b n j)) : mF S0 S b n tt j := ⟨m.1, m.2.1, m.2.2.2.2.2.2.2, h20⟩
end EREAD
