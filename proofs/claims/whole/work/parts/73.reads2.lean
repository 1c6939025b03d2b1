section READS2
variable {κ : it_KK} {S S' S0 : it_SS} {b : Nat → Nat} {n : Nat}
/-- the third level, behind its first SUM -/
theorem e_cmp {m o i0 j f : Nat} {c d pd : List Nat} (E : cE S0 b n) (ih : StL κ S0 b n m) (ho : o ≤ 5) (hm : (6 - 3) + 2 + 8 * (5 - o) ≤ m) (hc0 : c.length ≤ i0) (hn5 : tT b n i0 ≠ 5) (hc : cX S0 S b n j (c ++ (d ++ pd))) (hij : i0 < j) (hj : j ≤ tq b n j) (hlen : (d ++ pd).length ≤ j - i0) (hwf : wfD (3 + 5 * (5 - o)) (d ++ pd)) (hpd : ∀ y, y ∈ pd → Rm 3 ≤ rk y) (hx : xit 3 (tT b n j) pd) (hrf : ∀ (h c' : List Nat) (mn : Bool), opn h = o → rtp h < Rl 2 → mnOK 2 mn (tT b n i0) → rf (tT b n) (tV b n) (200 - i0) i0 true mn h c' = rf (tT b n) (tV b n) (200 - j) j false true (pd ++ h) (c' ++ d)) :
    rOK S0 b n (lp_X3_readLevel_57 κ (f_rd κ m) 2 (nI o) (fun v27 S28 => if it_bz v27 = true then some (v27, S28) else none) (f + 2) 1 1 0 S) i0 c (4 + 5 * (5 - o)) (PfL b n 2 o i0) (PsL b n 2 o i0) := by
  have hn := E.1.1
  by_cases hjn : jn 2 (tT b n j)
  · have ht : tT b n j = 60 ∨ tT b n j = 61 := by
      unfold jn at hjn
      omega
    have hj1 : j + 1 ≤ tq b n (j + 1) := tq_s hj (jn_13 hjn).1
    have hj2 := tq_200 hn hj
    have hj12 := tq_200 hn hj1
    obtain ⟨S2, a1, a2⟩ := hc.next (κ := κ) E
    have g := ih 3 o (j + 1) (c ++ (d ++ pd)) S2 (by omega) ho hm a2 hj1 (by rw [List.length_append]; omega)
    have rk4 : rk (10000 + tT b n j) = 4 ∧ sp_joi (10000 + tT b n j) ∧ ∀ h, opn ((10000 + tT b n j) :: h) = opn h := by
      rcases ht with e | e <;> rw [e]
      · exact ⟨rfl, by simp [sp_joi], fun h => by rw [opn]; simp⟩
      · exact ⟨rfl, by simp [sp_joi], fun h => by rw [opn]; simp⟩
    have rf1 : ∀ (h c' : List Nat) (mn : Bool), opn h = o → rtp h < Rl 2 → mnOK 2 mn (tT b n i0) → rf (tT b n) (tV b n) (200 - i0) i0 true mn h c' = rf (tT b n) (tV b n) (200 - (j + 1)) (j + 1) true false ((10000 + tT b n j) :: h) (c' ++ d ++ pd) := fun h c' mn e1 e2 e3 => by
      have e2' : rtp h < 4 := e2
      have st := st_all (r := 5) (h := h) hpd (by omega)
      rw [hrf h c' mn e1 e2 e3, rf_cmp hj2.1 ht, st.1, st.2, if_neg (by omega)]
    have mn1 : mnOK 3 false (tT b n (j + 1)) := ⟨fun q => absurd q (by decide), fun _ _ => rfl⟩
    have e3 : S 5 3 = nI (tT b n j) := hc.2.2.2.1
    rw [lp_X3_readLevel_57, if_neg (by decide), if_neg (by decide), show f_X3_joins κ 2 S = _ from (e_joins (κ := κ) (l := 2) (by decide) hc).1 hjn, it_bi_some, if_neg (by decide), a1, it_bi_some, e3, show (10000 : Int32) + nI (tT b n j) = nI (10000 + tT b n j) from nI_add 10000 _]
    rcases g with ⟨S4, j', g1, g2, g3⟩ | ⟨S4, j', e, g1, g2, g3, g4, g5, g6, d2, pd2, g7, g8, g9, g10⟩
    · obtain ⟨S5, b1, b2⟩ := g2.write (κ := κ) (x := nI (10000 + tT b n j))
      rw [show f_rd κ m 0 (2 + 1) (nI o) S2 = _ from g1, it_bi_some, b1, it_bi_some, lp_X3_readLevel_57, if_pos (by decide), if_pos bz_0]
      refine Or.inl ⟨S5, j', rfl, b2, fun h c' mn e1 e2 e3 => ?_⟩
      rw [rf1 h c' mn e1 e2 e3]
      exact g3 _ _ _ ((rk4.2.2 h).trans e1) (by show rk _ < 5; rw [rk4.1]; decide) mn1
    · have hj3 := tq_200 hn g4
      have hll : (c ++ (d ++ pd) ++ e).length < 160 := by
        rw [List.length_append, List.length_append]
        omega
      obtain ⟨S5, b1, b2⟩ := g2.write (κ := κ) (v := 10000 + tT b n j) hll
      rw [show f_rd κ m 0 (2 + 1) (nI o) S2 = _ from g1, it_bi_some, b1, it_bi_some, lp_X3_readLevel_57, if_pos (by decide), if_pos bz_1]
      have ea : c ++ (d ++ pd) ++ e ++ [10000 + tT b n j] = c ++ (d ++ pd ++ e ++ [10000 + tT b n j]) := by
        simp only [List.append_assoc]
      have eb : d ++ pd ++ e ++ [10000 + tT b n j] = (d ++ pd ++ d2) ++ (pd2 ++ [10000 + tT b n j]) := by
        rw [g7]
        simp only [List.append_assoc]
      rw [ea] at b2
      refine Or.inr ⟨S5, j', d ++ pd ++ e ++ [10000 + tT b n j], rfl, b2, by omega, g4, ?_, ?_, d ++ pd ++ d2, pd2 ++ [10000 + tT b n j], eb, fun y hy => ?_, ⟨fun _ => g9.1 (by decide), fun _ => g9.2.1 (by decide), fun _ _ => ⟨pd2, 10000 + tT b n j, [], rfl, rk4.1, g8⟩, fun q => absurd q (by decide), fun q => absurd q (by decide)⟩, fun h c' mn e1 e2 e3 => ?_⟩
      · rw [List.length_append, List.length_append]
        show (d ++ pd).length + e.length + 1 ≤ _
        omega
      · have hD : 4 + 5 * (5 - o) = (3 + 5 * (5 - o)) + 1 := by omega
        rw [hD]
        exact (hwf.mono (by omega)).join g6 rk4.2.1
      · rcases List.mem_append.mp hy with q | q
        · exact Nat.le_trans (by decide) (g8 y q)
        · rw [List.mem_singleton.mp q, rk4.1]
          decide
      · rw [rf1 h c' mn e1 e2 e3, g10 _ _ _ ((rk4.2.2 h).trans e1) (by show rk _ < 5; rw [rk4.1]; decide) mn1]
        simp only [List.append_assoc, List.singleton_append]
  · rw [lp_X3_readLevel_57, if_neg (by decide), if_neg (by decide), show f_X3_joins κ 2 S = _ from (e_joins (κ := κ) (l := 2) (by decide) hc).2 hjn, it_bi_some, if_pos rfl, if_pos bz_1]
    exact Or.inr ⟨S, j, d ++ pd, rfl, hc, hij, hj, hlen, hwf.mono (by omega), d, pd, rfl, fun y hy => Nat.le_trans (by decide) (hpd y hy), xit_s hx hjn (fun e1 _ _ => absurd rfl e1), hrf⟩
theorem PfL.up {l o i j : Nat} (hl : l ≤ 4) (h5 : l = 2 → tT b n i ≠ 5) (h : PfL b n (l + 1) o i j) : PfL b n l o i j := fun h' c' mn e1 e2 e3 => h h' c' mn e1 (Nat.lt_of_lt_of_le e2 (Rm_s hl).2) ⟨fun q => e3.1 (by omega), fun q t5 => by
  by_cases e : l = 2
  · exact absurd t5 (h5 e)
  · exact e3.2 (by omega) t5⟩
theorem e_level {m : Nat} (E : cE S0 b n) (ihL : StL κ S0 b n m) (ihO : StO κ S0 b n m) (ihN : StN κ S0 b n m) : StL κ S0 b n (m + 1) := by
  intro l o i c S hl ho hm hc hi hlen
  have hn := E.1.1
  have h2 := tq_200 hn hi
  rw [f_rd, if_pos rfl, f_X3_readLevel]
  by_cases h4 : l ≤ 4
  · rw [if_pos (show nI l ≤ 4 from nI_le h4 (by decide))]
    have main : (l = 2 → tT b n i ≠ 5) → rOK S0 b n (it_bi (f_rd κ m 0 (nI l + 1) (nI o) S) (fun r4 S3 => if nI l = 2 then lp_X3_readLevel_57 κ (f_rd κ m) (nI l) (nI o) (fun v20 S21 => if it_bz v20 = true then some (v20, S21) else none) it_FU r4 1 0 S3 else lp_X3_readLevel_57 κ (f_rd κ m) (nI l) (nI o) (fun v17 S18 => if it_bz v17 = true then some (v17, S18) else none) it_FU r4 160 0 S3)) i c (6 - l + 5 * (5 - o)) (PfL b n l o i) (PsL b n l o i) := fun h5 => by
      have g := ihL (l + 1) o i c S (by omega) ho (by omega) hc hi hlen
      rw [nI_1]
      rcases g with ⟨S4, j, g1, g2, g3⟩ | ⟨S4, j, e, g1, g2, g3, g4, g5, g6, d, pd, g7, g8, g9, g10⟩
      · rw [g1, it_bi_some]
        have fin : rOK S0 b n (some ((0 : Int32), S4)) i c (6 - l + 5 * (5 - o)) (PfL b n l o i) (PsL b n l o i) := Or.inl ⟨S4, j, rfl, g2, PfL.up h4 h5 g3⟩
        by_cases e2 : l = 2
        · subst e2
          rw [if_pos (show nI 2 = 2 from rfl), show it_FU = 99999 + 1 from rfl, lp_X3_readLevel_57, if_neg (by decide), if_pos rfl, if_pos bz_0]
          exact fin
        · rw [if_neg (show ¬ nI l = 2 from fun q => e2 ((nE (m := 2) (by omega) (by decide)).mp q)), show it_FU = 99999 + 1 from rfl, lp_X3_readLevel_57, if_neg (by decide), if_pos rfl, if_pos bz_0]
          exact fin
      · rw [g1, it_bi_some]
        have hrf : ∀ (h c' : List Nat) (mn : Bool), opn h = o → rtp h < Rl l → mnOK l mn (tT b n i) → rf (tT b n) (tV b n) (200 - i) i true mn h c' = rf (tT b n) (tV b n) (200 - j) j false true (pd ++ h) (c' ++ d) := fun h' c' mn e1 e2 e3 => g10 h' c' mn e1 (Nat.lt_of_lt_of_le e2 (Rm_s h4).2) ⟨fun q => e3.1 (Nat.le_of_succ_le q), fun q t5 => by
          by_cases e : l = 2
          · exact absurd t5 (h5 e)
          · exact e3.2 (by clear g9 g10; omega) t5⟩
        rw [g7] at g2 g5 g6
        have hj := tq_le (b := b) (n := n) j
        by_cases e2 : l = 2
        · subst e2
          rw [if_pos (show nI 2 = 2 from rfl)]
          exact e_cmp (f := 99998) E ihL ho (by omega) hlen (h5 rfl) g2 g3 g4 g5 g6 g8 g9 hrf
        · rw [if_neg (show ¬ nI l = 2 from fun q => e2 ((nE (m := 2) (by clear g9 g10; omega) (by decide)).mp q))]
          exact e_level_loop E ihL h4 e2 ho (by clear g9 g10; omega) hlen 160 j 0 it_FU d pd S4 (by clear g9 g10; omega) (by decide) (Nat.zero_le _) g2 g3 g4 g5 (g6.mono (by clear g9 g10; omega)) (fun y hy => Nat.le_trans (Rm_s h4).1 (g8 y hy)) g9 hrf
    by_cases e2 : l = 2
    · subst e2
      rw [if_pos (show nI 2 = 2 from rfl), hc.2.2.2.1]
      by_cases e5 : tT b n i = 5
      · rw [if_pos (show nI (tT b n i) = 5 from congrArg nI e5)]
        exact (ihN o i c S ho (by omega) e5 hc hi hlen).bz
      · rw [if_neg (show ¬ nI (tT b n i) = 5 from tok_eq (by decide) e5)]
        exact main (fun _ => e5)
    · rw [if_neg (show ¬ nI l = 2 from fun q => e2 ((nE (m := 2) (by omega) (by decide)).mp q))]
      exact main (fun q => absurd q e2)
  · obtain rfl : l = 5 := by omega
    rw [if_neg (show ¬ nI 5 ≤ 4 by decide)]
    have g := ihO o i c S ho (by omega) hc hi hlen
    have g' : rOK S0 b n (f_rd κ m 1 (nI o) 0 S) i c (6 - 5 + 5 * (5 - o)) (PfL b n 5 o i) (PsL b n 5 o i) := by
      rcases g with ⟨S4, j, g1, g2, g3⟩ | ⟨S4, j, e, g1, g2, g3, g4, g5, g6, g7⟩
      · exact Or.inl ⟨S4, j, g1, g2, fun h c' mn e1 e2 e3 => g3 h c' mn e1 (e3.2 (by decide))⟩
      · refine Or.inr ⟨S4, j, e, g1, g2, g3, g4, g5, g6.mono (by omega), e, [], (List.append_nil e).symm, fun y hy => absurd hy (by simp), ⟨fun q => absurd q (by decide), fun q => absurd q (by decide), fun q => absurd q (by decide), fun q => absurd q (by decide), fun q => absurd q (by decide)⟩, fun h c' mn e1 e2 e3 => ?_⟩
        have st := st_top (r := 7) (h := h) e2
        rw [g7 h c' mn e1 (e3.2 (by decide)), st.1, st.2, List.append_nil]
        rfl
    exact g'.bz
theorem e_all (E : cE S0 b n) : ∀ m, StL κ S0 b n m ∧ StO κ S0 b n m ∧ StN κ S0 b n m ∧ StM κ S0 b n m ∧ StI κ S0 b n m
  | 0 => ⟨fun l o i c S h1 h2 h3 => by omega, fun o i c S h1 h2 => by omega, fun o i c S h1 h2 => by omega, fun o i c S h1 h2 => by omega, fun o i c S h1 h2 => by omega⟩
  | m + 1 => by
    obtain ⟨h1, h2, h3, h4, h5⟩ := e_all E m
    exact ⟨e_level E h1 h2 h3, e_one E h4 h5, e_nots E h1, e_minus E h2, e_inner E h1⟩
/-- an E, the class's -/
theorem e_readTop {i : Nat} {c : List Nat} (E : cE S0 b n) (hc : cX S0 S b n i c) (hi : i ≤ tq b n i) (hl : c.length ≤ i) :
    (∃ S' j, f_X3_readTop κ 0 0 S = some (0, S') ∧ cF S0 S' b n j ∧ rf (tT b n) (tV b n) (200 - i) i true true [] c = some (false, j, [])) ∨
    (∃ S' j e, f_X3_readTop κ 0 0 S = some (1, S') ∧ cX S0 S' b n j (c ++ e) ∧ i < j ∧ j ≤ tq b n j ∧ e.length ≤ j - i ∧ sp_wf 0 e ∧ rf (tT b n) (tV b n) (200 - i) i true true [] c = if tT b n j = 59 then some (true, j, c ++ e) else some (false, j, [])) := by
  have g := (e_all (κ := κ) E 60).1 0 0 i c S (by decide) (by decide) (by decide) hc hi hl
  rcases g with ⟨S4, j, g1, g2, g3⟩ | ⟨S4, j, e, g1, g2, g3, g4, g5, g6, d, pd, g7, g8, g9, g10⟩
  · exact Or.inl ⟨S4, j, g1, g2, g3 [] c true rfl (by decide) ⟨fun _ => rfl, fun q => absurd q (by decide)⟩⟩
  · refine Or.inr ⟨S4, j, e, g1, g2, g3, g4, g5, ?_, ?_⟩
    · have := g6 0 [] (by decide) (show (0 + 1 : Nat) = 1 from rfl)
      rwa [List.append_nil] at this
    · have hj := tq_200 E.1.1 g4
      have st := st_all (r := 1) (h := []) g8 (by decide)
      rw [g10 [] c true rfl (by decide) ⟨fun _ => rfl, fun q => absurd q (by decide)⟩]
      by_cases q : tT b n j = 59
      · rw [if_pos q, rf_semi hj.1 q, st.1, st.2, if_pos rfl, g7, List.append_assoc]
      · rw [if_neg q]
        exact rf_stop hj.1 g9 g8 (Or.inl ⟨rfl, q⟩)
/-! a text: three parts -/
def rq (T V : Nat → Nat) (p i : Nat) (c : List Nat) : Option (Bool × Nat × List Nat) := if T i = p then rf T V (200 - (i + 1)) (i + 1) true true [] c else some (false, i, [])
/-- whether it is good; where its fault is; what its parts are, one behind the other -/
def rtx (T V : Nat → Nat) : Option (Bool × Nat × List Nat × List Nat × List Nat) := match rq T V 0 0 [] with
  | none => none
  | some (false, j, _) => some (false, j, [], [], [])
  | some (true, j, c0) => match rq T V 1 (j + 1) c0 with
    | none => none
    | some (false, j, _) => some (false, j, [], [], [])
    | some (true, j, c1) => match rq T V 2 (j + 1) c1 with
      | none => none
      | some (false, j, _) => some (false, j, [], [], [])
      | some (true, j, c2) => if T (j + 1) = 13 then some (true, j + 1, c0, c1, c2) else some (false, j + 1, [], [], [])
/-- a part, the class's -/
theorem e_part {p i f : Nat} {c : List Nat} {kont : it_SS → Option (Int32 × it_SS)} (hp : p < 3) (E : cE S b n) (hc : cX S S b n i c) (hi : i ≤ tq b n i) (hl : c.length ≤ i) :
    (∃ S' j, lp_X3_isRead_16 κ kont (f + 1) (nI p) S = some (0, S') ∧ cF S S' b n j ∧ rq (tT b n) (tV b n) p i c = some (false, j, [])) ∨
    (∃ S' j e, lp_X3_isRead_16 κ kont (f + 1) (nI p) S = lp_X3_isRead_16 κ kont f (nI (p + 1)) S' ∧ (∀ a, a ≠ 5 → a ≠ 7 → a ≠ 8 → S' a = S a) ∧ S' 8 p = nI (c ++ e).length ∧ (∀ q, q ≠ p → S' 8 q = S 8 q) ∧ cE S' b n ∧ cX S' S' b n (j + 1) (c ++ e) ∧ j + 1 ≤ tq b n (j + 1) ∧ (c ++ e).length ≤ j + 1 ∧ sp_wf 0 e ∧ rq (tT b n) (tV b n) p i c = some (true, j, c ++ e)) := by
  have hn := E.1.1
  have ht := tT_lt (b := b) (n := n) i
  have hi2 := tq_200 hn hi
  rw [lp_X3_isRead_16, if_neg (show ¬ 2 < nI p from nI_nlt (a := 2) (by omega) (by decide)), hc.2.2.2.1, rq]
  by_cases q : tT b n i = p
  · obtain ⟨S1, a1, a2⟩ := hc.next (κ := κ) E
    have hi1 : i + 1 ≤ tq b n (i + 1) := tq_s hi (by omega)
    rw [if_pos (congrArg nI q), if_pos q, a1, it_bi_some]
    rcases e_readTop (κ := κ) E a2 hi1 (by omega) with ⟨S2, j, g1, g2, g3⟩ | ⟨S2, j, e, g1, g2, g3, g4, g5, g6, g7⟩
    · exact Or.inl ⟨S2, j, by rw [g1, it_bi_some, if_pos rfl], g2, g3⟩
    · have hj := tq_200 hn g4
      rw [g1, it_bi_some, if_neg (by decide), g2.2.2.2.1, g7]
      by_cases q2 : tT b n j = 59
      · obtain ⟨S3, c1, c2⟩ := g2.next (κ := κ) E
        rw [if_pos (show nI (tT b n j) = 59 from congrArg nI q2), if_pos q2, c1, it_bi_some, if_pos (bd_nI hp (by decide)), nI_clamp (by omega), c2.2.2.2.2.2.2.1, nI_1]
        refine Or.inr ⟨_, j, e, rfl, fun a a5 a7 a8 => by rw [it_up_ne a8, c2.1 a a5 a7], by rw [it_up_eq, upd, if_pos rfl], fun q hq => by rw [it_up_eq, upd, if_neg hq, c2.1 8 (by decide) (by decide)], ?_, ?_, tq_s g4 (by omega), by rw [List.length_append]; omega, g6, rfl⟩
        · exact ⟨by rw [it_up_ne (by decide), c2.1 6 (by decide) (by decide)]; exact E.1, by rw [it_up_ne (by decide), c2.2.1 1 (by decide) (by decide) (by decide) (by decide) (by decide)]; exact E.2⟩
        · obtain ⟨-, -, d3, d4, d5, d6, d7, d8⟩ := c2
          exact ⟨fun _ _ _ => rfl, fun _ _ _ _ _ _ => rfl, by rw [it_up_ne (by decide)]; exact d3, by rw [it_up_ne (by decide)]; exact d4, by rw [it_up_ne (by decide)]; exact d5, fun q => by rw [it_up_ne (by decide)]; exact d6 q, by rw [it_up_ne (by decide)]; exact d7, fun j hj => by rw [it_up_ne (by decide)]; exact d8 j hj⟩
      · rw [if_neg (show ¬ nI (tT b n j) = 59 from tok_eq (by decide) q2), if_neg q2]
        exact Or.inl ⟨S2, j, rfl, g2.cF (by rw [List.length_append]; omega), rfl⟩
  · rw [if_neg (fun x => q ((nE (by omega) (by omega)).mp x)), if_neg q]
    exact Or.inl ⟨S, i, rfl, hc.cF (by omega), rfl⟩
/-- a text, the class's -/
theorem e_isRead (E : cE S b n) :
    (∃ S' j, f_X3_isRead κ S = some (0, S') ∧ (∀ a, a ≠ 5 → a ≠ 7 → a ≠ 8 → S' a = S a) ∧ S' 5 5 = nI (tP b n j) ∧ rtx (tT b n) (tV b n) = some (false, j, [], [], [])) ∨
    (∃ S' j c0 e1 e2, f_X3_isRead κ S = some (1, S') ∧ (∀ a, a ≠ 5 → a ≠ 7 → a ≠ 8 → S' a = S a) ∧ S' 5 7 = nI (c0 ++ e1 ++ e2).length ∧ (c0 ++ e1 ++ e2).length ≤ 160 ∧ (∀ q, q < (c0 ++ e1 ++ e2).length → S' 7 q = nI ((c0 ++ e1 ++ e2).getD q 0)) ∧ S' 8 0 = nI c0.length ∧ S' 8 1 = nI (c0 ++ e1).length ∧ S' 8 2 = nI (c0 ++ e1 ++ e2).length ∧ sp_wf 0 c0 ∧ sp_wf 0 e1 ∧ sp_wf 0 e2 ∧ rtx (tT b n) (tV b n) = some (true, j, c0, c0 ++ e1, c0 ++ e1 ++ e2)) := by
  have hn := E.1.1
  obtain ⟨S0, hS0⟩ : ∃ S0, S0 = it_up (it_up S 5 2 0) 5 7 0 := ⟨_, rfl⟩
  have f0 : ∀ a, a ≠ 5 → S0 a = S a := fun a ha => by rw [hS0, it_up_ne ha, it_up_ne ha]
  have E0 : cE S0 b n := ⟨by rw [f0 6 (by decide)]; exact E.1, by rw [hS0, it_up_eq, upd, if_neg (by decide), it_up_eq, upd, if_neg (by decide)]; exact E.2⟩
  obtain ⟨S1, a1, a2, a3, a4, a5, a6, a7⟩ := e_next_x (κ := κ) (b := b) (n := n) (i := 0) (S := S0) (Nat.zero_le _) E0.1 E0.2 (by rw [hS0, it_up_eq, upd, if_neg (by decide), it_up_eq, upd, if_pos rfl]; rfl)
  have E1 : cE S1 b n := ⟨by rw [a2 6 (by decide)]; exact E0.1, by rw [a3 1 (by decide) (by decide) (by decide) (by decide)]; exact E0.2⟩
  have C1 : cX S1 S1 b n 0 [] := ⟨fun _ _ _ => rfl, fun _ _ _ _ _ _ => rfl, a4, a5, a6, a7, by rw [a3 7 (by decide) (by decide) (by decide) (by decide), hS0, it_up_eq, upd, if_pos rfl]; rfl, fun j hj => absurd hj (Nat.not_lt_zero _)⟩
  have F1 : ∀ a, a ≠ 5 → a ≠ 7 → a ≠ 8 → S1 a = S a := fun a h5 _ _ => (a2 a h5).trans (f0 a h5)
  rw [f_X3_isRead, ← hS0, a1, it_bi_some, show it_FU = 99996 + 1 + 1 + 1 + 1 from rfl, rtx]
  generalize hk : (fun S14 : it_SS => (_ : Option (Int32 × it_SS))) = kont
  rcases e_part (κ := κ) (kont := kont) (p := 0) (f := 99996 + 1 + 1 + 1) (by decide) E1 C1 (Nat.zero_le _) (Nat.le_refl _) with ⟨S', j, g1, g2, g3⟩ | ⟨S2, j0, e0, g1, g2, g3, g3', g4, g5, g6, g7, g8, g9⟩
  · rw [g3]
    exact Or.inl ⟨S', j, g1, fun a h5 h7 h8 => (g2.1 a h5 h7).trans (F1 a h5 h7 h8), g2.2.1, rfl⟩
  rw [List.nil_append] at g3 g5 g7 g9
  rw [show lp_X3_isRead_16 κ kont (99996 + 1 + 1 + 1 + 1) 0 S1 = _ from g1, g9]
  simp only []
  have F2 : ∀ a, a ≠ 5 → a ≠ 7 → a ≠ 8 → S2 a = S a := fun a h5 h7 h8 => (g2 a h5 h7 h8).trans (F1 a h5 h7 h8)
  rcases e_part (κ := κ) (kont := kont) (p := 1) (f := 99996 + 1 + 1) (by decide) g4 g5 g6 g7 with ⟨S', j, k1, k2, k3⟩ | ⟨S3, j1, e1, k1, k2, k3, k3', k4, k5, k6, k7, k8, k9⟩
  · rw [k3]
    exact Or.inl ⟨S', j, k1, fun a h5 h7 h8 => (k2.1 a h5 h7).trans (F2 a h5 h7 h8), k2.2.1, rfl⟩
  rw [k1, k9]
  simp only []
  have F3 : ∀ a, a ≠ 5 → a ≠ 7 → a ≠ 8 → S3 a = S a := fun a h5 h7 h8 => (k2 a h5 h7 h8).trans (F2 a h5 h7 h8)
  rcases e_part (κ := κ) (kont := kont) (p := 2) (f := 99996 + 1) (by decide) k4 k5 k6 k7 with ⟨S', j, m1, m2, m3⟩ | ⟨S4, j2, e2, m1, m2, m3, m3', m4, m5, m6, m7, m8, m9⟩
  · rw [m3]
    exact Or.inl ⟨S', j, m1, fun a h5 h7 h8 => (m2.1 a h5 h7).trans (F3 a h5 h7 h8), m2.2.1, rfl⟩
  rw [m1, m9, lp_X3_isRead_16, if_pos (show (2 : Int32) < nI (2 + 1) by decide), ← hk]
  simp only []
  have F4 : ∀ a, a ≠ 5 → a ≠ 7 → a ≠ 8 → S4 a = S a := fun a h5 h7 h8 => (m2 a h5 h7 h8).trans (F3 a h5 h7 h8)
  have hq := tq_200 hn m6
  rw [m5.2.2.2.1]
  by_cases q : tT b n (j2 + 1) = 13
  · rw [if_pos (show nI (tT b n (j2 + 1)) = 13 from congrArg nI q), if_pos q]
    exact Or.inr ⟨S4, j2 + 1, e0, e1, e2, rfl, F4, m5.2.2.2.2.2.2.1, by omega, m5.2.2.2.2.2.2.2, by rw [m3' 0 (by decide), k3' 0 (by decide)]; exact g3, by rw [m3' 1 (by decide)]; exact k3, m3, g8, k8, m8, rfl⟩
  · rw [if_neg (show ¬ nI (tT b n (j2 + 1)) = 13 from tok_eq (by decide) q), if_neg q]
    exact Or.inl ⟨S4, j2 + 1, rfl, F4, m5.2.2.2.2.1, rfl⟩
end READS2
