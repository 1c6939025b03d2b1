theorem e_two (κ : it_KK) {c : Nat} (hc : sp_joi c) (a b : Int32) (S : it_SS) : f_X6_two κ (nI (sp_mc c)) a b S = some (sp_join c a b, S) := by
  rcases hc with rfl | rfl | rfl | rfl | rfl | rfl | rfl
  · rw [f_X6_two, if_pos (show nI (sp_mc 10003) = 11 by decide), sp_join, if_pos rfl]
    by_cases h1 : a = 0 <;> by_cases h2 : b = 0 <;> simp [h1, h2]
  · rw [f_X6_two, if_neg (show ¬ nI (sp_mc 10004) = 11 by decide), if_pos (show nI (sp_mc 10004) = 12 by decide), sp_join, if_neg (show ¬ (10004 : Nat) = 10003 by decide), if_pos (show (10004 : Nat) = 10004 from rfl)]
    by_cases h1 : a = 0 <;> by_cases h2 : b = 0 <;> simp [h1, h2]
  · rw [f_X6_two, if_neg (show ¬ nI (sp_mc 10042) = 11 by decide), if_neg (show ¬ nI (sp_mc 10042) = 12 by decide), if_neg (show ¬ nI (sp_mc 10042) = 13 by decide), if_neg (show ¬ nI (sp_mc 10042) = 14 by decide), if_neg (show ¬ nI (sp_mc 10042) = 15 by decide), if_neg (show ¬ nI (sp_mc 10042) = 16 by decide), if_neg (show ¬ nI (sp_mc 10042) = 17 by decide)]
    rfl
  · rw [f_X6_two, if_neg (show ¬ nI (sp_mc 10043) = 11 by decide), if_neg (show ¬ nI (sp_mc 10043) = 12 by decide), if_neg (show ¬ nI (sp_mc 10043) = 13 by decide), if_neg (show ¬ nI (sp_mc 10043) = 14 by decide), if_neg (show ¬ nI (sp_mc 10043) = 15 by decide), if_pos (show nI (sp_mc 10043) = 16 by decide)]
    rfl
  · rw [f_X6_two, if_neg (show ¬ nI (sp_mc 10045) = 11 by decide), if_neg (show ¬ nI (sp_mc 10045) = 12 by decide), if_neg (show ¬ nI (sp_mc 10045) = 13 by decide), if_neg (show ¬ nI (sp_mc 10045) = 14 by decide), if_neg (show ¬ nI (sp_mc 10045) = 15 by decide), if_neg (show ¬ nI (sp_mc 10045) = 16 by decide), if_pos (show nI (sp_mc 10045) = 17 by decide)]
    rfl
  · rw [f_X6_two, if_neg (show ¬ nI (sp_mc 10060) = 11 by decide), if_neg (show ¬ nI (sp_mc 10060) = 12 by decide), if_neg (show ¬ nI (sp_mc 10060) = 13 by decide), if_pos (show nI (sp_mc 10060) = 14 by decide)]
    show _ = some ((if b ≤ a then 0 else 1), S)
    split <;> rfl
  · rw [f_X6_two, if_neg (show ¬ nI (sp_mc 10061) = 11 by decide), if_neg (show ¬ nI (sp_mc 10061) = 12 by decide), if_neg (show ¬ nI (sp_mc 10061) = 13 by decide), if_neg (show ¬ nI (sp_mc 10061) = 14 by decide), if_pos (show nI (sp_mc 10061) = 15 by decide)]
    show _ = some ((if a = b then 1 else 0), S)
    split <;> rfl
theorem sp_mc_trn {c : Nat} (hc : sp_trn c) : sp_mc c = if c = 10005 then 13 else 19 := by
  rcases hc with rfl | rfl <;> decide
theorem sp_mc_joi {c : Nat} (hc : sp_joi c) : 11 ≤ sp_mc c ∧ sp_mc c < 19 ∧ sp_mc c ≠ 13 := by
  rcases hc with rfl | rfl | rfl | rfl | rfl | rfl | rfl <;> decide
/-- the reference's reckoning -/
theorem e_says_loop {κ : it_KK} {x1 : Int32} {k : it_SS → Option (Int32 × it_SS)} {t p e : Nat} (ht : t < 6) (hp3 : p < 3) (hx : x1 = nI p) (nm : Nat → Int32) :
    ∀ (r : List Nat) (n i : Nat) (st : List Int32) (S : it_SS), S 45 11 = nI t → S 52 (4 * t + p + 1) = nI e → r.length < n → i + r.length = e → e ≤ 160 → st.length ≤ 31 → sp_wf st.length r → (∀ j, j < r.length → S 51 (200 * t + (i + j)) = nI (sp_mc (r.getD j 0))) → sp_pile (S 61) st → (∀ q, q < 6 → S 62 q = nm q) →
      ∃ S', lp_X6_says_16 κ x1 k n (nI st.length) (nI i) S = k S' ∧ (∀ b, b ≠ 61 → S' b = S b) ∧ sp_pile (S' 61) (sp_run nm st r) := by
  intro r
  induction r with
  | nil =>
    intro n i st S h11 h52 hn hi he h31 hw hc hp hnm
    obtain ⟨n, rfl⟩ : ∃ m, n = m + 1 := ⟨n - 1, by simp at hn; omega⟩
    refine ⟨S, ?_, fun _ _ => rfl, hp⟩
    have e1 : 4 * nI t + nI p + 1 = nI (4 * t + p + 1) := by
      rw [show (4 : Int32) = nI 4 from rfl, pk_mul, nI_add, nI_1]
    simp only [List.length_nil, Nat.add_zero] at hi
    rw [lp_X6_says_16, h11, hx, e1, if_pos (bd_nI (show 4 * t + p + 1 < 24 by omega) (by decide)), nI_clamp (show 4 * t + p + 1 < 2 ^ 31 by omega), h52, ← hi, if_pos (Int32.le_refl _)]
  | cons c r ih =>
    intro n i st S h11 h52 hn hi he h31 hw hc hp hnm
    simp only [List.length_cons] at hn hi hc
    obtain ⟨n, rfl⟩ : ∃ m, n = m + 1 := ⟨n - 1, by omega⟩
    have h0 : S 51 (200 * t + i) = nI (sp_mc c) := by
      have := hc 0 (by omega)
      simpa using this
    have hc' : ∀ S1 : it_SS, (∀ b, b ≠ 61 → S1 b = S b) → ∀ j, j < r.length → S1 51 (200 * t + (i + 1 + j)) = nI (sp_mc (r.getD j 0)) := fun S1 h1 j hj => by
      rw [h1 _ (by decide)]
      have := hc (j + 1) (by omega)
      rw [show i + 1 + j = i + (j + 1) by omega, this, List.getD_cons_succ]
    have hhx : (nI st.length).toNatClampNeg = st.length := nI_clamp (by omega)
    have e1 : 4 * nI t + nI p + 1 = nI (4 * t + p + 1) := by
      rw [show (4 : Int32) = nI 4 from rfl, pk_mul, nI_add, nI_1]
    have e2 : 200 * nI t + nI i = nI (200 * t + i) := by
      rw [show (200 : Int32) = nI 200 from rfl, pk_mul, nI_add]
    rw [lp_X6_says_16, h11, hx, e1, if_pos (bd_nI (show 4 * t + p + 1 < 24 by omega) (by decide)), nI_clamp (show 4 * t + p + 1 < 2 ^ 31 by omega), h52, if_neg (show ¬ nI e ≤ nI i from nI_ge (by omega) (by omega)), e2, if_pos (bd_nI (show 200 * t + i < 1200 by omega) (by decide)), nI_clamp (show 200 * t + i < 2 ^ 31 by omega), h0]
    have step : ∀ (st1 : List Int32) (S1 : it_SS), (∀ b, b ≠ 61 → S1 b = S b) → st1.length ≤ 31 → sp_wf st1.length r → sp_pile (S1 61) st1 → sp_one nm st c = st1 → ∃ S', lp_X6_says_16 κ (nI p) k n (nI st1.length) (nI (i + 1)) S1 = k S' ∧ (∀ b, b ≠ 61 → S' b = S b) ∧ sp_pile (S' 61) (sp_run nm st (c :: r)) := by
      intro st1 S1 q1 q2 q3 q4 q5
      obtain ⟨S', f1, f2, f3⟩ := ih n (i + 1) st1 S1 (by rw [q1 _ (by decide)]; exact h11) (by rw [q1 _ (by decide)]; exact h52) (by omega) (by omega) he q2 q3 (hc' S1 q1) q4 (fun q hq => by rw [q1 _ (by decide)]; exact hnm q hq)
      rw [hx] at f1
      refine ⟨S', f1, fun b hb => (f2 b hb).trans (q1 b hb), ?_⟩
      rw [show sp_run nm st (c :: r) = sp_run nm (sp_one nm st c) r from rfl, q5]
      exact f3
    rcases hw with ⟨hcl, hh, hw⟩ | ⟨hcl, hh, hw⟩ | ⟨hcl, hh, hw⟩
    · rcases hcl with hcl | hcl
      · have hcl' : c < 10000 := hcl
        have hm : sp_mc c = 100000 + c := if_pos hcl
        rw [hm, if_pos (show (100000 : Int32) ≤ nI (100000 + c) from nI_le (a := 100000) (by omega) (by omega)), if_pos (show (11 : Int32) ≤ nI (100000 + c) from nI_le (a := 11) (by omega) (by omega)), if_pos (bd_nI (show st.length < 200 by omega) (by decide)), hhx, show nI (100000 + c) - 100000 = nI c from (pk_sub (b := 100000) (by omega)).trans (congrArg nI (by omega)), nI_1, nI_1]
        exact step (nI c :: st) _ (fun b hb => it_up_ne hb) (by simp only [List.length_cons]; omega) hw (by rw [it_up_eq]; exact sp_pile_push _ hp) (if_pos hcl)
      · have hcl1 := hcl.1
        have hcl2 := hcl.2
        have hm : sp_mc c = c - 10006 := (if_neg (by omega)).trans (if_pos hcl)
        rw [hm, if_neg (show ¬ (100000 : Int32) ≤ nI (c - 10006) from nI_ge (b := 100000) (by omega) (by decide)), if_neg (show ¬ (11 : Int32) ≤ nI (c - 10006) from nI_ge (b := 11) (by omega) (by decide)), if_neg (show ¬ (11 : Int32) ≤ nI (c - 10006) from nI_ge (b := 11) (by omega) (by decide)), if_pos (bd_nI (show c - 10006 < 6 by omega) (by decide)), if_pos (bd_nI (show st.length < 200 by omega) (by decide)), hhx, nI_clamp (show c - 10006 < 2 ^ 31 by omega), hnm _ (show c - 10006 < 6 by omega), nI_1, nI_1]
        exact step (nm (c - 10006) :: st) _ (fun b hb => it_up_ne hb) (by simp only [List.length_cons]; omega) hw (by rw [it_up_eq]; exact sp_pile_push _ hp) ((if_neg (by omega)).trans (if_pos hcl))
    · obtain ⟨a, st', rfl⟩ : ∃ a st', st = a :: st' := by
        cases st with
        | nil => simp at hh
        | cons a st' => exact ⟨a, st', rfl⟩
      have htop := sp_pile_top hp
      have hs1 : nI (a :: st').length - 1 = nI st'.length := by rw [List.length_cons]; exact nI_pred _
      have hst' : st'.length < 200 := by simp only [List.length_cons] at h31; omega
      have hone : sp_one nm (a :: st') c = sp_turn c a :: st' := by
        rcases hcl with rfl | rfl <;> rfl
      have hfin := step (sp_turn c a :: st') (it_up S 61 st'.length (sp_turn c a)) (fun b hb => it_up_ne hb) (by simpa using h31) (by simpa using hw) (by rw [it_up_eq]; exact sp_pile_push _ htop.2) hone
      rcases hcl with rfl | rfl
      · rw [show sp_mc 10005 = 13 by decide, if_neg (show ¬ (100000 : Int32) ≤ nI 13 by decide), if_pos (show (11 : Int32) ≤ nI 13 by decide), if_pos (show nI 13 = 13 from rfl), hs1, if_pos (bd_nI hst' (by decide)), nI_clamp (show st'.length < 2 ^ 31 by omega), htop.1, nI_1]
        rw [show sp_turn 10005 a = if a = 0 then 1 else 0 from rfl] at hfin
        by_cases ha : a = 0
        · rw [if_pos ha]
          rw [if_pos ha] at hfin
          simpa using hfin
        · rw [if_neg ha]
          rw [if_neg ha] at hfin
          simpa using hfin
      · rw [show sp_mc 10015 = 19 by decide, if_neg (show ¬ (100000 : Int32) ≤ nI 19 by decide), if_pos (show (11 : Int32) ≤ nI 19 by decide), if_neg (show ¬ nI 19 = 13 by decide), if_pos (show nI 19 = 19 from rfl), hs1, if_pos (bd_nI hst' (by decide)), nI_clamp (show st'.length < 2 ^ 31 by omega), htop.1, nI_1]
        rw [show sp_turn 10015 a = -a from rfl] at hfin
        simpa using hfin
    · obtain ⟨b, a, st', rfl⟩ : ∃ b a st', st = b :: a :: st' := by
        match st, hh with
        | b :: a :: st', _ => exact ⟨b, a, st', rfl⟩
      obtain ⟨m1, m2, m3⟩ := sp_mc_joi hcl
      have htop := sp_pile_top hp
      have htop2 := sp_pile_top htop.2
      have hl : (b :: a :: st').length = st'.length + 1 + 1 := rfl
      have hs1 : nI (b :: a :: st').length + (-1) = nI (st'.length + 1) := by rw [hl]; exact pk_m1 _
      have hs2 : nI (st'.length + 1) - 1 = nI st'.length := nI_pred _
      have hst' : st'.length + 1 < 200 := by simp only [List.length_cons] at h31; omega
      have ht1 : S 61 (st'.length + 1) = b := htop.1
      have hone : sp_one nm (b :: a :: st') c = sp_join c a b :: st' := by
        rcases hcl with rfl | rfl | rfl | rfl | rfl | rfl | rfl <;> rfl
      have hfin := step (sp_join c a b :: st') (it_up S 61 st'.length (sp_join c a b)) (fun b hb => it_up_ne hb) (by simp only [List.length_cons] at h31 ⊢; omega) (by simpa using hw) (by rw [it_up_eq]; exact sp_pile_push _ htop2.2) hone
      rw [if_neg (show ¬ (100000 : Int32) ≤ nI (sp_mc c) from nI_ge (b := 100000) (by omega) (by decide)), if_pos (show (11 : Int32) ≤ nI (sp_mc c) from nI_le (a := 11) m1 (by omega)), if_neg (show ¬ nI (sp_mc c) = 13 from fun q => m3 ((nI_eq (by omega) (by decide)).mp (show nI (sp_mc c) = nI 13 from q))), if_neg (show ¬ nI (sp_mc c) = 19 from fun q => absurd ((nI_eq (by omega) (by decide)).mp (show nI (sp_mc c) = nI 19 from q)) (by omega)), hs1, hs2, if_pos (bd_nI (show st'.length < 200 by omega) (by decide)), if_pos (bd_nI hst' (by decide)), nI_clamp (show st'.length < 2 ^ 31 by omega), nI_clamp (show st'.length + 1 < 2 ^ 31 by omega), htop2.1, ht1, e_two κ hcl, it_bi_some, nI_1]
      simpa using hfin
theorem sp_one_len {nm : Nat → Int32} {st : List Int32} {c : Nat} : (sp_num c ∨ sp_nam c → (sp_one nm st c).length = st.length + 1) ∧ (sp_trn c → (sp_one nm st c).length = st.length) ∧ (sp_joi c → 2 ≤ st.length → (sp_one nm st c).length = st.length - 1) := by
  refine ⟨fun h => ?_, fun h => ?_, fun h h2 => ?_⟩
  · rcases h with h | h
    · rw [show sp_one nm st c = nI c :: st from if_pos h, List.length_cons]
    · have h1 := h.1
      rw [show sp_one nm st c = nm (c - 10006) :: st from (if_neg (by omega)).trans (if_pos h), List.length_cons]
  · rcases h with rfl | rfl <;> cases st <;> rfl
  · match st, h2 with
    | b :: a :: r, _ => rcases h with rfl | rfl | rfl | rfl | rfl | rfl | rfl <;> rfl
theorem sp_run_len {nm : Nat → Int32} : ∀ (r : List Nat) (st : List Int32), sp_wf st.length r → (sp_run nm st r).length = 1
  | [], st, h => h
  | c :: r, st, h => by
    rw [show sp_run nm st (c :: r) = sp_run nm (sp_one nm st c) r from rfl]
    have hl := sp_one_len (nm := nm) (st := st) (c := c)
    rcases h with ⟨h1, -, h3⟩ | ⟨h1, -, h3⟩ | ⟨h1, h2, h3⟩
    · exact sp_run_len r _ (by rw [hl.1 h1]; exact h3)
    · exact sp_run_len r _ (by rw [hl.2.1 h1]; exact h3)
    · exact sp_run_len r _ (by rw [hl.2.2 h1 h2]; exact h3)
/-- where a part of a text begins -/
def sp_off (tb : Nat → Nat → List Nat) (t p : Nat) : Nat := if p = 0 then 0 else if p = 1 then (tb t 0).length else if p = 2 then (tb t 0).length + (tb t 1).length else (tb t 0).length + (tb t 1).length + (tb t 2).length
def sp_all (tb : Nat → Nat → List Nat) (t : Nat) : List Nat := tb t 0 ++ (tb t 1 ++ tb t 2)
/-- the texts are good code -/
def sp_tb (tb : Nat → Nat → List Nat) (T : Nat) : Prop := T ≤ 6 ∧ ∀ t, t < T → sp_off tb t 3 ≤ 160 ∧ ∀ p, p < 3 → sp_wf 0 (tb t p)
/-- the class's texts -/
def tX (κ : it_KK) (S : it_SS) (tb : Nat → Nat → List Nat) (T : Nat) : Prop := S 1 3 = nI T ∧ ∀ t, t < T → κ.2.2 2 t = true ∧ (κ.2.1 (it_el 1 t + 1)).2 = sp_off tb t 3 ∧ (∀ j, j < sp_off tb t 3 → S (it_el 1 t + 1) j = nI ((sp_all tb t).getD j 0)) ∧ ∀ p, p < 3 → S (it_el 1 t + 2) p = nI (sp_off tb t (p + 1))
/-- the reference's texts -/
def tM (S : it_SS) (tb : Nat → Nat → List Nat) (T : Nat) : Prop := S 45 10 = nI T ∧ ∀ t, t < T → (∀ j, j < sp_off tb t 3 → S 51 (200 * t + j) = nI (sp_mc ((sp_all tb t).getD j 0))) ∧ ∀ p, p < 4 → S 52 (4 * t + p) = nI (sp_off tb t p)
theorem sp_part {tb : Nat → Nat → List Nat} {t p j : Nat} (hp : p < 3) (hj : j < (tb t p).length) : (sp_all tb t).getD (sp_off tb t p + j) 0 = (tb t p).getD j 0 ∧ sp_off tb t p + j < sp_off tb t 3 := by
  rcases (show p = 0 ∨ p = 1 ∨ p = 2 by omega) with rfl | rfl | rfl
  · refine ⟨?_, by simp [sp_off]; omega⟩
    simp only [sp_all, sp_off, if_true, Nat.zero_add, List.getD_eq_getElem?_getD]
    rw [List.getElem?_append_left hj]
  · refine ⟨?_, by simp [sp_off]; omega⟩
    simp only [sp_all, sp_off, List.getD_eq_getElem?_getD]
    rw [if_neg (by decide), if_pos trivial, List.getElem?_append_right (by omega), Nat.add_sub_cancel_left, List.getElem?_append_left hj]
  · refine ⟨?_, by simp [sp_off]; omega⟩
    simp only [sp_all, sp_off, List.getD_eq_getElem?_getD]
    rw [if_neg (by decide), if_neg (by decide), if_pos trivial, List.getElem?_append_right (by omega), List.getElem?_append_right (by omega), show (tb t 0).length + (tb t 1).length + j - (tb t 0).length - (tb t 1).length = j by omega]
theorem sp_off_s {tb : Nat → Nat → List Nat} {t p : Nat} (hp : p < 3) : sp_off tb t (p + 1) = sp_off tb t p + (tb t p).length := by
  rcases (show p = 0 ∨ p = 1 ∨ p = 2 by omega) with rfl | rfl | rfl <;> simp [sp_off]
theorem it_el1_ge (t : Nat) : 42 ≤ it_el 1 t := by
  cases t with
  | zero => decide
  | succ n => show 42 ≤ 65 + 3 * n; omega
theorem e_reckon {κ : it_KK} {S : it_SS} {tb : Nat → Nat → List Nat} {T t p : Nat} {nm : Nat → Int32} (hx : tX κ S tb T) (hg : sp_tb tb T) (ht : t < T) (hp : p < 3) (hn : ∀ q, q < 6 → S 3 q = nm q) : ∃ S', f_X1_reckon κ (nI t) (nI p) S = some (sp_ev nm (tb t p), S') ∧ ∀ b, b ≠ 4 → S' b = S b := by
  obtain ⟨h1, h2⟩ := hx
  obtain ⟨g1, g2⟩ := hg
  obtain ⟨q1, q2, q3, q4⟩ := h2 t ht
  obtain ⟨g3, g4⟩ := g2 t ht
  have hsz : S 1 3 - 1 = nI (T - 1) := by rw [h1]; exact nI_s1 (by omega)
  have hin1 : sp_in (nI t) 0 (nI (T - 1)) = true := by
    simp only [sp_in, Bool.and_eq_true, decide_eq_true_eq]
    exact ⟨nI_pos' (by omega), nI_le (by omega) (by omega)⟩
  have hin2 : sp_in (nI p) 0 2 = true := by
    simp only [sp_in, Bool.and_eq_true, decide_eq_true_eq]
    exact ⟨nI_pos' (by omega), nI_le (b := 2) (by omega) (by decide)⟩
  have htc : (nI t).toNatClampNeg = t := nI_clamp (by omega)
  have hpc : (nI p).toNatClampNeg = p := nI_clamp (by omega)
  have hpart : ∀ j, j < (tb t p).length → S (it_el 1 t + 1) (sp_off tb t p + j) = nI ((tb t p).getD j 0) := fun j hj => by
    have := sp_part (tb := tb) (t := t) hp hj
    rw [q3 _ this.2, this.1]
  have hend : S (it_el 1 t + 2) p = nI (sp_off tb t p + (tb t p).length) := by rw [q4 p hp, sp_off_s hp]
  have hle : sp_off tb t p + (tb t p).length ≤ sp_off tb t 3 := by
    rcases (show p = 0 ∨ p = 1 ∨ p = 2 by omega) with rfl | rfl | rfl <;> simp [sp_off] <;> omega
  have hlen : (tb t p).length < it_FU := by show _ < 100000; omega
  have hge := it_el1_ge t
  obtain ⟨S', e1, e2, e3⟩ := e_reckon_loop (κ := κ) (x1 := nI t) (x2 := nI p) (k := fun S => some (S 4 (0 : Int32).toNatClampNeg, S)) (t := t) htc q2 g3 (by omega) nm (tb t p) it_FU (sp_off tb t p) [] S hlen hle (by decide) (g4 p hp) hpart (fun j hj => absurd hj (Nat.not_lt_zero _)) hn
  have hl1 := sp_run_len (nm := nm) (tb t p) [] (g4 p hp)
  refine ⟨S', ?_, e2⟩
  have hval : S' 4 0 = sp_ev nm (tb t p) := by
    have := e3 0 (by omega)
    rw [hl1] at this
    exact this
  rw [f_X1_reckon, hsz, e_isOutside, hin1, it_bi_some, if_pos rfl, if_pos rfl, e_isOutside, hin2, it_bi_some, if_pos rfl, if_pos rfl, if_pos (bd_nI (show t < 6 by omega) (by decide)), htc, if_pos q1]
  by_cases hp0 : p = 0
  · subst hp0
    rw [if_pos (show nI 0 = 0 from rfl), if_pos (bd_nI (show 0 < 3 by decide) (by decide)), hpc, hend]
    rw [ix_0] at e1 ⊢
    refine Eq.trans e1 ?_
    show some (S' 4 0, S') = _
    rw [hval]
  · have hpm : nI p - 1 = nI (p - 1) := nI_s1 (by omega)
    rw [if_neg (show ¬ nI p = 0 from nI_ne0 (by omega) (by omega)), hpm, if_pos (bd_nI (show p - 1 < 3 by omega) (by decide)), if_pos (bd_nI hp (by decide)), hpc, hend, nI_clamp (show p - 1 < 2 ^ 31 by omega), q4 (p - 1) (by omega), show p - 1 + 1 = p by omega]
    rw [ix_0] at e1 ⊢
    refine Eq.trans e1 ?_
    show some (S' 4 0, S') = _
    rw [hval]
theorem e_says {κ : it_KK} {S : it_SS} {tb : Nat → Nat → List Nat} {T t p : Nat} {nm : Nat → Int32} (hx : tM S tb T) (hg : sp_tb tb T) (ht : t < T) (hp : p < 3) (hr : S 45 11 = nI t) (hn : ∀ q, q < 6 → S 62 q = nm q) : ∃ S', f_X6_says κ (nI p) S = some (sp_ev nm (tb t p), S') ∧ ∀ b, b ≠ 61 → S' b = S b := by
  obtain ⟨h1, h2⟩ := hx
  obtain ⟨g1, g2⟩ := hg
  obtain ⟨q1, q2⟩ := h2 t ht
  obtain ⟨g3, g4⟩ := g2 t ht
  have hpart : ∀ j, j < (tb t p).length → S 51 (200 * t + (sp_off tb t p + j)) = nI (sp_mc ((tb t p).getD j 0)) := fun j hj => by
    have := sp_part (tb := tb) (t := t) hp hj
    rw [q1 _ this.2, this.1]
  have hend : S 52 (4 * t + p + 1) = nI (sp_off tb t p + (tb t p).length) := by rw [Nat.add_assoc, q2 (p + 1) (by omega), sp_off_s hp]
  have hle : sp_off tb t p + (tb t p).length ≤ sp_off tb t 3 := by
    rcases (show p = 0 ∨ p = 1 ∨ p = 2 by omega) with rfl | rfl | rfl <;> simp [sp_off] <;> omega
  have hlen : (tb t p).length < it_FU := by show _ < 100000; omega
  obtain ⟨S', e1, e2, e3⟩ := e_says_loop (κ := κ) (x1 := nI p) (k := fun S => some (S 61 (0 : Int32).toNatClampNeg, S)) (t := t) (p := p) (by omega) hp rfl nm (tb t p) it_FU (sp_off tb t p) [] S hr hend hlen rfl (by omega) (by decide) (g4 p hp) hpart (fun j hj => absurd hj (Nat.not_lt_zero _)) hn
  have hl1 := sp_run_len (nm := nm) (tb t p) [] (g4 p hp)
  refine ⟨S', ?_, e2⟩
  have hval : S' 61 0 = sp_ev nm (tb t p) := by
    have := e3 0 (by omega)
    rw [hl1] at this
    exact this
  have e4 : 4 * nI t + nI p = nI (4 * t + p) := by
    rw [show (4 : Int32) = nI 4 from rfl, pk_mul, nI_add]
  rw [f_X6_says, hr, e4, if_pos (bd_nI (show 4 * t + p < 24 by omega) (by decide)), nI_clamp (show 4 * t + p < 2 ^ 31 by omega), q2 p (by omega)]
  rw [ix_0] at e1 ⊢
  refine Eq.trans e1 ?_
  show some (S' 61 0, S') = _
  rw [hval]
