/-! what the two objects hold: A the house, tb its texts (T of them), n bytes by of the tape, ik whether there is an image, AK that house, sheets so, sz, ce -/
def IX (κ : it_KK) (S A : it_SS) (tb : Nat → Nat → List Nat) (T n : Nat) (by' : Nat → Int32) (ik : Int32) (AK : it_SS) (so sz : Nat → Int32) (ce : it_SS) : Prop :=
  hX S 9 A ∧ tX κ S tb T ∧ (S 5 1 = nI n ∧ ∀ j, j < n → S 6 j = by' j) ∧ (S 0 5 = ik ∧ (ik = 1 → hX S 25 AK)) ∧ ∀ s, s < 4 → S (it_el 2 s) 0 = so s ∧ S (it_el 2 s) 1 = sz s ∧ ∀ j, j < 40 → S (it_el 2 s + 1) j = ce s j
/-- the reference's image -/
def iM (S AK : it_SS) (GK : Nat) : Prop := (∀ p, p < 6 → S 53 (2 * p) = AK 4 p ∧ S 53 (2 * p + 1) = AK 5 p) ∧ (∀ j, j < 10 → S 53 (12 + 3 * j) = AK 6 j ∧ S 53 (12 + (3 * j + 1)) = AK 7 j ∧ S 53 (12 + (3 * j + 2)) = AK 8 j) ∧ S 54 0 = AK 1 0 ∧ S 54 1 = AK 9 0 ∧ S 54 2 = AK 10 0
/-- the reference's words -/
def wTb : List Nat := [109, 101, 108, 116, 115, 32, 32, 32, 102, 101, 101, 108, 115, 32, 32, 32, 99, 104, 105, 108, 108, 115, 32, 32, 119, 101, 105, 103, 104, 116, 32, 32, 105, 99, 101, 32, 32, 32, 32, 32, 99, 111, 108, 100, 32, 32, 32, 32, 109, 111, 111, 100, 32, 32, 32, 32, 100, 97, 121, 32, 32, 32, 32, 32, 109, 111, 114, 101, 32, 32, 32, 32, 111, 114, 32, 32, 32, 32, 32, 32, 97, 110, 100, 32, 32, 32, 32, 32, 110, 111, 116, 32, 32, 32, 32, 32]
def wT (S : it_SS) : Prop := ∀ j, j < 96 → S 59 j = nI (wTb.getD j 0)
def IM (S A : it_SS) (G : Nat) (tb : Nat → Nat → List Nat) (T n : Nat) (by' : Nat → Int32) (ik : Int32) (AK : it_SS) (GK : Nat) (so sz : Nat → Int32) (ce : it_SS) : Prop :=
  hM S A G ∧ tM S tb T ∧ (S 45 7 = nI n ∧ (∀ j, j < n → S 50 j = by' j) ∧ wT S) ∧ (S 45 12 = ik ∧ (ik = 1 → iM S AK GK)) ∧ ∀ s, s < 4 → S 55 s = so s ∧ S 56 s = sz s ∧ ∀ j, j < 40 → S 57 (40 * s + j) = ce s j
/-- the day lies between 0 and 999 -/
def dR (A : it_SS) : Prop := 0 ≤ (A 9 0).toInt ∧ (A 9 0).toInt ≤ 999
def IR (A : it_SS) (G : Nat) (tb : Nat → Nat → List Nat) (T n : Nat) (by' : Nat → Int32) (ik : Int32) (AK : it_SS) (GK : Nat) (so sz : Nat → Int32) : Prop :=
  hR A G T ∧ dR A ∧ sp_tb tb T ∧ 1 ≤ T ∧ (n ≤ 160 ∧ ∀ j, j < n → 0 ≤ (by' j).toInt ∧ (by' j).toInt ≤ 255) ∧ (ik = 0 ∨ ik = 1 ∧ hR AK GK T ∧ dR AK ∧ GK ≤ G ∧ ∀ p, p < GK → AK 2 p = A 2 p ∧ AK 3 p = A 3 p) ∧ (∀ s, s < 4 → (so s = -1 ∨ so s = 0 ∨ so s = 1 ∨ so s = 2) ∧ ∃ z, z ≤ 40 ∧ sz s = nI z) ∧ ∀ p, p < G → 0 ≤ (A 2 p).toInt ∧ (A 2 p).toInt ≤ 5
def gM (S S' : it_SS) : Prop := ∀ b, 45 ≤ b → b < 65 → S' b = S b
def gX (S S' : it_SS) : Prop := ∀ b, b < 45 ∨ 65 ≤ b → S' b = S b
theorem el1_not (t : Nat) : (it_el 1 t + 1 < 45 ∨ 65 ≤ it_el 1 t + 1) ∧ (it_el 1 t + 2 < 45 ∨ 65 ≤ it_el 1 t + 2) := by
  cases t with
  | zero => decide
  | succ n => show (65 + 3 * n + 1 < 45 ∨ 65 ≤ 65 + 3 * n + 1) ∧ (65 + 3 * n + 2 < 45 ∨ 65 ≤ 65 + 3 * n + 2); omega
theorem hX.cg {S S' A : it_SS} {u : Nat} (h : hX S u A) (e : ∀ k, k ≤ 7 → S' (u + k) = S (u + k)) : hX S' u A := by
  obtain ⟨h1, h2, h3⟩ := h
  have e0 : S' u = S u := e 0 (by decide)
  exact ⟨fun p hp => by rw [e 1 (by decide), e 2 (by decide), e 3 (by decide), e 4 (by decide)]; exact h1 p hp, fun j hj => by rw [e 5 (by decide), e 6 (by decide), e 7 (by decide)]; exact h2 j hj, by rw [e0]; exact h3⟩
theorem hM.cg {S S' A : it_SS} {G : Nat} (h : hM S A G) (e45 : ∀ j, j = 0 ∨ j = 5 ∨ j = 11 → S' 45 j = S 45 j) (e46 : S' 46 = S 46) (e47 : S' 47 = S 47) (e48 : S' 48 = S 48) (e49 : S' 49 = S 49) : hM S' A G := by
  obtain ⟨h1, h2, h3, h4, h5, h6⟩ := h
  exact ⟨fun p hp => by rw [e46, e47]; exact h1 p hp, fun p hp => by rw [e48]; exact h2 p hp, fun j hj => by rw [e49]; exact h3 j hj, by rw [e45 0 (Or.inl rfl)]; exact h4, by rw [e45 5 (Or.inr (Or.inl rfl))]; exact h5, by rw [e45 11 (Or.inr (Or.inr rfl))]; exact h6⟩
section INV
variable {κ : it_KK} {S S' A : it_SS} {G : Nat} {tb : Nat → Nat → List Nat} {T n : Nat} {by' : Nat → Int32} {ik : Int32} {AK : it_SS} {GK : Nat} {so sz : Nat → Int32} {ce : it_SS}
theorem it_el2_eq (s : Nat) : it_el 2 s = 34 + 2 * s := rfl
theorem tX.fr2 (h : tX κ S tb T) (hf : ∀ b, b = 1 ∨ 43 ≤ b ∧ b < 45 ∨ 65 ≤ b → S' b = S b) : tX κ S' tb T := by
  obtain ⟨h1, h2⟩ := h
  refine ⟨by rw [hf 1 (Or.inl rfl)]; exact h1, fun t ht => ?_⟩
  obtain ⟨q1, q2, q3, q4⟩ := h2 t ht
  have h42 := it_el1_ge t
  have hn := el1_not t
  refine ⟨q1, q2, fun j hj => ?_, fun p hp => ?_⟩
  · rw [hf _ (by omega)]; exact q3 j hj
  · rw [hf _ (by omega)]; exact q4 p hp
/-- the house may be another one, what is thought of too -/
theorem IX.mk' {A' : it_SS} (h : IX κ S A tb T n by' ik AK so sz ce) (hx : hX S' 9 A') (hf : ∀ b, b ≠ 3 → b ≠ 4 → (b < 9 ∨ 24 < b) → (b < 45 ∨ 65 ≤ b) → S' b = S b) : IX κ S' A' tb T n by' ik AK so sz ce := by
  obtain ⟨-, h2, h3, h4, h5⟩ := h
  refine ⟨hx, h2.fr2 (fun b hb => hf b (by omega) (by omega) (by omega) (by omega)), ⟨by rw [hf 5 (by omega) (by omega) (by omega) (by omega)]; exact h3.1, fun j hj => by rw [hf 6 (by omega) (by omega) (by omega) (by omega)]; exact h3.2 j hj⟩, ⟨by rw [hf 0 (by omega) (by omega) (by omega) (by omega)]; exact h4.1, fun q => (h4.2 q).cg (fun k hk => hf _ (by omega) (by omega) (by omega) (by omega))⟩, fun s hs => ?_⟩
  have := h5 s hs
  rw [it_el2_eq] at this ⊢
  rw [hf _ (by omega) (by omega) (by omega) (by omega), hf _ (by omega) (by omega) (by omega) (by omega)]
  exact this
/-- nothing but what is thought of has changed -/
theorem IX.thought (h : IX κ S A tb T n by' ik AK so sz ce) (hf : ∀ b, b ≠ 3 → b ≠ 4 → (b < 17 ∨ 24 < b) → (b < 45 ∨ 65 ≤ b) → S' b = S b) : IX κ S' A tb T n by' ik AK so sz ce :=
  h.mk' (h.1.cg (fun k hk => hf _ (by omega) (by omega) (by omega) (by omega))) (fun b b3 b4 b9 b45 => hf b b3 b4 (by omega) b45)
theorem IX.gX (h : IX κ S A tb T n by' ik AK so sz ce) (hf : gX S S') : IX κ S' A tb T n by' ik AK so sz ce := h.thought (fun b _ _ _ hb => hf b hb)
/-- the reference's house may be another one -/
theorem IM.mk' {A' : it_SS} {G' : Nat} (h : IM S A G tb T n by' ik AK GK so sz ce) (hx : hM S' A' G') (h45 : ∀ j, j = 7 ∨ j = 10 ∨ j = 12 → S' 45 j = S 45 j) (hf : ∀ b, 50 ≤ b → b < 60 → S' b = S b) : IM S' A' G' tb T n by' ik AK GK so sz ce := by
  obtain ⟨-, h2, h3, h4, h5⟩ := h
  refine ⟨hx, h2.fr (h45 10 (by omega)) (hf 51 (by omega) (by omega)) (hf 52 (by omega) (by omega)), ⟨by rw [h45 7 (by omega)]; exact h3.1, fun j hj => by rw [hf 50 (by omega) (by omega)]; exact h3.2.1 j hj, fun j hj => by rw [hf 59 (by omega) (by omega)]; exact h3.2.2 j hj⟩, ⟨by rw [h45 12 (by omega)]; exact h4.1, fun q => ?_⟩, fun s hs => by rw [hf 55 (by omega) (by omega), hf 56 (by omega) (by omega), hf 57 (by omega) (by omega)]; exact h5 s hs⟩
  obtain ⟨i1, i2, i3⟩ := h4.2 q
  exact ⟨fun p hp => by rw [hf 53 (by omega) (by omega)]; exact i1 p hp, fun j hj => by rw [hf 53 (by omega) (by omega)]; exact i2 j hj, by rw [hf 54 (by omega) (by omega)]; exact i3⟩
theorem IM.gM (h : IM S A G tb T n by' ik AK GK so sz ce) (hf : gM S S') : IM S' A G tb T n by' ik AK GK so sz ce :=
  h.mk' (h.1.cg (fun j _ => by rw [hf 45 (by decide) (by decide)]) (hf 46 (by decide) (by decide)) (hf 47 (by decide) (by decide)) (hf 48 (by decide) (by decide)) (hf 49 (by decide) (by decide))) (fun j _ => by rw [hf 45 (by decide) (by decide)]) (fun b h1 h2 => hf b (by omega) (by omega))
end INV
/-! days, one behind the other -/
def sp_days (tb : Nat → Nat → List Nat) (G : Nat) : Nat → it_SS → it_SS
  | 0, A => A
  | k + 1, A => sp_days tb G k (sp_day tb G A)
theorem hR.days {tb : Nat → Nat → List Nat} {G T : Nat} : ∀ (k : Nat) (A : it_SS), hR A G T → hR (sp_days tb G k A) G T
  | 0, _, h => h
  | k + 1, _, h => hR.days k _ h.day
theorem days_ne {tb : Nat → Nat → List Nat} {G f : Nat} (h4 : f ≠ 4) (h5 : f ≠ 5) (h6 : f ≠ 6) (h8 : f ≠ 8) (h9 : f ≠ 9) : ∀ (k : Nat) (A : it_SS), sp_days tb G k A f = A f
  | 0, _ => rfl
  | k + 1, A => (days_ne h4 h5 h6 h8 h9 k _).trans (day_ne h4 h5 h6 h8 h9)
/-! the loop of days as it stands in run, moodIfIced and moodIfSpilt -/
def lp_days (κ : it_KK) (x1 : Int32) (k2 : (it_SS → Option (Unit × it_SS))) : Nat → Int32 → it_SS → Option (Unit × it_SS)
  | 0, _, _ => none
  | n2 + 1, v2, S => if x1 ≤ v2 then
k2  S
else
it_bi (f_X0_passDay κ 17 S) (fun _ S2 =>
lp_days κ x1 k2 n2 (v2 + 1) S2)
def f_days (κ : it_KK) (x1 : Int32) (S : it_SS) : Option (Unit × it_SS) :=
lp_days κ x1 (fun  S4 =>
some ((), S4)) it_FU 0 S
theorem run_days {κ : it_KK} {x1 x2 : Int32} {k : Int32 → it_SS → Option (Int32 × it_SS)} : ∀ (n : Nat) (q v : Int32) (S : it_SS), lp_X5_run_45 κ x1 x2 k n q v S = it_bi (lp_days κ x1 (fun S => some ((), S)) n v S) (fun _ S' => k q S') := by
  intro n
  induction n with
  | zero => intros; rfl
  | succ n ih =>
    intro q v S
    rw [lp_X5_run_45, lp_days]
    by_cases c : x1 ≤ v
    · rw [if_pos c, if_pos c]
      rfl
    · rw [if_neg c, if_neg c]
      cases f_X0_passDay κ 17 S with
      | none => rfl
      | some r =>
        obtain ⟨r, S1⟩ := r
        rw [it_bi_some, it_bi_some]
        exact ih q (v + 1) S1
theorem run_f {κ : it_KK} {x1 x2 : Int32} {k : Int32 → it_SS → Option (Int32 × it_SS)} {q : Int32} {S : it_SS} : lp_X5_run_45 κ x1 x2 k it_FU q 0 S = it_bi (f_days κ x1 S) (fun _ S' => k q S') := run_days it_FU q 0 S
theorem iced_days {κ : it_KK} {x1 x2 x3 : Int32} {k : it_SS → Option (Int32 × it_SS)} : ∀ (n : Nat) (v : Int32) (S : it_SS), lp_X5_moodIfIced_42 κ x1 x2 x3 k n v S = it_bi (lp_days κ x3 (fun S => some ((), S)) n v S) (fun _ S' => k S') := by
  intro n
  induction n with
  | zero => intros; rfl
  | succ n ih =>
    intro v S
    rw [lp_X5_moodIfIced_42, lp_days]
    by_cases c : x3 ≤ v
    · rw [if_pos c, if_pos c]
      rfl
    · rw [if_neg c, if_neg c]
      cases f_X0_passDay κ 17 S with
      | none => rfl
      | some r =>
        obtain ⟨r, S1⟩ := r
        rw [it_bi_some, it_bi_some]
        exact ih (v + 1) S1
theorem iced_f {κ : it_KK} {x1 x2 x3 : Int32} {k : it_SS → Option (Int32 × it_SS)} {S : it_SS} : lp_X5_moodIfIced_42 κ x1 x2 x3 k it_FU 0 S = it_bi (f_days κ x3 S) (fun _ S' => k S') := iced_days it_FU 0 S
theorem spilt_days {κ : it_KK} {x1 x2 : Int32} {k : it_SS → Option (Int32 × it_SS)} : ∀ (n : Nat) (v : Int32) (S : it_SS), lp_X5_moodIfSpilt_25 κ x1 x2 k n v S = it_bi (lp_days κ x2 (fun S => some ((), S)) n v S) (fun _ S' => k S') := by
  intro n
  induction n with
  | zero => intros; rfl
  | succ n ih =>
    intro v S
    rw [lp_X5_moodIfSpilt_25, lp_days]
    by_cases c : x2 ≤ v
    · rw [if_pos c, if_pos c]
      rfl
    · rw [if_neg c, if_neg c]
      cases f_X0_passDay κ 17 S with
      | none => rfl
      | some r =>
        obtain ⟨r, S1⟩ := r
        rw [it_bi_some, it_bi_some]
        exact ih (v + 1) S1
theorem spilt_f {κ : it_KK} {x1 x2 : Int32} {k : it_SS → Option (Int32 × it_SS)} {S : it_SS} : lp_X5_moodIfSpilt_25 κ x1 x2 k it_FU 0 S = it_bi (f_days κ x2 S) (fun _ S' => k S') := spilt_days it_FU 0 S
section DAYS
variable {κ : it_KK} {T G u : Nat} {tb : Nat → Nat → List Nat}
theorem e_pass_days {m : Nat} (hm : m < 1000) {kont : it_SS → Option (Unit × it_SS)} : ∀ (k i n : Nat) (S A : it_SS), i + k = m → k < n → hX S 17 A → tX κ S tb T → sp_lw tb T A → hR A G T → ∃ S', lp_days κ (nI m) kont n (nI i) S = kont S' ∧ hX S' 17 (sp_days tb G k A) ∧ fU 17 S S' := by
  intro k
  induction k with
  | zero =>
    intro i n S A hi hn hx ht hl hr
    obtain ⟨n, rfl⟩ : ∃ q, n = q + 1 := ⟨n - 1, by omega⟩
    obtain rfl : i = m := by omega
    exact ⟨S, by rw [lp_days, if_pos (Int32.le_refl _)], hx, fU.refl 17 S⟩
  | succ k ih =>
    intro i n S A hi hn hx ht hl hr
    obtain ⟨n, rfl⟩ : ∃ q, n = q + 1 := ⟨n - 1, by omega⟩
    obtain ⟨S1, a1, a2, a3⟩ := e_passDay (κ := κ) (u := 17) ⟨by decide, by decide⟩ hx ht hl hr
    rw [lp_days, if_neg (show ¬ nI m ≤ nI i from nI_ge (by omega) (by omega)), a1, it_bi_some, nI_1]
    obtain ⟨S2, b1, b2, b3⟩ := ih (i + 1) n S1 (sp_day tb G A) (by omega) (by omega) a2 (ht.frU ⟨by decide, by decide⟩ a3) (hl.of (day_ne (by decide) (by decide) (by decide) (by decide) (by decide))) hr.day
    exact ⟨S2, b1, b2, a3.trans b3⟩
theorem e_pass {m : Nat} (hm : m < 1000) {S A : it_SS} (hx : hX S 17 A) (ht : tX κ S tb T) (hl : sp_lw tb T A) (hr : hR A G T) : ∃ S', f_days κ (nI m) S = some ((), S') ∧ hX S' 17 (sp_days tb G m A) ∧ fU 17 S S' := by
  obtain ⟨S', a1, a2, a3⟩ := e_pass_days (κ := κ) hm (kont := fun S => some ((), S)) m 0 it_FU S A (by omega) (by show m < 100000; omega) hx ht hl hr
  exact ⟨S', a1, a2, a3⟩
theorem e_goes_days {m : Nat} (hm : m < 1000) {kont : it_SS → Option (Unit × it_SS)} : ∀ (k i n : Nat) (S A : it_SS), i + k = m → k < n → hM S A G → tM S tb T → sp_lw tb T A → hR A G T → ∃ S', lp_X6_goes_2 κ (nI m) kont n (nI i) S = kont S' ∧ hM S' (sp_days tb G k A) G ∧ fD S S' := by
  intro k
  induction k with
  | zero =>
    intro i n S A hi hn hx ht hl hr
    obtain ⟨n, rfl⟩ : ∃ q, n = q + 1 := ⟨n - 1, by omega⟩
    obtain rfl : i = m := by omega
    exact ⟨S, by rw [lp_X6_goes_2, if_pos (Int32.le_refl _)], hx, fD.refl S⟩
  | succ k ih =>
    intro i n S A hi hn hx ht hl hr
    obtain ⟨n, rfl⟩ : ∃ q, n = q + 1 := ⟨n - 1, by omega⟩
    obtain ⟨S1, a1, a2, a3⟩ := e_dayOf (κ := κ) hx ht hl hr
    rw [lp_X6_goes_2, if_neg (show ¬ nI m ≤ nI i from nI_ge (by omega) (by omega)), a1, it_bi_some, nI_1]
    obtain ⟨S2, b1, b2, b3⟩ := ih (i + 1) n S1 (sp_day tb G A) (by omega) (by omega) a2 (ht.frD a3) (hl.of (day_ne (by decide) (by decide) (by decide) (by decide) (by decide))) hr.day
    exact ⟨S2, b1, b2, a3.trans b3⟩
theorem e_goes {m : Nat} (hm : m < 1000) {S A : it_SS} (hx : hM S A G) (ht : tM S tb T) (hl : sp_lw tb T A) (hr : hR A G T) : ∃ S', f_X6_goes κ (nI m) S = some ((), S') ∧ hM S' (sp_days tb G m A) G ∧ fD S S' := by
  obtain ⟨S', a1, a2, a3⟩ := e_goes_days (κ := κ) hm (kont := fun S => some ((), S)) m 0 it_FU S A (by omega) (by show m < 100000; omega) hx ht hl hr
  exact ⟨S', a1, a2, a3⟩
end DAYS
/-- an int that lies between bounds that are numbers -/
theorem in_nI {x : Int32} {m : Nat} (hm : m < 2 ^ 31) (h : sp_in x 0 (nI m) = true) : ∃ j, j ≤ m ∧ x = nI j := by
  simp only [sp_in, Bool.and_eq_true, decide_eq_true_eq] at h
  obtain ⟨j, hj, rfl⟩ := nI_of (Int32.not_lt.mpr h.1)
  refine ⟨j, ?_, rfl⟩
  rcases Nat.lt_or_ge m j with q | q
  · exact absurd h.2 (nI_ge q hj)
  · exact q
/-! all that holds between two calls -/
def Inv (κ : it_KK) (S : it_SS) : Prop := it_wx κ ∧ it_wm κ ∧ ∃ (A : it_SS) (G : Nat) (tb : Nat → Nat → List Nat) (T n : Nat) (by' : Nat → Int32) (ik : Int32) (AK : it_SS) (GK : Nat) (so sz : Nat → Int32) (ce : it_SS), κ.1 = it_el 1 T ∧ IX κ S A tb T n by' ik AK so sz ce ∧ IM S A G tb T n by' ik AK GK so sz ce ∧ IR A G tb T n by' ik AK GK so sz
/-- the two programs of one call answer alike, and all holds then -/
def Eqv {ρ : Type} (κ : it_KK) (fx fm : it_SS → Option (ρ × it_SS)) : Prop := ∀ S, Inv κ S → it_ok (fx S) (fun r S1 => it_ok (fm S1) (fun r' S2 => r' = r ∧ Inv κ S2))
/-- one answer a; the house, image, sheets, tape become others -/
theorem Eqv.of {ρ : Type} {κ : it_KK} {fx fm : it_SS → Option (ρ × it_SS)} (h : ∀ (A : it_SS) (G : Nat) (tb : Nat → Nat → List Nat) (T n : Nat) (by' : Nat → Int32) (ik : Int32) (AK : it_SS) (GK : Nat) (so sz : Nat → Int32) (ce : it_SS), IR A G tb T n by' ik AK GK so sz → ∃ (a : ρ) (A' : it_SS) (G' n' : Nat) (by1 : Nat → Int32) (ik' : Int32) (AK' : it_SS) (GK' : Nat) (so' sz' : Nat → Int32) (ce' : it_SS), IR A' G' tb T n' by1 ik' AK' GK' so' sz' ∧
      (∀ S, IX κ S A tb T n by' ik AK so sz ce → ∃ S1, fx S = some (a, S1) ∧ IX κ S1 A' tb T n' by1 ik' AK' so' sz' ce' ∧ gM S S1) ∧
      (∀ S, IM S A G tb T n by' ik AK GK so sz ce → ∃ S1, fm S = some (a, S1) ∧ IM S1 A' G' tb T n' by1 ik' AK' GK' so' sz' ce' ∧ gX S S1)) : Eqv κ fx fm := by
  rintro S ⟨wx, wm, A, G, tb, T, n, by', ik, AK, GK, so, sz, ce, hk, hX', hM', hR'⟩
  obtain ⟨a, A', G', n', by1, ik', AK', GK', so', sz', ce', r1, x1, m1⟩ := h A G tb T n by' ik AK GK so sz ce hR'
  obtain ⟨S1, e1, e2, e3⟩ := x1 S hX'
  obtain ⟨S2, f1, f2, f3⟩ := m1 S1 (hM'.gM e3)
  exact ⟨a, S1, e1, a, S2, f1, rfl, wx, wm, A', G', tb, T, n', by1, ik', AK', GK', so', sz', ce', hk, e2.gX f3, f2, r1⟩
/-- a question: nothing becomes another -/
theorem Eqv.ask {ρ : Type} {κ : it_KK} {fx fm : it_SS → Option (ρ × it_SS)} (h : ∀ (A : it_SS) (G : Nat) (tb : Nat → Nat → List Nat) (T n : Nat) (by' : Nat → Int32) (ik : Int32) (AK : it_SS) (GK : Nat) (so sz : Nat → Int32) (ce : it_SS), IR A G tb T n by' ik AK GK so sz → ∃ a : ρ,
      (∀ S, IX κ S A tb T n by' ik AK so sz ce → ∃ S1, fx S = some (a, S1) ∧ IX κ S1 A tb T n by' ik AK so sz ce ∧ gM S S1) ∧
      (∀ S, IM S A G tb T n by' ik AK GK so sz ce → ∃ S1, fm S = some (a, S1) ∧ IM S1 A G tb T n by' ik AK GK so sz ce ∧ gX S S1)) : Eqv κ fx fm := Eqv.of fun A G tb T n by' ik AK GK so sz ce hr => by
  obtain ⟨a, h1, h2⟩ := h A G tb T n by' ik AK GK so sz ce hr
  exact ⟨a, A, G, n, by', ik, AK, GK, so, sz, ce, hr, h1, h2⟩
