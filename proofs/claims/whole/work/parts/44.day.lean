/-! numbers without wrapping -/
theorem i_add {x y : Int32} (h1 : -2147483648 ≤ x.toInt + y.toInt) (h2 : x.toInt + y.toInt ≤ 2147483647) : (x + y).toInt = x.toInt + y.toInt := by
  rw [Int32.toInt_add, Int.bmod_eq_of_le (by omega) (by omega)]
theorem i_sub {x y : Int32} (h1 : -2147483648 ≤ x.toInt - y.toInt) (h2 : x.toInt - y.toInt ≤ 2147483647) : (x - y).toInt = x.toInt - y.toInt := by
  rw [Int32.toInt_sub, Int.bmod_eq_of_le (by omega) (by omega)]
theorem i_0 : (0 : Int32).toInt = 0 := by decide
theorem i_99 : (99 : Int32).toInt = 99 := by decide
theorem i_m99 : (-99 : Int32).toInt = -99 := by decide
theorem cl_rng {v lo hi : Int32} (h : lo.toInt ≤ hi.toInt) : lo.toInt ≤ (sp_cl v lo hi).toInt ∧ (sp_cl v lo hi).toInt ≤ hi.toInt := by
  rw [sp_cl]
  by_cases h1 : v < lo
  · rw [if_pos h1]
    exact ⟨Int.le_refl _, h⟩
  · rw [if_neg h1]
    by_cases h2 : hi < v
    · rw [if_pos h2]
      exact ⟨h, Int.le_refl _⟩
    · rw [if_neg h2]
      rw [Int32.lt_iff_toInt_lt] at h1 h2
      omega
theorem say_rng (tb : Nat → Nat → List Nat) (A : it_SS) (q g : Nat) : (if q = 1 then -99 else 0) ≤ (sp_say tb A q g).toInt ∧ (sp_say tb A q g).toInt ≤ 99 := by
  by_cases h : q = 1
  · have := cl_rng (v := sp_ev (sp_nm A g) (tb (A 10 0).toNatClampNeg q)) (lo := -99) (hi := 99) (by decide)
    rw [i_m99, i_99] at this
    rw [sp_say, if_pos h, if_pos h]
    exact this
  · have := cl_rng (v := sp_ev (sp_nm A g) (tb (A 10 0).toNatClampNeg q)) (lo := 0) (hi := 99) (by decide)
    rw [i_0, i_99] at this
    rw [sp_say, if_neg h, if_neg h]
    exact this
theorem div_rng {x : Int32} {d : Int32} (hd : d = 2 ∨ d = 3) (h0 : 0 ≤ x.toInt) (h1 : x.toInt ≤ 1000) : 0 ≤ (x / d).toInt ∧ (x / d).toInt ≤ x.toInt := by
  obtain ⟨j, hj, rfl⟩ := nI_of (x := x) (fun h => by rw [Int32.lt_iff_toInt_lt, i_0] at h; omega)
  rw [nI_toInt hj] at h1 ⊢
  rcases hd with rfl | rfl
  · rw [show (2 : Int32) = nI 2 from rfl, pk_div hj (by decide) (by decide), nI_toInt (by omega)]
    omega
  · rw [show (3 : Int32) = nI 3 from rfl, pk_div hj (by decide) (by decide), nI_toInt (by omega)]
    omega
theorem melt_rng {tb : Nat → Nat → List Nat} {A : it_SS} {g : Nat} (hm : 0 ≤ (A 3 (sp_p A g)).toInt ∧ (A 3 (sp_p A g)).toInt ≤ 9) : 0 ≤ (sp_melt tb A g).toInt ∧ (sp_melt tb A g).toInt ≤ 108 := by
  have h0 := say_rng tb A 0 g
  rw [if_neg (by decide)] at h0
  have ha : (sp_say tb A 0 g + A 3 (sp_p A g)).toInt = (sp_say tb A 0 g).toInt + (A 3 (sp_p A g)).toInt := i_add (by omega) (by omega)
  have hd := div_rng (x := sp_say tb A 0 g + A 3 (sp_p A g)) (d := 3) (Or.inr rfl) (by omega) (by omega)
  rw [sp_melt]
  repeat' split
  all_goals first | omega | (rw [i_99]; omega)
theorem chill_rng {tb : Nat → Nat → List Nat} {A : it_SS} {g : Nat} (hm : 0 ≤ (A 3 (sp_p A g)).toInt ∧ (A 3 (sp_p A g)).toInt ≤ 9) : 0 ≤ (sp_chill tb A g).toInt ∧ (sp_chill tb A g).toInt ≤ 108 := by
  have h0 := say_rng tb A 2 g
  rw [if_neg (by decide)] at h0
  have ha : (sp_say tb A 2 g + A 3 (sp_p A g)).toInt = (sp_say tb A 2 g).toInt + (A 3 (sp_p A g)).toInt := i_add (by omega) (by omega)
  have hd := div_rng (x := sp_say tb A 2 g) (d := 2) (Or.inl rfl) (by omega) (by omega)
  rw [sp_chill]
  repeat' split
  all_goals omega
/-! houses with one number changed -/
theorem hX.up {S A : it_SS} {u k j : Nat} {v : Int32} (h1 : 1 ≤ k) (h7 : k ≤ 7) (h : hX S u A) : hX (it_up S (u + k) j v) u (it_up A (k + 1) j v) := by
  have key : ∀ i, 1 ≤ i → ∀ p, S (u + i) p = A (i + 1) p → it_up S (u + k) j v (u + i) p = it_up A (k + 1) j v (i + 1) p := by
    intro i hi p he
    by_cases e : i = k
    · subst e
      simp [it_up, upd, he]
    · rw [it_up_ne (by omega), it_up_ne (by omega), he]
  obtain ⟨a1, a2, a3, a4, a5⟩ := h
  refine ⟨fun p hp => ⟨key 1 (by decide) p (a1 p hp).1, key 2 (by decide) p (a1 p hp).2.1, key 3 (by decide) p (a1 p hp).2.2.1, key 4 (by decide) p (a1 p hp).2.2.2⟩, fun p hp => ⟨key 5 (by decide) p (a2 p hp).1, key 6 (by decide) p (a2 p hp).2.1, key 7 (by decide) p (a2 p hp).2.2⟩, ?_, ?_, ?_⟩
  · rw [it_up_ne (by omega), it_up_ne (by omega)]; exact a3
  · rw [it_up_ne (by omega), it_up_ne (by omega)]; exact a4
  · rw [it_up_ne (by omega), it_up_ne (by omega)]; exact a5
theorem hM.up48 {S A : it_SS} {G p k : Nat} {v : Int32} (hk : k < 2) (h : hM S A G) : hM (it_up S 48 (2 * p + k) v) (it_up A (4 + k) p v) G := by
  obtain ⟨a1, a2, a3, a4, a5, a6⟩ := h
  refine ⟨fun q hq => ?_, fun q hq => ?_, fun q hq => ?_, ?_, ?_, ?_⟩
  · rw [it_up_ne (show (46 : Nat) ≠ 48 by decide), it_up_ne (show (47 : Nat) ≠ 48 by decide), it_up_ne (show 2 ≠ 4 + k by omega), it_up_ne (show 3 ≠ 4 + k by omega)]; exact a1 q hq
  · rw [it_up_eq]
    rcases (show k = 0 ∨ k = 1 by omega) with rfl | rfl
    · rw [show (4 + 0 : Nat) = 4 from rfl, it_up_eq, it_up_ne (show (5 : Nat) ≠ 4 by decide)]
      by_cases e : q = p
      · subst e
        simp [upd, (a2 q hq).2]
      · have e1 : ¬ 2 * q = 2 * p + 0 := by omega
        have e2 : ¬ 2 * q + 1 = 2 * p + 0 := by omega
        rw [upd, upd, upd, if_neg e, if_neg e1, if_neg e2]
        exact a2 q hq
    · rw [show (4 + 1 : Nat) = 5 from rfl, it_up_eq, it_up_ne (show (4 : Nat) ≠ 5 by decide)]
      by_cases e : q = p
      · subst e
        have e1 : ¬ 2 * q = 2 * q + 1 := by omega
        simp [upd, e1, (a2 q hq).1]
      · have e1 : ¬ 2 * q = 2 * p + 1 := by omega
        have e2 : ¬ 2 * q + 1 = 2 * p + 1 := by omega
        rw [upd, upd, upd, if_neg e, if_neg e1, if_neg e2]
        exact a2 q hq
  · rw [it_up_ne (by decide), it_up_ne (by omega), it_up_ne (by omega), it_up_ne (by omega)]; exact a3 q hq
  · rw [it_up_ne (by decide), it_up_ne (by omega)]; exact a4
  · rw [it_up_ne (by decide), it_up_ne (by omega)]; exact a5
  · rw [it_up_ne (by decide), it_up_ne (by omega)]; exact a6
theorem hM.up49 {S A : it_SS} {G g k : Nat} {v : Int32} (hk : k < 3) (h : hM S A G) : hM (it_up S 49 (3 * g + k) v) (it_up A (6 + k) g v) G := by
  obtain ⟨a1, a2, a3, a4, a5, a6⟩ := h
  refine ⟨fun q hq => ?_, fun q hq => ?_, fun q hq => ?_, ?_, ?_, ?_⟩
  · rw [it_up_ne (show (46 : Nat) ≠ 49 by decide), it_up_ne (show (47 : Nat) ≠ 49 by decide), it_up_ne (show 2 ≠ 6 + k by omega), it_up_ne (show 3 ≠ 6 + k by omega)]; exact a1 q hq
  · rw [it_up_ne (by decide), it_up_ne (by omega), it_up_ne (by omega)]; exact a2 q hq
  · rw [it_up_eq]
    have key : ∀ i, i < 3 → S 49 (3 * q + i) = A (6 + i) q → upd (S 49) (3 * g + k) v (3 * q + i) = it_up A (6 + k) g v (6 + i) q := by
      intro i hi he
      by_cases e : i = k
      · subst e
        rw [it_up_eq]
        by_cases e2 : q = g
        · subst e2
          simp [upd]
        · have e3 : ¬ 3 * q + i = 3 * g + i := by omega
          rw [upd, upd, if_neg e2, if_neg e3]
          exact he
      · rw [it_up_ne (by omega)]
        have e3 : ¬ 3 * q + i = 3 * g + k := by omega
        rw [upd, if_neg e3]
        exact he
    exact ⟨key 0 (by decide) (a3 q hq).1, key 1 (by decide) (a3 q hq).2.1, key 2 (by decide) (a3 q hq).2.2⟩
  · rw [it_up_ne (by decide), it_up_ne (by omega)]; exact a4
  · rw [it_up_ne (by decide), it_up_ne (by omega)]; exact a5
  · rw [it_up_ne (by decide), it_up_ne (by omega)]; exact a6
/-- is a glass there? -/
def sp_th (A : it_SS) (x : Int32) : Bool := it_bd x 10 && decide (¬ A 6 x.toNatClampNeg = -1)
theorem th_nI {A : it_SS} {g : Nat} (hg : g < 10) : sp_th A (nI g) = decide (¬ A 6 g = -1) := by
  rw [sp_th, bd_nI hg (by decide), nI_clamp (by omega), Bool.true_and]
theorem nI_nm1 {p : Nat} (hp : p < 2 ^ 31) : ¬ nI p = -1 := fun h => by
  have := congrArg Int32.toInt h
  rw [nI_toInt hp] at this
  have e : (-1 : Int32).toInt = -1 := by decide
  rw [e] at this
  omega
theorem e_hasGuest {κ : it_KK} {S : it_SS} {u G : Nat} (h : S u 1 = nI G) (hG : G ≤ 6) (x : Int32) : f_X0_hasGuest κ u x S = some (if it_bd x G = true then 1 else 0, S) := by
  rw [f_X0_hasGuest, h]
  rcases pk_ix x (n := G) (by omega) with hx | hx | ⟨j, hj, rfl⟩
  · rw [if_pos hx, if_neg]
    intro q
    obtain ⟨j, hj, rfl⟩ := bd_of q
    exact nI_pos (by omega) hx
  · rw [if_neg (show ¬ x < 0 from fun q => by
      have := nI_pos' (n := G) (by omega)
      rw [Int32.lt_iff_toInt_lt] at q
      rw [Int32.le_iff_toInt_le] at hx this
      omega), if_pos hx, if_neg]
    intro q
    obtain ⟨j, hj, rfl⟩ := bd_of q
    exact nI_ge hj (by omega) hx
  · rw [if_neg (nI_pos (by omega)), if_neg (nI_ge hj (by omega)), if_pos (bd_nI hj (by omega))]
theorem e_hasGlass {κ : it_KK} {S A : it_SS} {u G T : Nat} (hx : hX S u A) (hr : hR A G T) (x : Int32) : f_X0_hasGlass κ u x S = some (if sp_th A x = true then 1 else 0, S) := by
  have h1 : S u 1 = nI G := hx.2.2.1.trans hr.1
  rw [f_X0_hasGlass]
  rcases pk_ix x (n := 10) (by decide) with h | h | ⟨j, hj, rfl⟩
  · have hb : it_bd x 10 = false := by
      cases e : it_bd x 10 with
      | false => rfl
      | true =>
        obtain ⟨j, hj, rfl⟩ := bd_of e
        exact absurd h (nI_pos (by omega))
    rw [if_pos h, sp_th, hb]
    rfl
  · have hb : it_bd x 10 = false := by
      cases e : it_bd x 10 with
      | false => rfl
      | true =>
        obtain ⟨j, hj, rfl⟩ := bd_of e
        exact absurd h (nI_ge hj (by decide))
    have hn : ¬ x < 0 := fun q => by
      have h2 : (nI 10 : Int32).toInt = 10 := by decide
      rw [Int32.lt_iff_toInt_lt, i_0] at q
      rw [Int32.le_iff_toInt_le, h2] at h
      omega
    rw [if_neg hn, if_pos (show 10 ≤ x from h), sp_th, hb]
    rfl
  · rw [if_neg (nI_pos (by omega)), if_neg (show ¬ 10 ≤ nI j from nI_ge (b := 10) hj (by decide)), if_pos (bd_nI hj (by decide)), nI_clamp (by omega), (hx.2.1 j hj).1, e_hasGuest h1 hr.2.1, it_bi_some, th_nI hj]
    rcases hr.2.2.1 j hj with e | ⟨p, hp, e⟩
    · rw [e]
      have : it_bd (-1) G = false := by
        cases e2 : it_bd (-1) G with
        | false => rfl
        | true =>
          obtain ⟨q, hq, e3⟩ := bd_of e2
          exact absurd e3.symm (nI_nm1 (by have := hr.2.1; omega))
      rw [this]
      simp
    · have hp2 := hr.2.1
      rw [e, bd_nI hp (by omega)]
      have := nI_nm1 (p := p) (by omega)
      simp [this]
theorem e_isThere {κ : it_KK} {S A : it_SS} {G : Nat} (hx : hM S A G) (x : Int32) : f_X6_isThere κ x S = some (if sp_th A x = true then 1 else 0, S) := by
  rw [f_X6_isThere, e_in, it_bi_some]
  rcases pk_ix x (n := 10) (by decide) with h | h | ⟨j, hj, rfl⟩
  · have hb : it_bd x 10 = false := by
      cases e : it_bd x 10 with
      | false => rfl
      | true =>
        obtain ⟨j, hj, rfl⟩ := bd_of e
        exact absurd h (nI_pos (by omega))
    have hi : sp_in x 0 9 = false := by
      simp [sp_in, Int32.not_le.mpr h]
    rw [hi, sp_th, hb]
    rfl
  · have hb : it_bd x 10 = false := by
      cases e : it_bd x 10 with
      | false => rfl
      | true =>
        obtain ⟨j, hj, rfl⟩ := bd_of e
        exact absurd h (nI_ge hj (by decide))
    have hi : sp_in x 0 9 = false := by
      have h2 : (nI 10 : Int32).toInt = 10 := by decide
      have h3 : (9 : Int32).toInt = 9 := by decide
      rw [Int32.le_iff_toInt_le, h2] at h
      have : ¬ x ≤ 9 := fun q => by
        rw [Int32.le_iff_toInt_le, h3] at q
        omega
      simp [sp_in, this]
    rw [hi, sp_th, hb]
    rfl
  · have hi : sp_in (nI j) 0 9 = true := by
      simp only [sp_in, Bool.and_eq_true, decide_eq_true_eq]
      exact ⟨nI_pos' (by omega), nI_le (b := 9) (by omega) (by decide)⟩
    have hc : sp_cl (nI j) 0 9 = nI j := by
      rw [sp_cl, if_neg (show ¬ nI j < 0 from nI_pos (by omega)), if_neg (show ¬ 9 < nI j from nI_nlt (a := 9) (by omega) (by decide))]
    rw [hi, if_pos rfl, if_neg (by decide), e_within, it_bi_some, hc, nI_3, if_pos (bd_nI (show 3 * j < 30 by omega) (by decide)), nI_clamp (by omega), (hx.2.2.1 j hj).1, th_nI hj]
    by_cases e : A 6 j = -1
    · simp [e]
    · simp [e]
/-! a day -/
def sp_ic (tb : Nat → Nat → List Nat) (A : it_SS) (g : Nat) : Int32 := if 0 < A 8 g - sp_melt tb A g then A 8 g - sp_melt tb A g else 0
def sp_d0 (tb : Nat → Nat → List Nat) (A : it_SS) (g : Nat) : it_SS := it_up A 8 g (sp_ic tb A g)
def sp_d1 (tb : Nat → Nat → List Nat) (A : it_SS) (g : Nat) : it_SS := if A 6 g = -1 then A else if sp_ic tb A g = 0 then it_up (it_up (sp_d0 tb A g) 4 (sp_p A g) (sp_cl (A 4 (sp_p A g) + sp_feel tb (sp_d0 tb A g) g) (-99) 99)) 6 g (-1) else sp_d0 tb A g
def sp_b1 (tb : Nat → Nat → List Nat) (A : it_SS) (g : Nat) (b : Int32) : Int32 := if A 6 g = -1 then b else if sp_ic tb A g = 0 then b ||| (1 <<< (nI g &&& 31)) else b
def sp_dl (tb : Nat → Nat → List Nat) : Nat → Nat → it_SS → Int32 → it_SS × Int32
  | 0, _, A, b => (A, b)
  | k + 1, g, A, b => sp_dl tb k (g + 1) (sp_d1 tb A g) (sp_b1 tb A g b)
def sp_c1 (A : it_SS) (p : Nat) : it_SS := it_up A 5 p (if 0 < A 5 p - 2 then A 5 p - 2 else 0)
def sp_cd : Nat → Nat → it_SS → it_SS
  | 0, _, A => A
  | k + 1, p, A => sp_cd k (p + 1) (sp_c1 A p)
def sp_day (tb : Nat → Nat → List Nat) (G : Nat) (A : it_SS) : it_SS := it_up (sp_cd G 0 (sp_dl tb 10 0 A 0).1) 9 0 ((sp_cd G 0 (sp_dl tb 10 0 A 0).1) 9 0 + 1)
def sp_off1 (tb : Nat → Nat → List Nat) (A : it_SS) : Int32 := (sp_dl tb 10 0 A 0).2
theorem hR.p {A : it_SS} {G T g : Nat} (hr : hR A G T) (hg : g < 10) (h : ¬ A 6 g = -1) : ∃ p, p < G ∧ A 6 g = nI p ∧ sp_p A g = p := by
  rcases hr.2.2.1 g hg with e | ⟨p, hp, e⟩
  · exact absurd e h
  · have := hr.2.1
    exact ⟨p, hp, e, by rw [sp_p, e, nI_clamp (by omega)]⟩
theorem ic_rng {tb : Nat → Nat → List Nat} {A : it_SS} {G T g : Nat} (hr : hR A G T) (hg : g < 10) (h : ¬ A 6 g = -1) : 0 ≤ (sp_ic tb A g).toInt ∧ (sp_ic tb A g).toInt ≤ 99 := by
  obtain ⟨p, hp, -, e⟩ := hr.p hg h
  have hm := melt_rng (tb := tb) (A := A) (g := g) (by rw [e]; exact hr.2.2.2.2.1 p hp)
  have hi := hr.2.2.2.2.2.2 g hg
  have hs : (A 8 g - sp_melt tb A g).toInt = (A 8 g).toInt - (sp_melt tb A g).toInt := i_sub (by omega) (by omega)
  rw [sp_ic]
  by_cases h1 : 0 < A 8 g - sp_melt tb A g
  · rw [if_pos h1]
    rw [Int32.lt_iff_toInt_lt, i_0] at h1
    omega
  · rw [if_neg h1, i_0]
    omega
theorem hR.up8 {A : it_SS} {G T g : Nat} {v : Int32} (hr : hR A G T) (h0 : 0 ≤ v.toInt) (h1 : v.toInt ≤ 99) : hR (it_up A 8 g v) G T := by
  obtain ⟨a1, a2, a3, a4, a5, a6, a7⟩ := hr
  refine ⟨by rw [it_up_ne (by decide)]; exact a1, a2, fun j hj => by rw [it_up_ne (by decide)]; exact a3 j hj, by rw [it_up_ne (by decide)]; exact a4, fun p hp => by rw [it_up_ne (by decide)]; exact a5 p hp, fun p hp => by rw [it_up_ne (by decide), it_up_ne (by decide)]; exact a6 p hp, fun j hj => ?_⟩
  rw [it_up_ne (by decide), it_up_eq, upd]
  by_cases e : j = g
  · rw [if_pos e]
    exact ⟨(a7 j hj).1, (a7 j hj).2.1, h0, h1⟩
  · rw [if_neg e]
    exact a7 j hj
theorem hR.up4 {A : it_SS} {G T p : Nat} {v : Int32} (hr : hR A G T) (h0 : -99 ≤ v.toInt) (h1 : v.toInt ≤ 99) : hR (it_up A 4 p v) G T := by
  obtain ⟨a1, a2, a3, a4, a5, a6, a7⟩ := hr
  refine ⟨by rw [it_up_ne (by decide)]; exact a1, a2, fun j hj => by rw [it_up_ne (by decide)]; exact a3 j hj, by rw [it_up_ne (by decide)]; exact a4, fun p hp => by rw [it_up_ne (by decide)]; exact a5 p hp, fun j hj => ?_, fun j hj => by rw [it_up_ne (by decide), it_up_ne (by decide)]; exact a7 j hj⟩
  rw [it_up_ne (show (5 : Nat) ≠ 4 by decide), it_up_eq, upd]
  by_cases e : j = p
  · rw [if_pos e]
    exact ⟨h0, h1, (a6 j hj).2.2⟩
  · rw [if_neg e]
    exact a6 j hj
theorem hR.up5 {A : it_SS} {G T p : Nat} {v : Int32} (hr : hR A G T) (h0 : 0 ≤ v.toInt) (h1 : v.toInt ≤ 99) : hR (it_up A 5 p v) G T := by
  obtain ⟨a1, a2, a3, a4, a5, a6, a7⟩ := hr
  refine ⟨by rw [it_up_ne (by decide)]; exact a1, a2, fun j hj => by rw [it_up_ne (by decide)]; exact a3 j hj, by rw [it_up_ne (by decide)]; exact a4, fun p hp => by rw [it_up_ne (by decide)]; exact a5 p hp, fun j hj => ?_, fun j hj => by rw [it_up_ne (by decide), it_up_ne (by decide)]; exact a7 j hj⟩
  rw [it_up_ne (show (4 : Nat) ≠ 5 by decide), it_up_eq, upd]
  by_cases e : j = p
  · rw [if_pos e]
    exact ⟨(a6 j hj).1, (a6 j hj).2.1, h0, h1⟩
  · rw [if_neg e]
    exact a6 j hj
theorem hR.up6 {A : it_SS} {G T g : Nat} {v : Int32} (hr : hR A G T) (h0 : v = -1 ∨ ∃ p, p < G ∧ v = nI p) : hR (it_up A 6 g v) G T := by
  obtain ⟨a1, a2, a3, a4, a5, a6, a7⟩ := hr
  refine ⟨by rw [it_up_ne (by decide)]; exact a1, a2, fun j hj => ?_, by rw [it_up_ne (by decide)]; exact a4, fun p hp => by rw [it_up_ne (by decide)]; exact a5 p hp, fun p hp => by rw [it_up_ne (by decide), it_up_ne (by decide)]; exact a6 p hp, fun j hj => by rw [it_up_ne (by decide), it_up_ne (by decide)]; exact a7 j hj⟩
  rw [it_up_eq, upd]
  by_cases e : j = g
  · rw [if_pos e]
    exact h0
  · rw [if_neg e]
    exact a3 j hj
theorem hR.up7 {A : it_SS} {G T g : Nat} {v : Int32} (hr : hR A G T) (h0 : -99 ≤ v.toInt) (h1 : v.toInt ≤ 99) : hR (it_up A 7 g v) G T := by
  obtain ⟨a1, a2, a3, a4, a5, a6, a7⟩ := hr
  refine ⟨by rw [it_up_ne (by decide)]; exact a1, a2, fun j hj => by rw [it_up_ne (by decide)]; exact a3 j hj, by rw [it_up_ne (by decide)]; exact a4, fun p hp => by rw [it_up_ne (by decide)]; exact a5 p hp, fun p hp => by rw [it_up_ne (by decide), it_up_ne (by decide)]; exact a6 p hp, fun j hj => ?_⟩
  rw [it_up_ne (show (8 : Nat) ≠ 7 by decide), it_up_eq, upd]
  by_cases e : j = g
  · rw [if_pos e]
    exact ⟨h0, h1, (a7 j hj).2.2⟩
  · rw [if_neg e]
    exact a7 j hj
theorem hR.up9 {A : it_SS} {G T : Nat} {v : Int32} (hr : hR A G T) : hR (it_up A 9 0 v) G T := by
  obtain ⟨a1, a2, a3, a4, a5, a6, a7⟩ := hr
  exact ⟨by rw [it_up_ne (by decide)]; exact a1, a2, fun j hj => by rw [it_up_ne (by decide)]; exact a3 j hj, by rw [it_up_ne (by decide)]; exact a4, fun p hp => by rw [it_up_ne (by decide)]; exact a5 p hp, fun p hp => by rw [it_up_ne (by decide), it_up_ne (by decide)]; exact a6 p hp, fun j hj => by rw [it_up_ne (by decide), it_up_ne (by decide)]; exact a7 j hj⟩
theorem hR.d0 {tb : Nat → Nat → List Nat} {A : it_SS} {G T g : Nat} (hr : hR A G T) (hg : g < 10) (h : ¬ A 6 g = -1) : hR (sp_d0 tb A g) G T := hr.up8 (ic_rng hr hg h).1 (ic_rng hr hg h).2
theorem hR.d1 {tb : Nat → Nat → List Nat} {A : it_SS} {G T g : Nat} (hr : hR A G T) (hg : g < 10) : hR (sp_d1 tb A g) G T := by
  rw [sp_d1]
  by_cases h : A 6 g = -1
  · rw [if_pos h]
    exact hr
  · rw [if_neg h]
    by_cases h2 : sp_ic tb A g = 0
    · rw [if_pos h2]
      have hc := cl_rng (v := A 4 (sp_p A g) + sp_feel tb (sp_d0 tb A g) g) (lo := -99) (hi := 99) (by decide)
      rw [i_m99, i_99] at hc
      exact ((hr.d0 hg h).up4 hc.1 hc.2).up6 (Or.inl rfl)
    · rw [if_neg h2]
      exact hr.d0 hg h
theorem hR.c1 {A : it_SS} {G T p : Nat} (hr : hR A G T) (hp : p < 6) : hR (sp_c1 A p) G T := by
  have h := hr.2.2.2.2.2.1 p hp
  have h2 : (2 : Int32).toInt = 2 := by decide
  have hs : (A 5 p - 2).toInt = (A 5 p).toInt - 2 := by rw [i_sub (by omega) (by omega), h2]
  refine hr.up5 ?_ ?_ <;> split
  · rw [hs]; rename_i q; rw [Int32.lt_iff_toInt_lt, i_0, hs] at q; omega
  · rw [i_0]; omega
  · rw [hs]; omega
  · rw [i_0]; omega
theorem hR.dl {tb : Nat → Nat → List Nat} {G T : Nat} : ∀ (k g : Nat) (A : it_SS) (b : Int32), hR A G T → g + k ≤ 10 → hR (sp_dl tb k g A b).1 G T
  | 0, _, _, _, h, _ => h
  | k + 1, g, A, b, h, hk => hR.dl k (g + 1) _ _ (h.d1 (by omega)) (by omega)
theorem hR.cd {G T : Nat} : ∀ (k p : Nat) (A : it_SS), hR A G T → p + k ≤ 6 → hR (sp_cd k p A) G T
  | 0, _, _, h, _ => h
  | k + 1, p, A, h, hk => hR.cd k (p + 1) _ (h.c1 (by omega)) (by omega)
theorem hR.day {tb : Nat → Nat → List Nat} {A : it_SS} {G T : Nat} (hr : hR A G T) : hR (sp_day tb G A) G T := (hR.cd G 0 _ (hR.dl 10 0 A 0 hr (by decide)) (by have := hr.2.1; omega)).up9
theorem d1_ne {tb : Nat → Nat → List Nat} {A : it_SS} {g f : Nat} (h4 : f ≠ 4) (h6 : f ≠ 6) (h8 : f ≠ 8) : sp_d1 tb A g f = A f := by
  rw [sp_d1]
  split
  · rfl
  · split
    · rw [it_up_ne h6, it_up_ne h4, sp_d0, it_up_ne h8]
    · rw [sp_d0, it_up_ne h8]
theorem dl_ne {tb : Nat → Nat → List Nat} {f : Nat} (h4 : f ≠ 4) (h6 : f ≠ 6) (h8 : f ≠ 8) : ∀ (k g : Nat) (A : it_SS) (b : Int32), (sp_dl tb k g A b).1 f = A f
  | 0, _, _, _ => rfl
  | k + 1, g, A, b => (dl_ne h4 h6 h8 k (g + 1) _ _).trans (d1_ne h4 h6 h8)
theorem cd_ne {f : Nat} (h5 : f ≠ 5) : ∀ (k p : Nat) (A : it_SS), (sp_cd k p A) f = A f
  | 0, _, _ => rfl
  | k + 1, p, A => (cd_ne h5 k (p + 1) _).trans (it_up_ne h5)
theorem day_ne {tb : Nat → Nat → List Nat} {A : it_SS} {G f : Nat} (h4 : f ≠ 4) (h5 : f ≠ 5) (h6 : f ≠ 6) (h8 : f ≠ 8) (h9 : f ≠ 9) : sp_day tb G A f = A f := by
  rw [sp_day, it_up_ne h9, cd_ne h5, dl_ne h4 h6 h8]
