section TOKENSM
variable {κ : it_KK} {S : it_SS} {b : Nat → Nat} {n : Nat}
/-! the reference's reading of a token -/
theorem in_bN {c lo hi : Nat} (hc : c < 2 ^ 31) (hl : lo < 2 ^ 31) (hh : hi < 2 ^ 31) : sp_in (nI c) (nI lo) (nI hi) = decide (lo ≤ c ∧ c ≤ hi) := by
  rw [sp_in]
  by_cases h1 : lo ≤ c
  · by_cases h2 : c ≤ hi
    · simp [h1, h2, (nI_leI hl hc).mpr h1, (nI_leI hc hh).mpr h2]
    · simp [h2, (show ¬ nI c ≤ nI hi from fun q => h2 ((nI_leI hc hh).mp q))]
  · simp [h1, (show ¬ nI lo ≤ nI c from fun q => h1 ((nI_leI hl hc).mp q))]
theorem e_inl {c : Nat} (hc : c < 256) : f_X6_in κ (nI c) 97 122 S = some (if 97 ≤ c ∧ c ≤ 122 then 1 else 0, S) := by
  rw [e_in, show sp_in (nI c) 97 122 = decide (97 ≤ c ∧ c ≤ 122) from in_bN (lo := 97) (hi := 122) (by omega) (by decide) (by decide)]
  by_cases h : 97 ≤ c ∧ c ≤ 122 <;> simp [h]
theorem e_ind {c : Nat} (hc : c < 256) : f_X6_in κ (nI c) 48 57 S = some (if 48 ≤ c ∧ c ≤ 57 then 1 else 0, S) := by
  rw [e_in, show sp_in (nI c) 48 57 = decide (48 ≤ c ∧ c ≤ 57) from in_bN (lo := 48) (hi := 57) (by omega) (by decide) (by decide)]
  by_cases h : 48 ≤ c ∧ c ≤ 57 <;> simp [h]
theorem e_sk_m {kont : it_SS → Option (Unit × it_SS)} : ∀ (k i f : Nat) (S : it_SS), n ≤ i + k → i ≤ n → k < f → byts b n (S 50) → S 45 7 = nI n → S 45 19 = nI i → ∃ S', lp_X6_next_0 κ kont f S = kont S' ∧ (∀ c, c ≠ 45 → S' c = S c) ∧ (∀ j, j ≠ 19 → S' 45 j = S 45 j) ∧ S' 45 19 = nI (tk_sk b n k i) := by
  intro k
  induction k with
  | zero =>
    intro i f S h0 hi hf hb h1 h2
    obtain ⟨f, rfl⟩ : ∃ q, f = q + 1 := ⟨f - 1, by omega⟩
    obtain rfl : i = n := by omega
    exact ⟨S, by rw [lp_X6_next_0, h1, h2, if_pos (Int32.le_refl _)], fun _ _ => rfl, fun _ _ => rfl, h2⟩
  | succ k ih =>
    intro i f S h0 hi hf hb h1 h2
    obtain ⟨f, rfl⟩ : ∃ q, f = q + 1 := ⟨f - 1, by omega⟩
    have hn := hb.1
    rw [lp_X6_next_0, tk_sk, h1, h2]
    by_cases hin : i < n
    · have hbi := hb.2 i hin
      have more : (b i = 32 ∨ b i = 10) → ∃ S', lp_X6_next_0 κ kont f (it_up S 45 19 (nI (i + 1))) = kont S' ∧ (∀ c, c ≠ 45 → S' c = S c) ∧ (∀ j, j ≠ 19 → S' 45 j = S 45 j) ∧ S' 45 19 = nI (tk_sk b n k (i + 1)) := fun _ => by
        obtain ⟨S', a1, a2, a3, a4⟩ := ih (i + 1) f (it_up S 45 19 (nI (i + 1))) (by omega) hin (by omega) (by rw [it_up_ne (by decide)]; exact hb) (by rw [it_up_eq, upd, if_neg (by decide)]; exact h1) (by rw [it_up_eq, upd, if_pos rfl])
        exact ⟨S', a1, fun c hc => (a2 c hc).trans (it_up_ne hc), fun j hj => by rw [a3 j hj, it_up_eq, upd, if_neg hj], a4⟩
      rw [if_neg (nI_ge hin (by omega)), if_pos (bd_nI (show i < 160 by omega) (by decide)), nI_clamp (by omega), hbi.1, nI_1]
      by_cases q1 : b i = 32
      · rw [if_pos (show nI (b i) = 32 from congrArg nI q1), if_pos ⟨hin, Or.inl q1⟩]
        exact more (Or.inl q1)
      · rw [if_neg (show ¬ nI (b i) = 32 from fun q => q1 ((nE (m := 32) (by omega) (by decide)).mp q))]
        by_cases q2 : b i = 10
        · rw [if_pos (show nI (b i) = 10 from congrArg nI q2), if_pos ⟨hin, Or.inr q2⟩]
          exact more (Or.inr q2)
        · rw [if_neg (show ¬ nI (b i) = 10 from fun q => q2 ((nE (m := 10) (by omega) (by decide)).mp q)), if_neg (fun q => q.2.elim q1 q2)]
          exact ⟨S, rfl, fun _ _ => rfl, fun _ _ => rfl, h2⟩
    · obtain rfl : i = n := by omega
      rw [if_pos (Int32.le_refl _), if_neg (fun q => hin q.1)]
      exact ⟨S, rfl, fun _ _ => rfl, fun _ _ => rfl, h2⟩
theorem e_lt_m {kont : it_SS → Option (Unit × it_SS)} : ∀ (k i f : Nat) (S : it_SS), n ≤ i + k → i ≤ n → k < f → byts b n (S 50) → S 45 7 = nI n → S 45 19 = nI i → ∃ S', lp_X6_next_103 κ kont f S = kont S' ∧ (∀ c, c ≠ 45 → S' c = S c) ∧ (∀ j, j ≠ 19 → S' 45 j = S 45 j) ∧ S' 45 19 = nI (tk_rn b n 97 122 k i) := by
  intro k
  induction k with
  | zero =>
    intro i f S h0 hi hf hb h1 h2
    obtain ⟨f, rfl⟩ : ∃ q, f = q + 1 := ⟨f - 1, by omega⟩
    obtain rfl : i = n := by omega
    exact ⟨S, by rw [lp_X6_next_103, h1, h2, if_pos (Int32.le_refl _)], fun _ _ => rfl, fun _ _ => rfl, h2⟩
  | succ k ih =>
    intro i f S h0 hi hf hb h1 h2
    obtain ⟨f, rfl⟩ : ∃ q, f = q + 1 := ⟨f - 1, by omega⟩
    have hn := hb.1
    rw [lp_X6_next_103, tk_rn, h1, h2]
    by_cases hin : i < n
    · have hbi := hb.2 i hin
      rw [if_neg (nI_ge hin (by omega)), if_pos (bd_nI (show i < 160 by omega) (by decide)), nI_clamp (by omega), hbi.1, e_inl hbi.2, it_bi_some]
      by_cases q : 97 ≤ b i ∧ b i ≤ 122
      · rw [if_pos q, if_neg (by decide), if_pos ⟨hin, q⟩, h2, nI_1]
        obtain ⟨S', a1, a2, a3, a4⟩ := ih (i + 1) f (it_up S 45 19 (nI (i + 1))) (by omega) hin (by omega) (by rw [it_up_ne (by decide)]; exact hb) (by rw [it_up_eq, upd, if_neg (by decide)]; exact h1) (by rw [it_up_eq, upd, if_pos rfl])
        exact ⟨S', a1, fun c hc => (a2 c hc).trans (it_up_ne hc), fun j hj => by rw [a3 j hj, it_up_eq, upd, if_neg hj], a4⟩
      · rw [if_neg q, if_pos rfl, if_neg (fun c => q c.2)]
        exact ⟨S, rfl, fun _ _ => rfl, fun _ _ => rfl, h2⟩
    · obtain rfl : i = n := by omega
      rw [if_pos (Int32.le_refl _), if_neg (fun q => hin q.1)]
      exact ⟨S, rfl, fun _ _ => rfl, fun _ _ => rfl, h2⟩
theorem nI_dg' {v c : Nat} (h : 48 ≤ c) : 10 * nI v + nI c - 48 = nI (v * 10 + (c - 48)) := by
  rw [Int32.mul_comm, nI_dg h]
theorem e_dg_m {kont : Int32 → it_SS → Option (Unit × it_SS)} : ∀ (k i m v f : Nat) (S : it_SS), n ≤ i + k → i ≤ n → k < f → m ≤ i → byts b n (S 50) → S 45 7 = nI n → S 45 19 = nI i → (m ≤ 4 → S 45 22 = nI v) → ∃ S', lp_X6_next_230 κ kont f (nI m) S = kont (nI (m + (tk_rn b n 48 57 k i - i))) S' ∧ (∀ c, c ≠ 45 → S' c = S c) ∧ (∀ j, j ≠ 19 → j ≠ 22 → S' 45 j = S 45 j) ∧ S' 45 19 = nI (tk_rn b n 48 57 k i) ∧ (m + (tk_rn b n 48 57 k i - i) ≤ 4 → S' 45 22 = nI (tk_vl b n k i v)) := by
  intro k
  induction k with
  | zero =>
    intro i m v f S h0 hi hf hm hb h1 h2 h4
    obtain ⟨f, rfl⟩ : ∃ q, f = q + 1 := ⟨f - 1, by omega⟩
    obtain rfl : i = n := by omega
    refine ⟨S, ?_, fun _ _ => rfl, fun _ _ _ => rfl, h2, fun q => h4 (by omega)⟩
    rw [lp_X6_next_230, h1, h2, if_pos (Int32.le_refl _), tk_rn, Nat.sub_self]
    rfl
  | succ k ih =>
    intro i m v f S h0 hi hf hm hb h1 h2 h4
    obtain ⟨f, rfl⟩ : ∃ q, f = q + 1 := ⟨f - 1, by omega⟩
    have hn := hb.1
    rw [lp_X6_next_230, tk_rn, tk_vl, h1, h2]
    by_cases hin : i < n
    · have hbi := hb.2 i hin
      rw [if_neg (nI_ge hin (by omega)), if_pos (bd_nI (show i < 160 by omega) (by decide)), nI_clamp (by omega), hbi.1, e_ind hbi.2, it_bi_some]
      by_cases q : 48 ≤ b i ∧ b i ≤ 57
      · have hg := rn_ge (b := b) (n := n) (lo := 48) (hi := 57) k (i + 1)
        rw [if_pos q, if_neg (by decide), if_pos (show i < n ∧ 48 ≤ b i ∧ b i ≤ 57 from ⟨hin, q⟩), if_pos (show i < n ∧ 48 ≤ b i ∧ b i ≤ 57 from ⟨hin, q⟩), nI_1, show m + (tk_rn b n 48 57 k (i + 1) - i) = m + 1 + (tk_rn b n 48 57 k (i + 1) - (i + 1)) by omega]
        by_cases q4 : 4 ≤ m
        · rw [if_pos (show 4 ≤ nI m from nI_le q4 (by omega)), it_up_eq, upd, if_neg (by decide), h2, nI_1]
          obtain ⟨S', a1, a2, a3, a4, a5⟩ := ih (i + 1) (m + 1) 0 f (it_up (it_up S 45 22 0) 45 19 (nI (i + 1))) (by omega) hin (by omega) (by omega) (by rw [it_up_ne (by decide), it_up_ne (by decide)]; exact hb) (by rw [it_up_eq, upd, if_neg (by decide), it_up_eq, upd, if_neg (by decide)]; exact h1) (by rw [it_up_eq, upd, if_pos rfl]) (fun c => absurd c (by omega))
          exact ⟨S', a1, fun c hc => by rw [a2 c hc, it_up_ne hc, it_up_ne hc], fun j hj hj4 => by rw [a3 j hj hj4, it_up_eq, upd, if_neg hj, it_up_eq, upd, if_neg hj4], a4, fun c => absurd c (by omega)⟩
        · rw [if_neg (show ¬ 4 ≤ nI m from nI_ge (b := 4) (by omega) (by decide)), h2, if_pos (bd_nI (show i < 160 by omega) (by decide)), nI_clamp (by omega), hbi.1, h4 (by omega), nI_dg' q.1, it_up_eq, upd, if_neg (by decide), h2, nI_1]
          obtain ⟨S', a1, a2, a3, a4, a5⟩ := ih (i + 1) (m + 1) (v * 10 + (b i - 48)) f (it_up (it_up S 45 22 (nI (v * 10 + (b i - 48)))) 45 19 (nI (i + 1))) (by omega) hin (by omega) (by omega) (by rw [it_up_ne (by decide), it_up_ne (by decide)]; exact hb) (by rw [it_up_eq, upd, if_neg (by decide), it_up_eq, upd, if_neg (by decide)]; exact h1) (by rw [it_up_eq, upd, if_pos rfl]) (fun _ => by rw [it_up_eq, upd, if_neg (by decide), it_up_eq, upd, if_pos rfl])
          exact ⟨S', a1, fun c hc => by rw [a2 c hc, it_up_ne hc, it_up_ne hc], fun j hj hj4 => by rw [a3 j hj hj4, it_up_eq, upd, if_neg hj, it_up_eq, upd, if_neg hj4], a4, a5⟩
      · rw [if_neg q, if_pos rfl, if_neg (fun c => q c.2), if_neg (fun c => q c.2), Nat.sub_self]
        exact ⟨S, rfl, fun _ _ => rfl, fun _ _ _ => rfl, h2, fun c => h4 (by omega)⟩
    · obtain rfl : i = n := by omega
      rw [if_pos (Int32.le_refl _), if_neg (fun q => hin q.1), if_neg (fun q => hin q.1), Nat.sub_self]
      exact ⟨S, rfl, fun _ _ => rfl, fun _ _ _ => rfl, h2, fun c => h4 (by omega)⟩
/-! words of the reference: its k-th is the class's pi k-th -/
def wpi : List Nat := [0, 1, 2, 6, 7, 8, 9, 10, 11, 3, 4, 5]
theorem wTb_at : ∀ k, k < 12 → wpi.getD k 0 < 12 ∧ ∀ c, c < 8 → wTb.getD (8 * k + c) 0 = if c < (wl.getD (wpi.getD k 0) []).length then (wl.getD (wpi.getD k 0) []).getD c 0 else 32 := by decide +kernel
theorem wpi_onto : ∀ w, w < 12 → ∃ k, k < 12 ∧ wpi.getD k 0 = w := by decide +kernel
theorem wl_ch : ∀ w, w < 12 → ∀ c, c < (wl.getD w []).length → 97 ≤ (wl.getD w []).getD c 0 ∧ (wl.getD w []).getD c 0 ≤ 122 := by decide +kernel
theorem rn_in {lo hi : Nat} : ∀ k i j, i ≤ j → j < tk_rn b n lo hi k i → lo ≤ b j ∧ b j ≤ hi
  | 0, i, j, h1, h2 => by rw [tk_rn] at h2; omega
  | k + 1, i, j, h1, h2 => by
    rw [tk_rn] at h2
    by_cases h : i < n ∧ lo ≤ b i ∧ b i ≤ hi
    · rw [if_pos h] at h2
      by_cases e : j = i
      · rw [e]; exact h.2
      · exact rn_in k (i + 1) j (by omega) h2
    · rw [if_neg h] at h2
      omega
/-- what stands from p to e, as a word of eight -/
def pad (b : Nat → Nat) (p e c : Nat) : Nat := if p + c < e then b (p + c) else 32
theorem e_wf_loop {p e k : Nat} {x1 x2 : Int32} {kont : Int32 → Int32 → it_SS → Option (Int32 × it_SS)} (hk : k < 12) (hpe : p ≤ e) (hen : e ≤ n) (hb : byts b n (S 50)) (hw : wT S) (e1 : x1 = nI p) (e2 : x2 = nI e) : ∀ (m c f : Nat) (lk : Int32), c + m = 8 → m + 1 < f → ((lk = 1 ∧ ∀ j, j < c → wTb.getD (8 * k + j) 0 = pad b p e j) ∨ (lk = 0 ∧ ¬ ∀ j, j < 8 → wTb.getD (8 * k + j) 0 = pad b p e j)) → ∃ r : Int32, lp_X6_wordFrom_26 κ x1 x2 kont f (nI k) lk (nI c) S = kont (nI k) r S ∧ ((r = 1 ∧ ∀ j, j < 8 → wTb.getD (8 * k + j) 0 = pad b p e j) ∨ (r = 0 ∧ ¬ ∀ j, j < 8 → wTb.getD (8 * k + j) 0 = pad b p e j)) := by
  have hn := hb.1
  subst e1
  subst e2
  intro m
  induction m with
  | zero =>
    intro c f lk hc hf hl
    obtain ⟨f, rfl⟩ : ∃ q, f = q + 1 := ⟨f - 1, by omega⟩
    obtain rfl : c = 8 := by omega
    exact ⟨lk, by rw [lp_X6_wordFrom_26, if_pos (show (8 : Int32) ≤ nI 8 by decide)], hl⟩
  | succ m ih =>
    intro c f lk hc hf hl
    obtain ⟨f, rfl⟩ : ∃ q, f = q + 1 := ⟨f - 1, by omega⟩
    rw [lp_X6_wordFrom_26, if_neg (show ¬ 8 ≤ nI c from nI_ge (b := 8) (by omega) (by decide))]
    rcases hl with ⟨rfl, hl⟩ | ⟨rfl, hl⟩
    · have h8 : 8 * nI k + nI c = nI (8 * k + c) := by rw [show (8 : Int32) = nI 8 from rfl, pk_mul, nI_add]
      have hlt : wTb.getD (8 * k + c) 0 < 256 := by
        have := wTb_at k hk
        rw [this.2 c (by omega)]
        split
        · rename_i q
          have := wl_ch _ this.1 c q
          omega
        · decide
      have yes : wTb.getD (8 * k + c) 0 = pad b p e c → ∃ r : Int32, lp_X6_wordFrom_26 κ (nI p) (nI e) kont f (nI k) 1 (nI (c + 1)) S = kont (nI k) r S ∧ ((r = 1 ∧ ∀ j, j < 8 → wTb.getD (8 * k + j) 0 = pad b p e j) ∨ (r = 0 ∧ ¬ ∀ j, j < 8 → wTb.getD (8 * k + j) 0 = pad b p e j)) := fun q =>
        ih (c + 1) f 1 (by omega) (by omega) (Or.inl ⟨rfl, fun j hj => by
          by_cases e' : j = c
          · rw [e']; exact q
          · exact hl j (by omega)⟩)
      have no : ¬ wTb.getD (8 * k + c) 0 = pad b p e c → ∃ r : Int32, lp_X6_wordFrom_26 κ (nI p) (nI e) kont f (nI k) 0 (nI (c + 1)) S = kont (nI k) r S ∧ ((r = 1 ∧ ∀ j, j < 8 → wTb.getD (8 * k + j) 0 = pad b p e j) ∨ (r = 0 ∧ ¬ ∀ j, j < 8 → wTb.getD (8 * k + j) 0 = pad b p e j)) := fun q =>
        ih (c + 1) f 0 (by omega) (by omega) (Or.inr ⟨rfl, fun h => q (h c (by omega))⟩)
      rw [if_neg (by decide), h8, if_pos (bd_nI (show 8 * k + c < 96 by omega) (by decide)), nI_add, nI_clamp (show 8 * k + c < 2 ^ 31 by omega), hw _ (by omega), nI_1]
      by_cases q : p + c < e
      · have hbi := hb.2 (p + c) (by omega)
        have hpd : pad b p e c = b (p + c) := if_pos q
        rw [if_neg (nI_ge q (by omega)), if_pos (bd_nI (show p + c < 160 by omega) (by decide)), nI_clamp (show p + c < 2 ^ 31 by omega), hbi.1]
        by_cases q2 : wTb.getD (8 * k + c) 0 = pad b p e c
        · rw [if_pos (congrArg nI (q2.trans hpd))]
          exact yes q2
        · rw [if_neg (fun h => q2 (((nE (by omega) (by omega)).mp h).trans hpd.symm))]
          exact no q2
      · have hpd : pad b p e c = 32 := if_neg q
        rw [if_pos (nI_le (by omega) (by omega))]
        by_cases q2 : wTb.getD (8 * k + c) 0 = pad b p e c
        · rw [if_pos (show nI (wTb.getD (8 * k + c) 0) = 32 from congrArg nI (q2.trans hpd))]
          exact yes q2
        · rw [if_neg (show ¬ nI (wTb.getD (8 * k + c) 0) = 32 from fun h => q2 (((nE (m := 32) (by omega) (by decide)).mp h).trans hpd.symm))]
          exact no q2
    · rw [if_pos rfl]
      exact ⟨0, rfl, Or.inr ⟨rfl, hl⟩⟩
theorem pad_isw {p e k : Nat} (hk : k < 12) (hpe : p ≤ e) (hl : ∀ j, p ≤ j → j < e → 97 ≤ b j ∧ b j ≤ 122) : (e - p ≤ 8 ∧ ∀ j, j < 8 → wTb.getD (8 * k + j) 0 = pad b p e j) ↔ isw b p e (wpi.getD k 0) := by
  obtain ⟨h1, h2⟩ := wTb_at k hk
  have hlen := wl_len _ h1
  have hch := wl_ch _ h1
  constructor
  · rintro ⟨g1, g2⟩
    have hle : e - p = (wl.getD (wpi.getD k 0) []).length := by
      rcases Nat.lt_trichotomy (e - p) (wl.getD (wpi.getD k 0) []).length with q | q | q
      · have a := g2 (e - p) (by omega)
        rw [h2 _ (by omega), if_pos q, pad, if_neg (by omega)] at a
        have := hch _ q
        omega
      · exact q
      · have a := g2 (wl.getD (wpi.getD k 0) []).length (by omega)
        rw [h2 _ (by omega), if_neg (by omega), pad, if_pos (by omega)] at a
        have := hl (p + (wl.getD (wpi.getD k 0) []).length) (by omega) (by omega)
        omega
    refine ⟨hle, fun j hj => ?_⟩
    have a := g2 j (by omega)
    rw [h2 _ (by omega), if_pos (by omega), pad, if_pos (by omega)] at a
    exact a.symm
  · rintro ⟨g1, g2⟩
    refine ⟨by omega, fun j hj => ?_⟩
    rw [h2 j hj, pad]
    by_cases q : j < (wl.getD (wpi.getD k 0) []).length
    · rw [if_pos q, if_pos (by omega), g2 j (by omega)]
    · rw [if_neg q, if_neg (by omega)]
theorem e_wordFrom_loop {p e : Nat} (hpe : p ≤ e) (hen : e ≤ n) (hb : byts b n (S 50)) (hw : wT S) (hl : ∀ j, p ≤ j → j < e → 97 ≤ b j ∧ b j ≤ 122) : ∀ (m k f : Nat), k + m = 12 → m < f → (∀ v, v < k → ¬ isw b p e (wpi.getD v 0)) → ∃ r : Nat, lp_X6_wordFrom_2 κ (nI p) (nI e) (fun S18 => some (12, S18)) f (nI k) S = some (nI r, S) ∧ ((r < 12 ∧ isw b p e (wpi.getD r 0)) ∨ (r = 12 ∧ ∀ v, v < 12 → ¬ isw b p e (wpi.getD v 0))) := by
  have hn := hb.1
  intro m
  induction m with
  | zero =>
    intro k f hk hf hv
    obtain ⟨f, rfl⟩ : ∃ q, f = q + 1 := ⟨f - 1, by omega⟩
    obtain rfl : k = 12 := by omega
    exact ⟨12, by rw [lp_X6_wordFrom_2, if_pos (show (12 : Int32) ≤ nI 12 by decide)]; rfl, Or.inr ⟨rfl, hv⟩⟩
  | succ m ih =>
    intro k f hk hf hv
    obtain ⟨f, rfl⟩ : ∃ q, f = q + 1 := ⟨f - 1, by omega⟩
    have hse : nI e - nI p = nI (e - p) := pk_sub hpe
    have hpi := pad_isw (b := b) (show k < 12 by omega) hpe hl
    have go : ¬ isw b p e (wpi.getD k 0) → ∃ r : Nat, lp_X6_wordFrom_2 κ (nI p) (nI e) (fun S18 => some (12, S18)) f (nI (k + 1)) S = some (nI r, S) ∧ ((r < 12 ∧ isw b p e (wpi.getD r 0)) ∨ (r = 12 ∧ ∀ v, v < 12 → ¬ isw b p e (wpi.getD v 0))) := fun q =>
      ih (k + 1) f (by omega) (by omega) (fun v h => by
        by_cases e' : v = k
        · rw [e']; exact q
        · exact hv v (by omega))
    rw [lp_X6_wordFrom_2, if_neg (show ¬ 12 ≤ nI k from nI_ge (b := 12) (by omega) (by decide)), hse]
    by_cases q : 8 < e - p
    · rw [if_pos (show 8 < nI (e - p) from nI_lt q (by omega)), show it_FU = 99999 + 1 from rfl, show (0 : Int32) = nI 0 from rfl, lp_X6_wordFrom_26, if_neg (by decide), if_pos (by decide), if_pos (by decide), nI_1]
      exact go (fun h => by have := (hpi.mpr h).1; omega)
    · rw [if_neg (show ¬ 8 < nI (e - p) from nI_nlt (a := 8) (by omega) (by decide))]
      obtain ⟨r, a1, a2⟩ := e_wf_loop (κ := κ) (k := k) (kont := fun v14 v15 S16 => if v15 = 0 then lp_X6_wordFrom_2 κ (nI p) (nI e) (fun S18 => some (12, S18)) f (v14 + 1) S16 else some (v14, S16)) (by omega) hpe hen hb hw rfl rfl 8 0 it_FU 1 rfl (by decide) (Or.inl ⟨rfl, fun j h => absurd h (Nat.not_lt_zero _)⟩)
      rw [show lp_X6_wordFrom_26 κ (nI p) (nI e) _ it_FU (nI k) 1 0 S = _ from a1]
      rcases a2 with ⟨rfl, a2⟩ | ⟨rfl, a2⟩
      · rw [if_neg (by decide)]
        exact ⟨k, rfl, Or.inl ⟨by omega, hpi.mp ⟨by omega, a2⟩⟩⟩
      · rw [if_pos rfl, nI_1]
        exact go (fun h => a2 (hpi.mpr h).2)
/-- the reference's word for the class's -/
def wix (t : Nat) : Nat := if t < 3 then t else if t < 6 then t + 6 else if t < 12 then t - 3 else 12
theorem wix_pi : ∀ k, k < 12 → wix (wpi.getD k 0) = k := by decide +kernel
theorem e_wordFrom {p e : Nat} (hpe : p ≤ e) (hen : e ≤ n) (hb : byts b n (S 50)) (hw : wT S) (hl : ∀ j, p ≤ j → j < e → 97 ≤ b j ∧ b j ≤ 122) : f_X6_wordFrom κ (nI p) (nI e) S = some (nI (wix (tk_w b p e)), S) := by
  obtain ⟨r, a1, a2⟩ := e_wordFrom_loop (κ := κ) hpe hen hb hw hl 12 0 it_FU rfl (by decide) (fun v h => absurd h (Nat.not_lt_zero _))
  rw [f_X6_wordFrom]
  refine Eq.trans a1 ?_
  rcases a2 with ⟨h1, h2⟩ | ⟨h1, h2⟩
  · have e1 := w_un (b := b) (p := p) (e := e) (Or.inl ⟨(wTb_at r h1).1, h2⟩)
    rw [← e1, wix_pi r h1]
  · have e1 := w_un (b := b) (p := p) (e := e) (t := 14) (Or.inr ⟨rfl, fun w hw => by
      obtain ⟨k, k1, k2⟩ := wpi_onto w hw
      rw [← k2]
      exact h2 k k1⟩)
    rw [← e1, h1]
    rfl
/-- the reference's token, its value -/
def rt (t : Nat) : Int32 := if t < 3 then 3 else if t < 6 then nI (t + 1) else if t < 12 then 2 else if t = 12 then 1 else if t = 13 then 0 else if t = 14 then -1 else nI t
theorem rt_w : ∀ t, t < 12 → (if 3 ≤ nI (wix t) then (if 9 ≤ nI (wix t) then (if nI (wix t) = 12 then ((-1 : Int32), nI (wix t) - 3) else (4 + nI (wix t) - 9, nI (wix t) - 3)) else (2, nI (wix t) - 3)) else (3, nI (wix t))) = (rt t, if t < 3 then nI t else if t < 6 then nI (t + 3) else nI (t - 6)) := by decide +kernel
theorem e_next_m {i : Nat} (hi : i ≤ n) (hb : byts b n (S 50)) (hw : wT S) (h1 : S 45 7 = nI n) (h2 : S 45 19 = nI i) : ∃ S', f_X6_next κ S = some ((), S') ∧ (∀ c, c ≠ 45 → S' c = S c) ∧ (∀ j, j ≠ 19 → j ≠ 20 → j ≠ 21 → j ≠ 22 → S' 45 j = S 45 j) ∧ S' 45 19 = nI (tk_e b n i) ∧ S' 45 21 = rt (tk_t b n i) ∧ S' 45 20 = nI (tk_p b n i) ∧ (tk_t b n i = 12 → S' 45 22 = nI (tk_v b n i)) ∧ (tk_t b n i < 3 → S' 45 22 = nI (tk_t b n i)) ∧ (6 ≤ tk_t b n i ∧ tk_t b n i < 12 → S' 45 22 = nI (tk_t b n i - 6)) := by
  have hn := hb.1
  rw [f_X6_next]
  generalize hk : (fun S5 : it_SS => (_ : Option (Unit × it_SS))) = kont
  obtain ⟨S1, a1, a2, a3, a4⟩ := e_sk_m (κ := κ) (b := b) (n := n) (kont := kont) n i it_FU S (by omega) hi (by show n < 100000; omega) hb h1 h2
  rw [a1, ← hk]
  have hp := p_le (b := b) hi
  have hpg := p_ge (b := b) (n := n) i
  change S1 45 19 = nI (tk_p b n i) at a4
  obtain ⟨P, hP⟩ : ∃ P, P = tk_p b n i := ⟨_, rfl⟩
  rw [tk_e, tk_t, tk_v, ← hP]
  rw [← hP] at a4 hp hpg
  obtain ⟨S2, hS2⟩ : ∃ S2, S2 = it_up (it_up (it_up S1 45 20 (nI P)) 45 21 0) 45 22 0 := ⟨_, rfl⟩
  have f0 : ∀ c, c ≠ 45 → S2 c = S c := fun c hc => by rw [hS2, it_up_ne hc, it_up_ne hc, it_up_ne hc, a2 c hc]
  have f1 : ∀ j, j ≠ 19 → j ≠ 20 → j ≠ 21 → j ≠ 22 → S2 45 j = S 45 j := fun j j0 j1 j2 j3 => by rw [hS2, it_up_eq, upd, if_neg j3, it_up_eq, upd, if_neg j2, it_up_eq, upd, if_neg j1, a3 j j0]
  have f2 : S2 45 19 = nI P := by rw [hS2, it_up_eq, upd, if_neg (by decide), it_up_eq, upd, if_neg (by decide), it_up_eq, upd, if_neg (by decide)]; exact a4
  have f5 : S2 45 20 = nI P := by rw [hS2, it_up_eq, upd, if_neg (by decide), it_up_eq, upd, if_neg (by decide), it_up_eq, upd, if_pos rfl]
  have f6 : S2 45 21 = 0 := by rw [hS2, it_up_eq, upd, if_neg (by decide), it_up_eq, upd, if_pos rfl]
  have f7 : S2 45 22 = 0 := by rw [hS2, it_up_eq, upd, if_pos rfl]
  have f3 : S2 45 7 = nI n := by rw [f1 7 (by decide) (by decide) (by decide) (by decide)]; exact h1
  have fb : byts b n (S2 50) := by rw [f0 50 (by decide)]; exact hb
  have fw : wT S2 := fun j hj => by rw [f0 59 (by decide)]; exact hw j hj
  simp only []
  rw [a4, ← hS2, f2, f3]
  by_cases q0 : n ≤ P
  · obtain rfl : P = n := by omega
    rw [if_pos rfl, if_pos (Nat.le_refl _), if_pos (Nat.le_refl _)]
    exact ⟨S2, rfl, f0, f1, f2, f6, f5, fun c => absurd c (by decide), fun c => absurd c (by decide), fun c => absurd c.2 (by decide)⟩
  · have hbi := fb.2 P (by omega)
    rw [if_neg (fun c => q0 (by have := (nE (by omega) (by omega)).mp c; omega)), if_neg q0, if_neg q0, if_pos (bd_nI (show P < 160 by omega) (by decide)), nI_clamp (by omega), hbi.1, e_inl hbi.2, it_bi_some]
    by_cases q1 : 97 ≤ b P ∧ b P ≤ 122
    · rw [if_pos q1, if_neg (by decide), if_pos q1, if_pos q1]
      generalize hk2 : (fun S37 : it_SS => (_ : Option (Unit × it_SS))) = kont2
      obtain ⟨S3, c1, c2, c3, c4⟩ := e_lt_m (κ := κ) (b := b) (n := n) (kont := kont2) n P it_FU S2 (by omega) hp (by show n < 100000; omega) fb f3 f2
      have hg := rn_ge (b := b) (n := n) (lo := 97) (hi := 122) n P
      have hl := rn_le (b := b) (n := n) (lo := 97) (hi := 122) n P hp
      have g5 : S3 45 20 = nI P := by rw [c3 20 (by decide)]; exact f5
      have ew := e_wordFrom (κ := κ) (S := S3) hg hl (by rw [c2 50 (by decide)]; exact fb) (fun j hj => by rw [c2 59 (by decide)]; exact fw j hj) (fun j h1 h2 => rn_in n P j h1 h2)
      rw [c1, ← hk2]
      simp only []
      rw [g5, c4, ew, it_bi_some]
      have hcs := w_of b P (tk_rn b n 97 122 n P)
      generalize tk_w b P (tk_rn b n 97 122 n P) = t at hcs
      have fin : ∀ u v : Int32, (∀ c, c ≠ 45 → it_up (it_up S3 45 21 u) 45 22 v c = S c) ∧ (∀ j, j ≠ 19 → j ≠ 20 → j ≠ 21 → j ≠ 22 → it_up (it_up S3 45 21 u) 45 22 v 45 j = S 45 j) ∧ it_up (it_up S3 45 21 u) 45 22 v 45 19 = nI (tk_rn b n 97 122 n P) ∧ it_up (it_up S3 45 21 u) 45 22 v 45 21 = u ∧ it_up (it_up S3 45 21 u) 45 22 v 45 20 = nI P ∧ it_up (it_up S3 45 21 u) 45 22 v 45 22 = v := fun u v =>
        ⟨fun c hc => by rw [it_up_ne hc, it_up_ne hc, c2 c hc, f0 c hc], fun j j0 j1 j2 j3 => by rw [it_up_eq, upd, if_neg j3, it_up_eq, upd, if_neg j2, c3 j j0, f1 j j0 j1 j2 j3], by rw [it_up_eq, upd, if_neg (by decide), it_up_eq, upd, if_neg (by decide)]; exact c4, by rw [it_up_eq, upd, if_neg (by decide), it_up_eq, upd, if_pos rfl], by rw [it_up_eq, upd, if_neg (by decide), it_up_eq, upd, if_neg (by decide)]; exact g5, by rw [it_up_eq, upd, if_pos rfl]⟩
      have step : ∃ u v : Int32, (if 3 ≤ nI (wix t) then (if 9 ≤ nI (wix t) then (if nI (wix t) = 12 then (if 3 ≤ nI (wix t) then some ((), it_up (it_up S3 45 21 (-1)) 45 22 (nI (wix t) - 3)) else some ((), it_up (it_up S3 45 21 (-1)) 45 22 (nI (wix t)))) else (if 3 ≤ nI (wix t) then some ((), it_up (it_up S3 45 21 (4 + nI (wix t) - 9)) 45 22 (nI (wix t) - 3)) else some ((), it_up (it_up S3 45 21 (4 + nI (wix t) - 9)) 45 22 (nI (wix t))))) else (if 3 ≤ nI (wix t) then some ((), it_up (it_up S3 45 21 2) 45 22 (nI (wix t) - 3)) else some ((), it_up (it_up S3 45 21 2) 45 22 (nI (wix t))))) else (if 3 ≤ nI (wix t) then some ((), it_up (it_up S3 45 21 3) 45 22 (nI (wix t) - 3)) else some ((), it_up (it_up S3 45 21 3) 45 22 (nI (wix t))))) = some ((), it_up (it_up S3 45 21 u) 45 22 v) ∧ (u, v) = (if 3 ≤ nI (wix t) then (if 9 ≤ nI (wix t) then (if nI (wix t) = 12 then ((-1 : Int32), nI (wix t) - 3) else (4 + nI (wix t) - 9, nI (wix t) - 3)) else (2, nI (wix t) - 3)) else (3, nI (wix t))) := by
        by_cases g1 : 3 ≤ nI (wix t)
        · by_cases g2 : 9 ≤ nI (wix t)
          · by_cases g3 : nI (wix t) = 12
            · exact ⟨_, _, by rw [if_pos g1, if_pos g2, if_pos g3, if_pos g1], by rw [if_pos g1, if_pos g2, if_pos g3]⟩
            · exact ⟨_, _, by rw [if_pos g1, if_pos g2, if_neg g3, if_pos g1], by rw [if_pos g1, if_pos g2, if_neg g3]⟩
          · exact ⟨_, _, by rw [if_pos g1, if_neg g2, if_pos g1], by rw [if_pos g1, if_neg g2]⟩
        · exact ⟨_, _, by rw [if_neg g1, if_neg g1], by rw [if_neg g1]⟩
      obtain ⟨u, v, s1, s2⟩ := step
      have := fin u v
      rcases hcs with ⟨g1, -⟩ | ⟨g1, -⟩
      · rw [rt_w t g1] at s2
        have su : u = rt t := congrArg Prod.fst s2
        have sv : v = if t < 3 then nI t else if t < 6 then nI (t + 3) else nI (t - 6) := congrArg Prod.snd s2
        refine ⟨_, s1, this.1, this.2.1, this.2.2.1, by rw [this.2.2.2.1, su], this.2.2.2.2.1, fun c => absurd c (by omega), fun c => by rw [this.2.2.2.2.2, sv, if_pos c], fun c => by rw [this.2.2.2.2.2, sv, if_neg (by omega), if_neg (by omega)]⟩
      · subst g1
        have su : u = -1 := congrArg Prod.fst s2
        exact ⟨_, s1, this.1, this.2.1, this.2.2.1, by rw [this.2.2.2.1, su]; rfl, this.2.2.2.2.1, fun c => absurd c (by decide), fun c => absurd c (by decide), fun c => absurd c.2 (by decide)⟩
    · rw [if_neg q1, if_pos rfl, if_neg q1, if_neg q1, e_ind hbi.2, it_bi_some]
      by_cases q2 : 48 ≤ b P ∧ b P ≤ 57
      · rw [if_pos q2, if_neg (by decide), if_pos q2, if_pos q2]
        obtain ⟨S3, c1, c2, c3, c4, c5⟩ := e_dg_m (κ := κ) (b := b) (n := n) (kont := fun v29 S30 => if v29 ≤ 4 then some ((), it_up S30 45 21 1) else some ((), it_up S30 45 21 (-1))) n P 0 0 it_FU S2 (by omega) hp (by show n < 100000; omega) (Nat.zero_le _) fb f3 f2 (fun _ => f7)
        have hg := rn_ge (b := b) (n := n) (lo := 48) (hi := 57) n P
        have hl := rn_le (b := b) (n := n) (lo := 48) (hi := 57) n P hp
        rw [show lp_X6_next_230 κ _ it_FU 0 S2 = _ from c1, Nat.zero_add]
        rw [Nat.zero_add] at c5
        have fin : ∀ v : Int32, (∀ c, c ≠ 45 → it_up S3 45 21 v c = S c) ∧ (∀ j, j ≠ 19 → j ≠ 20 → j ≠ 21 → j ≠ 22 → it_up S3 45 21 v 45 j = S 45 j) ∧ it_up S3 45 21 v 45 19 = nI (tk_rn b n 48 57 n P) ∧ it_up S3 45 21 v 45 21 = v ∧ it_up S3 45 21 v 45 20 = nI P ∧ (tk_rn b n 48 57 n P - P ≤ 4 → it_up S3 45 21 v 45 22 = nI (tk_vl b n n P 0)) := fun v =>
          ⟨fun c hc => by rw [it_up_ne hc, c2 c hc, f0 c hc], fun j j0 j1 j2 j3 => by rw [it_up_eq, upd, if_neg j2, c3 j j0 j3, f1 j j0 j1 j2 j3], by rw [it_up_eq, upd, if_neg (by decide)]; exact c4, by rw [it_up_eq, upd, if_pos rfl], by rw [it_up_eq, upd, if_neg (by decide), c3 20 (by decide) (by decide)]; exact f5, fun q => by rw [it_up_eq, upd, if_neg (by decide)]; exact c5 q⟩
        by_cases q3 : tk_rn b n 48 57 n P - P ≤ 4
        · rw [if_pos (show nI (tk_rn b n 48 57 n P - P) ≤ 4 from nI_le q3 (by decide)), if_pos q3]
          have := fin 1
          exact ⟨_, rfl, this.1, this.2.1, this.2.2.1, by rw [this.2.2.2.1]; rfl, this.2.2.2.2.1, fun _ => this.2.2.2.2.2 q3, fun c => absurd c (by decide), fun c => absurd c.2 (by decide)⟩
        · rw [if_neg (show ¬ nI (tk_rn b n 48 57 n P - P) ≤ 4 from nI_ge (a := 4) (by omega) (by omega)), if_neg q3]
          have := fin (-1)
          exact ⟨_, rfl, this.1, this.2.1, this.2.2.1, by rw [this.2.2.2.1]; rfl, this.2.2.2.2.1, fun c => absurd c (by decide), fun c => absurd c (by decide), fun c => absurd c.2 (by decide)⟩
      · rw [if_neg q2, if_pos rfl, if_neg q2, if_neg q2]
        have fin : ∀ v : Int32, (∀ c, c ≠ 45 → it_up (it_up S2 45 21 v) 45 19 (nI (P + 1)) c = S c) ∧ (∀ j, j ≠ 19 → j ≠ 20 → j ≠ 21 → j ≠ 22 → it_up (it_up S2 45 21 v) 45 19 (nI (P + 1)) 45 j = S 45 j) ∧ it_up (it_up S2 45 21 v) 45 19 (nI (P + 1)) 45 19 = nI (P + 1) ∧ it_up (it_up S2 45 21 v) 45 19 (nI (P + 1)) 45 21 = v ∧ it_up (it_up S2 45 21 v) 45 19 (nI (P + 1)) 45 20 = nI P := fun v =>
          ⟨fun c hc => by rw [it_up_ne hc, it_up_ne hc, f0 c hc], fun j j0 j1 j2 j3 => by rw [it_up_eq, upd, if_neg j0, it_up_eq, upd, if_neg j2, f1 j j0 j1 j2 j3], by rw [it_up_eq, upd, if_pos rfl], by rw [it_up_eq, upd, if_neg (by decide), it_up_eq, upd, if_pos rfl], by rw [it_up_eq, upd, if_neg (by decide), it_up_eq, upd, if_neg (by decide)]; exact f5⟩
        have e2 : ∀ v : Int32, it_up S2 45 21 v 45 19 + 1 = nI (P + 1) := fun v => by rw [it_up_eq, upd, if_neg (by decide), f2, nI_1]
        rw [e2, e2]
        by_cases q3 : sgn (b P) = true
        · rw [if_pos q3]
          have hs : b P = 40 ∨ b P = 41 ∨ b P = 59 ∨ b P = 43 ∨ b P = 45 ∨ b P = 42 ∨ b P = 60 ∨ b P = 61 := by
            simp only [sgn, Bool.or_eq_true, beq_iff_eq] at q3
            omega
          have := fin (nI (b P))
          refine ⟨it_up (it_up S2 45 21 (nI (b P))) 45 19 (nI (P + 1)), ?_, this.1, this.2.1, this.2.2.1, ?_, this.2.2.2.2, fun c => absurd c (by omega), fun c => absurd c (by omega), fun c => absurd c.2 (by omega)⟩
          · rcases hs with h | h | h | h | h | h | h | h <;> rw [h] <;> rfl
          · rw [this.2.2.2.1]
            rcases hs with h | h | h | h | h | h | h | h <;> rw [h] <;> rfl
        · rw [if_neg q3]
          have hs : b P ≠ 40 ∧ b P ≠ 41 ∧ b P ≠ 59 ∧ b P ≠ 43 ∧ b P ≠ 45 ∧ b P ≠ 42 ∧ b P ≠ 60 ∧ b P ≠ 61 := by
            simp only [sgn, Bool.or_eq_true, beq_iff_eq] at q3
            omega
          have ne : ∀ m, m < 256 → b P ≠ m → ¬ nI (b P) = nI m := fun m hm h c => h ((nE (by omega) (by omega)).mp c)
          have := fin (-1)
          refine ⟨it_up (it_up S2 45 21 (-1)) 45 19 (nI (P + 1)), ?_, this.1, this.2.1, this.2.2.1, by rw [this.2.2.2.1]; rfl, this.2.2.2.2, fun c => absurd c (by decide), fun c => absurd c (by decide), fun c => absurd c.2 (by decide)⟩
          rw [if_neg (show ¬ nI (b P) = 40 from ne 40 (by decide) hs.1), if_neg (show ¬ nI (b P) = 41 from ne 41 (by decide) hs.2.1), if_neg (show ¬ nI (b P) = 59 from ne 59 (by decide) hs.2.2.1), if_neg (show ¬ nI (b P) = 43 from ne 43 (by decide) hs.2.2.2.1), if_neg (show ¬ nI (b P) = 45 from ne 45 (by decide) hs.2.2.2.2.1), if_neg (show ¬ nI (b P) = 42 from ne 42 (by decide) hs.2.2.2.2.2.1), if_neg (show ¬ nI (b P) = 60 from ne 60 (by decide) hs.2.2.2.2.2.2.1), if_neg (show ¬ nI (b P) = 61 from ne 61 (by decide) hs.2.2.2.2.2.2.2)]
end TOKENSM
