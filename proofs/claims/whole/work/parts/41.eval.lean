theorem nI_lit (n : Nat) : (OfNat.ofNat n : Int32) = nI n := rfl
theorem e_isName (κ : it_KK) {m : Nat} (h : m < 2 ^ 31) (S : it_SS) : f_X3_isName κ (nI m) S = some (if 6 ≤ m ∧ m < 12 then 1 else 0, S) := by
  unfold f_X3_isName
  by_cases h1 : m < 6
  · rw [if_pos (show nI m < 6 from nI_lt h1 (by decide)), if_neg (by omega)]
  · rw [if_neg (show ¬ nI m < 6 from nI_nlt (b := 6) (by omega) h)]
    by_cases h2 : 12 ≤ m
    · rw [if_pos (show 12 ≤ nI m from nI_le h2 h), if_neg (by omega)]
    · rw [if_neg (show ¬ 12 ≤ nI m from nI_ge (b := 12) (by omega) (by decide)), if_pos (by omega)]
theorem e_isTurn (κ : it_KK) {m : Nat} (h : m < 2 ^ 31) (S : it_SS) : f_X3_isTurn κ (nI m) S = some (if m = 5 ∨ m = 15 then 1 else 0, S) := by
  unfold f_X3_isTurn
  by_cases h1 : m = 5
  · subst h1
    rw [if_pos (show nI 5 = 5 from rfl), if_pos (Or.inl rfl)]
  · rw [if_neg (show ¬ nI m = 5 from fun q => h1 ((nI_eq h (by decide)).mp (show nI m = nI 5 from q)))]
    by_cases h2 : m = 15
    · subst h2
      rw [if_pos (show nI 15 = 15 from rfl), if_pos (Or.inr rfl)]
    · rw [if_neg (show ¬ nI m = 15 from fun q => h2 ((nI_eq h (by decide)).mp (show nI m = nI 15 from q))), if_neg (by omega)]
theorem e_turned (κ : it_KK) {c : Nat} (hc : sp_trn c) (a : Int32) (S : it_SS) : f_X1_turned κ (nI (c - 10000)) a S = some (sp_turn c a, S) := by
  rcases hc with rfl | rfl
  · unfold f_X1_turned sp_turn
    rw [if_pos (show nI (10005 - 10000) = 5 from rfl), if_pos rfl]
    split <;> rfl
  · unfold f_X1_turned sp_turn
    rw [if_neg (show ¬ nI (10015 - 10000) = 5 by decide), if_neg (by decide)]
theorem e_joined (κ : it_KK) {c : Nat} (hc : sp_joi c) (a b : Int32) (S : it_SS) : f_X1_joined κ a (nI (c - 10000)) b S = some (sp_join c a b, S) := by
  rcases hc with rfl | rfl | rfl | rfl | rfl | rfl | rfl
  · rw [f_X1_joined, if_pos (show nI (10003 - 10000) = 3 from rfl), sp_join, if_pos rfl]
    by_cases h1 : a = 0 <;> by_cases h2 : b = 0 <;> simp [h1, h2]
  · rw [f_X1_joined, if_neg (show ¬ nI (10004 - 10000) = 3 by decide), if_pos (show nI (10004 - 10000) = 4 from rfl), sp_join, if_neg (show ¬ (10004 : Nat) = 10003 by decide), if_pos (show (10004 : Nat) = 10004 from rfl)]
    by_cases h1 : a = 0 <;> by_cases h2 : b = 0 <;> simp [h1, h2]
  · rw [f_X1_joined, if_neg (show ¬ nI (10042 - 10000) = 3 by decide), if_neg (show ¬ nI (10042 - 10000) = 4 by decide), if_neg (show ¬ nI (10042 - 10000) = 43 by decide), if_neg (show ¬ nI (10042 - 10000) = 45 by decide), if_neg (show ¬ nI (10042 - 10000) = 60 by decide), if_neg (show ¬ nI (10042 - 10000) = 61 by decide)]
    rfl
  · rw [f_X1_joined, if_neg (show ¬ nI (10043 - 10000) = 3 by decide), if_neg (show ¬ nI (10043 - 10000) = 4 by decide), if_pos (show nI (10043 - 10000) = 43 from rfl)]
    rfl
  · rw [f_X1_joined, if_neg (show ¬ nI (10045 - 10000) = 3 by decide), if_neg (show ¬ nI (10045 - 10000) = 4 by decide), if_neg (show ¬ nI (10045 - 10000) = 43 by decide), if_pos (show nI (10045 - 10000) = 45 from rfl)]
    rfl
  · rw [f_X1_joined, if_neg (show ¬ nI (10060 - 10000) = 3 by decide), if_neg (show ¬ nI (10060 - 10000) = 4 by decide), if_neg (show ¬ nI (10060 - 10000) = 43 by decide), if_neg (show ¬ nI (10060 - 10000) = 45 by decide), if_pos (show nI (10060 - 10000) = 60 from rfl)]
    show _ = some ((if b ≤ a then 0 else 1), S)
    split <;> rfl
  · rw [f_X1_joined, if_neg (show ¬ nI (10061 - 10000) = 3 by decide), if_neg (show ¬ nI (10061 - 10000) = 4 by decide), if_neg (show ¬ nI (10061 - 10000) = 43 by decide), if_neg (show ¬ nI (10061 - 10000) = 45 by decide), if_neg (show ¬ nI (10061 - 10000) = 60 by decide), if_pos (show nI (10061 - 10000) = 61 from rfl)]
    show _ = some ((if a = b then 1 else 0), S)
    split <;> rfl
theorem nI_m1 {h : Nat} (h0 : 1 ≤ h) : nI h + (-1) = nI (h - 1) := by
  obtain ⟨k, rfl⟩ : ∃ k, h = k + 1 := ⟨h - 1, by omega⟩
  exact pk_m1 k
theorem nI_s1 {h : Nat} (h0 : 1 ≤ h) : nI h - 1 = nI (h - 1) := by
  obtain ⟨k, rfl⟩ : ∃ k, h = k + 1 := ⟨h - 1, by omega⟩
  exact nI_pred k
/-- the class's reckoning -/
theorem e_reckon_loop {κ : it_KK} {x1 x2 : Int32} {k : it_SS → Option (Int32 × it_SS)} {t N : Nat} (hx : x1.toNatClampNeg = t) (hN : (κ.2.1 (it_el 1 t + 1)).2 = N) (hN2 : N ≤ 160) (ht4 : it_el 1 t + 1 ≠ 4) (nm : Nat → Int32) :
    ∀ (r : List Nat) (n i : Nat) (st : List Int32) (S : it_SS), r.length < n → i + r.length ≤ N → st.length ≤ 31 → sp_wf st.length r → (∀ j, j < r.length → S (it_el 1 t + 1) (i + j) = nI (r.getD j 0)) → sp_pile (S 4) st → (∀ q, q < 6 → S 3 q = nm q) →
      ∃ S', lp_X1_reckon_87 κ x1 x2 k n (nI (i + r.length)) (nI st.length) (nI i) S = k S' ∧ (∀ b, b ≠ 4 → S' b = S b) ∧ sp_pile (S' 4) (sp_run nm st r) := by
  intro r
  induction r with
  | nil =>
    intro n i st S hn hi h31 hw hc hp hnm
    obtain ⟨n, rfl⟩ : ∃ m, n = m + 1 := ⟨n - 1, by simp at hn; omega⟩
    refine ⟨S, ?_, fun _ _ => rfl, hp⟩
    rw [lp_X1_reckon_87, if_pos (show nI (i + ([] : List Nat).length) ≤ nI i from Int32.le_refl _)]
  | cons c r ih =>
    intro n i st S hn hi h31 hw hc hp hnm
    simp only [List.length_cons] at hn hi hc
    obtain ⟨n, rfl⟩ : ∃ m, n = m + 1 := ⟨n - 1, by omega⟩
    have hlen : i + (c :: r).length = (i + 1) + r.length := by simp only [List.length_cons]; omega
    have h0 : S (it_el 1 t + 1) i = nI c := by
      have := hc 0 (by omega)
      simpa using this
    have hc' : ∀ S1 : it_SS, (∀ b, b ≠ 4 → S1 b = S b) → ∀ j, j < r.length → S1 (it_el 1 t + 1) (i + 1 + j) = nI (r.getD j 0) := fun S1 h1 j hj => by
      rw [h1 _ ht4]
      have := hc (j + 1) (by omega)
      rw [show i + 1 + j = i + (j + 1) by omega, this, List.getD_cons_succ]
    have hi31 : i < 2 ^ 31 := by omega
    have hix : (nI i).toNatClampNeg = i := nI_clamp hi31
    have hhx : (nI st.length).toNatClampNeg = st.length := nI_clamp (by omega)
    rw [lp_X1_reckon_87, hlen, if_neg (show ¬ nI (i + 1 + r.length) ≤ nI i from nI_ge (by omega) (by omega)), if_neg (show ¬ 40 ≤ nI st.length from nI_ge (b := 40) (by omega) (by decide)), hx, hN, if_pos (bd_nI (show i < N by omega) (by omega)), hix, h0]
    rcases hw with ⟨hcl, hh, hw⟩ | ⟨hcl, hh, hw⟩ | ⟨hcl, hh, hw⟩
    · rcases hcl with hcl | hcl
      · have hneg : ¬ 0 ≤ nI c - 10000 := Int32.not_le.mpr (pk_sneg (b := 10000) (by decide) hcl)
        rw [if_neg hneg, if_pos (bd_nI (show st.length < 40 by omega) (by decide)), hhx, nI_1, nI_1]
        have hp1 := sp_pile_push (nI c) hp
        obtain ⟨S', e1, e2, e3⟩ := ih n (i + 1) (nI c :: st) (it_up S 4 st.length (nI c)) (by omega) (by omega) (by simp only [List.length_cons]; omega) hw (hc' _ (fun b hb => it_up_ne hb)) (by rw [it_up_eq]; exact hp1) (fun q hq => by rw [it_up_ne (by decide)]; exact hnm q hq)
        refine ⟨S', e1, fun b hb => (e2 b hb).trans (it_up_ne hb), ?_⟩
        rw [show sp_run nm st (c :: r) = sp_run nm (sp_one nm st c) r from rfl, show sp_one nm st c = nI c :: st from if_pos hcl]
        exact e3
      · have hsub : nI c - 10000 = nI (c - 10000) := pk_sub (b := 10000) (by have := hcl.1; omega)
        have hcl1 := hcl.1
        have hcl2 := hcl.2
        rw [hsub, if_pos (nI_pos' (by omega)), e_isName κ (by omega), it_bi_some, if_pos (show 6 ≤ c - 10000 ∧ c - 10000 < 12 by omega), if_neg (show ¬ (1 : Int32) = 0 by decide), show nI (c - 10000) - 6 = nI (c - 10006) from (pk_sub (b := 6) (by omega)).trans (congrArg nI (by omega)), if_pos (bd_nI (show c - 10006 < 6 by omega) (by decide)), if_pos (bd_nI (show st.length < 40 by omega) (by decide)), hhx, nI_clamp (show c - 10006 < 2 ^ 31 by omega), hnm _ (show c - 10006 < 6 by omega), nI_1, nI_1]
        have hp1 := sp_pile_push (nm (c - 10006)) hp
        obtain ⟨S', e1, e2, e3⟩ := ih n (i + 1) (nm (c - 10006) :: st) (it_up S 4 st.length (nm (c - 10006))) (by omega) (by omega) (by simp only [List.length_cons]; omega) hw (hc' _ (fun b hb => it_up_ne hb)) (by rw [it_up_eq]; exact hp1) (fun q hq => by rw [it_up_ne (by decide)]; exact hnm q hq)
        refine ⟨S', e1, fun b hb => (e2 b hb).trans (it_up_ne hb), ?_⟩
        rw [show sp_run nm st (c :: r) = sp_run nm (sp_one nm st c) r from rfl, show sp_one nm st c = nm (c - 10006) :: st from (if_neg (by omega)).trans (if_pos hcl)]
        exact e3
    · obtain ⟨a, st', rfl⟩ : ∃ a st', st = a :: st' := by
        cases st with
        | nil => simp at hh
        | cons a st' => exact ⟨a, st', rfl⟩
      have hc5 : c = 10005 ∨ c = 10015 := hcl
      have hsub : nI c - 10000 = nI (c - 10000) := pk_sub (b := 10000) (by omega)
      have htop := sp_pile_top hp
      have hs1 : nI (a :: st').length - 1 = nI st'.length := by rw [List.length_cons]; exact nI_pred _
      have hst' : st'.length < 40 := by simp only [List.length_cons] at h31; omega
      rw [hsub, if_pos (nI_pos' (by omega)), e_isName κ (by omega), it_bi_some, if_neg (show ¬ (6 ≤ c - 10000 ∧ c - 10000 < 12) by omega), if_pos rfl, e_isTurn κ (by omega), it_bi_some, if_pos (show c - 10000 = 5 ∨ c - 10000 = 15 by omega), if_neg (show ¬ (1 : Int32) = 0 by decide), if_neg (show ¬ nI (a :: st').length < 1 from nI_nlt (b := 1) hh (by omega)), hs1, if_pos (bd_nI hst' (by decide)), nI_clamp (show st'.length < 2 ^ 31 by omega), htop.1, e_turned κ hcl, it_bi_some, nI_1]
      have hp1 := sp_pile_push (sp_turn c a) htop.2
      obtain ⟨S', e1, e2, e3⟩ := ih n (i + 1) (sp_turn c a :: st') (it_up S 4 st'.length (sp_turn c a)) (by omega) (by omega) (by simpa using h31) (by simpa using hw) (hc' _ (fun b hb => it_up_ne hb)) (by rw [it_up_eq]; exact hp1) (fun q hq => by rw [it_up_ne (by decide)]; exact hnm q hq)
      refine ⟨S', by simpa using e1, fun b hb => (e2 b hb).trans (it_up_ne hb), ?_⟩
      rw [show sp_run nm (a :: st') (c :: r) = sp_run nm (sp_one nm (a :: st') c) r from rfl, show sp_one nm (a :: st') c = sp_turn c a :: st' from (if_neg (by omega)).trans ((if_neg (by omega)).trans (if_pos hcl))]
      exact e3
    · obtain ⟨b, a, st', rfl⟩ : ∃ b a st', st = b :: a :: st' := by
        match st, hh with
        | b :: a :: st', _ => exact ⟨b, a, st', rfl⟩
      have hc5 : c = 10003 ∨ c = 10004 ∨ c = 10042 ∨ c = 10043 ∨ c = 10045 ∨ c = 10060 ∨ c = 10061 := hcl
      have hsub : nI c - 10000 = nI (c - 10000) := pk_sub (b := 10000) (by omega)
      have htop := sp_pile_top hp
      have htop2 := sp_pile_top htop.2
      have hl : (b :: a :: st').length = st'.length + 1 + 1 := rfl
      have hs1 : nI (b :: a :: st').length + (-1) = nI (st'.length + 1) := by rw [hl]; exact pk_m1 _
      have hs2 : nI (st'.length + 1) - 1 = nI st'.length := nI_pred _
      have hst' : st'.length + 1 < 40 := by simp only [List.length_cons] at h31; omega
      have ht1 : S 4 (st'.length + 1) = b := htop.1
      rw [hsub, if_pos (nI_pos' (by omega)), e_isName κ (by omega), it_bi_some, if_neg (show ¬ (6 ≤ c - 10000 ∧ c - 10000 < 12) by omega), if_pos rfl, e_isTurn κ (by omega), it_bi_some, if_neg (show ¬ (c - 10000 = 5 ∨ c - 10000 = 15) by omega), if_pos rfl, if_neg (show ¬ nI (b :: a :: st').length < 2 from nI_nlt (b := 2) hh (by omega)), hs1, hs2, if_pos (bd_nI (show st'.length < 40 by omega) (by decide)), if_pos (bd_nI hst' (by decide)), nI_clamp (show st'.length < 2 ^ 31 by omega), nI_clamp (show st'.length + 1 < 2 ^ 31 by omega), htop2.1, ht1, e_joined κ hcl, it_bi_some, nI_1]
      have hp1 := sp_pile_push (sp_join c a b) htop2.2
      obtain ⟨S', e1, e2, e3⟩ := ih n (i + 1) (sp_join c a b :: st') (it_up S 4 st'.length (sp_join c a b)) (by omega) (by omega) (by simp only [List.length_cons] at h31 ⊢; omega) (by simpa using hw) (hc' _ (fun b hb => it_up_ne hb)) (by rw [it_up_eq]; exact hp1) (fun q hq => by rw [it_up_ne (by decide)]; exact hnm q hq)
      refine ⟨S', by simpa using e1, fun b hb => (e2 b hb).trans (it_up_ne hb), ?_⟩
      rw [show sp_run nm (b :: a :: st') (c :: r) = sp_run nm (sp_one nm (b :: a :: st') c) r from rfl, show sp_one nm (b :: a :: st') c = sp_join c a b :: st' from (if_neg (by omega)).trans ((if_neg (by omega)).trans (if_neg (by omega)))]
      exact e3
