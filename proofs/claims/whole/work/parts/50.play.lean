/-! what is thought of, what is played -/
def PX (κ : it_KK) (tb : Nat → Nat → List Nat) (T : Nat) (S0 S B : it_SS) : Prop := hX S 17 B ∧ tX κ S tb T ∧ ∀ b, b ≠ 3 → b ≠ 4 → (b < 17 ∨ 24 < b) → S b = S0 b
def fK (S0 S : it_SS) : Prop := (∀ b, (b < 45 ∨ (49 < b ∧ b < 61) ∨ 63 < b) → S b = S0 b) ∧ ∀ j, (j = 7 ∨ j = 10 ∨ j = 12 ∨ j = 31) → S 45 j = S0 45 j
def QM (tb : Nat → Nat → List Nat) (T : Nat) (S0 S B : it_SS) (G : Nat) : Prop := hM S B G ∧ tM S tb T ∧ fK S0 S
def PM (tb : Nat → Nat → List Nat) (T : Nat) (S0 S A B : it_SS) (G : Nat) : Prop := kM S A ∧ QM tb T S0 S B G
/-- what days leave -/
def sm (A B : it_SS) : Prop := B 1 = A 1 ∧ B 2 = A 2 ∧ B 3 = A 3 ∧ B 10 = A 10
theorem sm.refl (A : it_SS) : sm A A := ⟨rfl, rfl, rfl, rfl⟩
theorem sm.trans {A B C : it_SS} (h : sm A B) (h1 : sm B C) : sm A C := ⟨h1.1.trans h.1, h1.2.1.trans h.2.1, h1.2.2.1.trans h.2.2.1, h1.2.2.2.trans h.2.2.2⟩
theorem sm.day {tb : Nat → Nat → List Nat} {G : Nat} {A B : it_SS} (h : sm A B) : sm A (sp_day tb G B) := h.trans ⟨day_ne (by decide) (by decide) (by decide) (by decide) (by decide), day_ne (by decide) (by decide) (by decide) (by decide) (by decide), day_ne (by decide) (by decide) (by decide) (by decide) (by decide), day_ne (by decide) (by decide) (by decide) (by decide) (by decide)⟩
theorem sm.days {tb : Nat → Nat → List Nat} {G m : Nat} {A B : it_SS} (h : sm A B) : sm A (sp_days tb G m B) := h.trans ⟨days_ne (by decide) (by decide) (by decide) (by decide) (by decide) m B, days_ne (by decide) (by decide) (by decide) (by decide) (by decide) m B, days_ne (by decide) (by decide) (by decide) (by decide) (by decide) m B, days_ne (by decide) (by decide) (by decide) (by decide) (by decide) m B⟩
theorem lw_of {tb : Nat → Nat → List Nat} {T G : Nat} {B : it_SS} (ht : sp_tb tb T) (hr : hR B G T) : sp_lw tb T B := ⟨ht, hr.2.2.2.1⟩
theorem fK.refl (S : it_SS) : fK S S := ⟨fun _ _ => rfl, fun _ _ => rfl⟩
theorem fK.trans {S S1 S2 : it_SS} (h : fK S S1) (h1 : fK S1 S2) : fK S S2 := ⟨fun b hb => (h1.1 b hb).trans (h.1 b hb), fun j hj => (h1.2 j hj).trans (h.2 j hj)⟩
theorem fK.fd {S S1 : it_SS} (h : fD S S1) : fK S S1 := ⟨fun b hb => h.1 b (by omega) (by omega) (by omega) (by omega) (by omega), fun j hj => h.2 j (by omega)⟩
theorem fK.up {S : it_SS} {a j : Nat} {v : Int32} (h : (46 ≤ a ∧ a ≤ 49) ∨ (61 ≤ a ∧ a ≤ 63)) : fK S (it_up S a j v) := ⟨fun b hb => it_up_ne (by omega), fun j hj => by rw [it_up_ne (by omega)]⟩
theorem fK.up45 {S : it_SS} {j : Nat} {v : Int32} (h : j ≠ 7 ∧ j ≠ 10 ∧ j ≠ 12 ∧ j ≠ 31) : fK S (it_up S 45 j v) := ⟨fun b hb => it_up_ne (by omega), fun i hi => by rw [it_up_eq, upd, if_neg (by omega)]⟩
theorem tM.fk {S S' : it_SS} {tb : Nat → Nat → List Nat} {T : Nat} (h : tM S tb T) (hf : fK S S') : tM S' tb T := h.fr (hf.2 10 (by omega)) (hf.1 51 (by omega)) (hf.1 52 (by omega))
section PLAY
variable {κ : it_KK} {S S0 A B : it_SS} {G : Nat} {tb : Nat → Nat → List Nat} {T n : Nat} {by' : Nat → Int32} {ik : Int32} {AK : it_SS} {GK : Nat} {so sz : Nat → Int32} {ce : it_SS}
theorem PX.start (h : IX κ S A tb T n by' ik AK so sz ce) : ∃ S', f_X5_think κ S = some ((), S') ∧ PX κ tb T S S' A := by
  obtain ⟨S', e1, e2, e3⟩ := e_think (κ := κ) h.1
  exact ⟨S', e1, e2, h.2.1.fr (fun b hb => e3 b (by omega)), fun b _ _ hb => e3 b hb⟩
theorem PX.day (h : PX κ tb T S0 S B) (ht : sp_tb tb T) (hr : hR B G T) : ∃ S', f_X0_passDay κ 17 S = some (sp_off1 tb B, S') ∧ PX κ tb T S0 S' (sp_day tb G B) := by
  obtain ⟨S', e1, e2, e3⟩ := e_passDay (κ := κ) (u := 17) ⟨by decide, by decide⟩ h.1 h.2.1 (lw_of ht hr) hr
  exact ⟨S', e1, e2, h.2.1.frU ⟨by decide, by decide⟩ e3, fun b b3 b4 hb => (e3 b b3 b4 hb).trans (h.2.2 b b3 b4 hb)⟩
theorem PX.pass {m : Nat} (hm : m < 1000) (h : PX κ tb T S0 S B) (ht : sp_tb tb T) (hr : hR B G T) : ∃ S', f_days κ (nI m) S = some ((), S') ∧ PX κ tb T S0 S' (sp_days tb G m B) := by
  obtain ⟨S', e1, e2, e3⟩ := e_pass (κ := κ) hm h.1 h.2.1 (lw_of ht hr) hr
  exact ⟨S', e1, e2, h.2.1.frU ⟨by decide, by decide⟩ e3, fun b b3 b4 hb => (e3 b b3 b4 hb).trans (h.2.2 b b3 b4 hb)⟩
theorem PX.up {k j : Nat} {v : Int32} (h : PX κ tb T S0 S B) (h1 : 1 ≤ k) (h7 : k ≤ 7) : PX κ tb T S0 (it_up S (17 + k) j v) (it_up B (k + 1) j v) := ⟨h.1.up h1 h7, h.2.1.fr (fun b hb => it_up_ne (by omega)), fun b b3 b4 hb => by rw [it_up_ne (by omega)]; exact h.2.2 b b3 b4 hb⟩
theorem PX.fin (p : PX κ tb T S0 S B) (h : IX κ S0 A tb T n by' ik AK so sz ce) : IX κ S A tb T n by' ik AK so sz ce := h.thought (fun b b3 b4 hb _ => p.2.2 b b3 b4 hb)
theorem PX.gM (p : PX κ tb T S0 S B) : gM S0 S := fun b h1 h2 => p.2.2 b (by omega) (by omega) (by omega)
theorem gM.trans {S1 S2 S3 : it_SS} (h : gM S1 S2) (h1 : gM S2 S3) : gM S1 S3 := fun b a c => (h1 b a c).trans (h b a c)
theorem gX.trans {S1 S2 S3 : it_SS} (h : gX S1 S2) (h1 : gX S2 S3) : gX S1 S3 := fun b a => (h1 b a).trans (h b a)
theorem QM.start (h : IM S A G tb T n by' ik AK GK so sz ce) : QM tb T S S A G := ⟨h.1, h.2.1, fK.refl S⟩
theorem QM.fin {A0 : it_SS} {G0 : Nat} (q : QM tb T S0 S A G) (h : IM S0 A0 G0 tb T n by' ik AK GK so sz ce) : IM S A G tb T n by' ik AK GK so sz ce := h.mk' q.1 (fun j hj => q.2.2.2 j (by omega)) (fun b h1 h2 => q.2.2.1 b (by omega))
theorem QM.gX (q : QM tb T S0 S A G) : gX S0 S := fun b hb => q.2.2.1 b (by omega)
theorem QM.keeps (q : QM tb T S0 S A G) : ∃ S', f_X6_keeps κ S = some ((), S') ∧ PM tb T S0 S' A A G := by
  obtain ⟨S', e1, e2, e3⟩ := e_keeps (κ := κ) q.1
  have hf : fK S S' := ⟨fun b hb => e3 b (by omega), fun j _ => by rw [e3 45 (by decide)]⟩
  exact ⟨S', e1, e2, q.1.cg (fun j _ => by rw [e3 45 (by decide)]) (e3 46 (by decide)) (e3 47 (by decide)) (e3 48 (by decide)) (e3 49 (by decide)), q.2.1.fk hf, q.2.2.trans hf⟩
theorem kM.fd {S' : it_SS} (h : kM S A) (hf : fD S S') : kM S' A := by
  have e : S' 63 = S 63 := hf.1 63 (by decide) (by decide) (by decide) (by decide) (by decide)
  obtain ⟨a, b, c⟩ := h
  exact ⟨fun p hp => by rw [e]; exact a p hp, fun j hj => by rw [e]; exact b j hj, by rw [e]; exact c⟩
theorem PM.fd {S' B' : it_SS} (p : PM tb T S0 S A B G) (hf : fD S S') (hx : hM S' B' G) : PM tb T S0 S' A B' G := ⟨p.1.fd hf, hx, p.2.2.1.frD hf, p.2.2.2.trans (fK.fd hf)⟩
theorem PM.day (p : PM tb T S0 S A B G) (ht : sp_tb tb T) (hr : hR B G T) : ∃ S', f_X6_dayOf κ S = some (sp_off1 tb B, S') ∧ PM tb T S0 S' A (sp_day tb G B) G := by
  obtain ⟨S', e1, e2, e3⟩ := e_dayOf (κ := κ) p.2.1 p.2.2.1 (lw_of ht hr) hr
  exact ⟨S', e1, p.fd e3 e2⟩
theorem PM.goes {m : Nat} (hm : m < 1000) (p : PM tb T S0 S A B G) (ht : sp_tb tb T) (hr : hR B G T) : ∃ S', f_X6_goes κ (nI m) S = some ((), S') ∧ PM tb T S0 S' A (sp_days tb G m B) G := by
  obtain ⟨S', e1, e2, e3⟩ := e_goes (κ := κ) hm p.2.1 p.2.2.1 (lw_of ht hr) hr
  exact ⟨S', e1, p.fd e3 e2⟩
theorem PM.lays (p : PM tb T S0 S A B G) (hs : sm A B) : ∃ S', f_X6_lays κ S = some ((), S') ∧ QM tb T S0 S' A G := by
  obtain ⟨S', e1, e2, e3⟩ := e_lays (κ := κ) p.1 p.2.1 (by rw [hs.1]) (fun q _ => by rw [hs.2.1, hs.2.2.1]; exact ⟨rfl, rfl⟩) (by rw [hs.2.2.2])
  exact ⟨S', e1, e2, p.2.2.1.frD e3, p.2.2.2.trans (fK.fd e3)⟩
end PLAY
/-! the mood of all -/
def sp_sum : Nat → Nat → it_SS → Int32 → Int32
  | 0, _, _, c => c
  | k + 1, p, A, c => sp_sum k (p + 1) A (c + A 4 p)
def sp_md (G : Nat) (A : it_SS) : Int32 := sp_sum G 0 A 0
theorem e_moodOfAll_loop {κ : it_KK} {S A : it_SS} {u G : Nat} {kont : Int32 → it_SS → Option (Int32 × it_SS)} (hx : hX S u A) (h1 : A 1 0 = nI G) (hG : G ≤ 6) : ∀ (k p n : Nat) (c : Int32), p + k = G → k < n → lp_X0_moodOfAll_4 κ u kont n c (nI p) S = kont (sp_sum k p A c) S := by
  intro k
  induction k with
  | zero =>
    intro p n c hp hn
    obtain ⟨n, rfl⟩ : ∃ q, n = q + 1 := ⟨n - 1, by omega⟩
    obtain rfl : p = G := by omega
    rw [lp_X0_moodOfAll_4, hx.2.2.1, h1, if_pos (Int32.le_refl _)]
    rfl
  | succ k ih =>
    intro p n c hp hn
    obtain ⟨n, rfl⟩ : ∃ q, n = q + 1 := ⟨n - 1, by omega⟩
    rw [lp_X0_moodOfAll_4, hx.2.2.1, h1, if_neg (nI_ge (by omega) (by omega)), if_pos (bd_nI (by omega) (by decide)), nI_clamp (by omega), (hx.1 p (by omega)).2.2.1, nI_1, ih (p + 1) n _ (by omega) (by omega)]
    rfl
theorem e_moodOfAll {κ : it_KK} {S A : it_SS} {u G : Nat} (hx : hX S u A) (h1 : A 1 0 = nI G) (hG : G ≤ 6) : f_X0_moodOfAll κ u S = some (sp_md G A, S) := by
  rw [f_X0_moodOfAll]
  exact e_moodOfAll_loop hx h1 hG G 0 it_FU 0 (by omega) (by show G < 100000; omega)
theorem e_moodAll_loop {κ : it_KK} {S A : it_SS} {G : Nat} {kont : Int32 → it_SS → Option (Int32 × it_SS)} (hx : hM S A G) (h1 : A 1 0 = nI G) (hG : G ≤ 6) : ∀ (k p n : Nat) (c : Int32), p + k = G → k < n → lp_X6_moodAll_4 κ kont n c (nI p) S = kont (sp_sum k p A c) S := by
  intro k
  induction k with
  | zero =>
    intro p n c hp hn
    obtain ⟨n, rfl⟩ : ∃ q, n = q + 1 := ⟨n - 1, by omega⟩
    obtain rfl : p = G := by omega
    rw [lp_X6_moodAll_4, hx.2.2.2.1, h1, if_pos (Int32.le_refl _)]
    rfl
  | succ k ih =>
    intro p n c hp hn
    obtain ⟨n, rfl⟩ : ∃ q, n = q + 1 := ⟨n - 1, by omega⟩
    rw [lp_X6_moodAll_4, hx.2.2.2.1, h1, if_neg (nI_ge (by omega) (by omega)), nI_2, if_pos (bd_nI (by omega) (by decide)), nI_clamp (by omega), (hx.2.1 p (by omega)).1, nI_1, ih (p + 1) n _ (by omega) (by omega)]
    rfl
theorem e_moodAll {κ : it_KK} {S A : it_SS} {G : Nat} (hx : hM S A G) (h1 : A 1 0 = nI G) (hG : G ≤ 6) : f_X6_moodAll κ S = some (sp_md G A, S) := by
  rw [f_X6_moodAll]
  exact e_moodAll_loop hx h1 hG G 0 it_FU 0 (by omega) (by show G < 100000; omega)
theorem QM.moodBehind {κ : it_KK} {S S0 A : it_SS} {G T m : Nat} {tb : Nat → Nat → List Nat} (hm : m < 1000) (q : QM tb T S0 S A G) (ht : sp_tb tb T) (hr : hR A G T) : ∃ S', f_X6_moodBehind κ (nI m) S = some (sp_md G (sp_days tb G m A), S') ∧ QM tb T S0 S' A G := by
  obtain ⟨S1, a1, a2⟩ := q.keeps (κ := κ)
  obtain ⟨S2, b1, b2⟩ := a2.goes (κ := κ) hm ht hr
  have hr2 := hR.days (tb := tb) m A hr
  obtain ⟨S3, c1, c2⟩ := b2.lays (κ := κ) (sm.refl A).days
  exact ⟨S3, by rw [f_X6_moodBehind, a1, it_bi_some, b1, it_bi_some, e_moodAll b2.2.1 hr2.1 hr2.2.1, it_bi_some, c1, it_bi_some], c2⟩
/-! bits -/
theorem nI_or (a b : Nat) : nI a ||| nI b = nI (a ||| b) := by
  show Int32.ofBitVec (BitVec.ofNat 32 a) ||| Int32.ofBitVec (BitVec.ofNat 32 b) = Int32.ofBitVec (BitVec.ofNat 32 (a ||| b))
  rw [BitVec.ofNat_or]
  rfl
theorem nI_and (a b : Nat) : nI a &&& nI b = nI (a &&& b) := by
  show Int32.ofBitVec (BitVec.ofNat 32 a) &&& Int32.ofBitVec (BitVec.ofNat 32 b) = Int32.ofBitVec (BitVec.ofNat 32 (a &&& b))
  rw [BitVec.ofNat_and]
  rfl
theorem or_z (x : Int32) : x ||| 0 = x := Int32.toBitVec_inj.mp BitVec.or_zero
theorem sh_1 : ∀ g, g < 10 → (1 : Int32) <<< (nI g &&& 31) = nI (2 ^ g) := by decide +kernel
theorem sh_m : ∀ g, g < 10 → ((nI g &&& 31).toBitVec.smod 32).toNat = g := by decide +kernel
theorem bit_at {w g : Nat} (hw : w < 1024) (hg : g < 10) : (nI w >>> (nI g &&& 31)) &&& 1 = if w.testBit g = true then 1 else 0 := by
  rw [pk_shrN (by omega) _ g (sh_m g hg), pk_andN (by have := Nat.div_le_self w (2 ^ g); omega) 1 (by decide), Nat.testBit_eq_decide_div_mod_eq]
  have := Nat.mod_two_eq_zero_or_one (w / 2 ^ g)
  rcases this with h | h <;> simp [h] <;> rfl
theorem dl_6 {tb : Nat → Nat → List Nat} : ∀ (k g : Nat) (A : it_SS) (b : Int32) (j : Nat), j < g → (sp_dl tb k g A b).1 6 j = A 6 j
  | 0, _, _, _, _, _ => rfl
  | k + 1, g, A, b, j, hj => by
    rw [sp_dl, dl_6 k (g + 1) _ _ j (by omega), sp_d1]
    split
    · rfl
    · split
      · rw [it_up_eq, upd, if_neg (by omega), it_up_ne (by decide), sp_d0, it_up_ne (by decide)]
      · rw [sp_d0, it_up_ne (by decide)]
theorem d1_6 {tb : Nat → Nat → List Nat} {A : it_SS} {g j : Nat} (hj : j ≠ g) : sp_d1 tb A g 6 j = A 6 j := by
  rw [sp_d1]
  split
  · rfl
  · split
    · rw [it_up_eq, upd, if_neg hj, it_up_ne (by decide), sp_d0, it_up_ne (by decide)]
    · rw [sp_d0, it_up_ne (by decide)]
theorem dl_bits {tb : Nat → Nat → List Nat} : ∀ (k g : Nat) (A : it_SS) (b : Int32) (w : Nat), b = nI w → w < 2 ^ g → g + k = 10 → ∃ w', (sp_dl tb k g A b).2 = nI w' ∧ w' < 1024 ∧ ∀ j, j < 10 → w'.testBit j = if j < g then w.testBit j else (decide (¬ A 6 j = -1) && decide ((sp_dl tb k g A b).1 6 j = -1)) := by
  intro k
  induction k with
  | zero =>
    intro g A b w hb hw hg
    obtain rfl : g = 10 := by omega
    exact ⟨w, hb, hw, fun j hj => by rw [if_pos hj]⟩
  | succ k ih =>
    intro g A b w hb hw hg
    have hg10 : g < 10 := by omega
    have hw2 : w < 2 ^ (g + 1) := by rw [Nat.pow_succ]; omega
    obtain ⟨w1, e1, e2, e3⟩ : ∃ w1, sp_b1 tb A g b = nI w1 ∧ w1 < 2 ^ (g + 1) ∧ ∀ j, j ≤ g → w1.testBit j = if j < g then w.testBit j else (decide (¬ A 6 j = -1) && decide (sp_d1 tb A g 6 j = -1)) := by
      rw [sp_b1, sp_d1]
      by_cases h : A 6 g = -1
      · rw [if_pos h, if_pos h]
        refine ⟨w, hb, hw2, fun j hj => ?_⟩
        by_cases q : j < g
        · rw [if_pos q]
        · obtain rfl : j = g := by omega
          rw [if_neg q, h, Nat.testBit_lt_two_pow hw]
          rfl
      · rw [if_neg h, if_neg h]
        by_cases h2 : sp_ic tb A g = 0
        · rw [if_pos h2, if_pos h2, hb, sh_1 g hg10, nI_or]
          refine ⟨w ||| 2 ^ g, rfl, Nat.or_lt_two_pow hw2 (by rw [Nat.pow_succ]; have := Nat.two_pow_pos g; omega), fun j hj => ?_⟩
          by_cases q : j < g
          · rw [if_pos q, Nat.testBit_or, Nat.testBit_two_pow_of_ne (by omega), Bool.or_false]
          · obtain rfl : j = g := by omega
            rw [if_neg q, Nat.testBit_or, Nat.testBit_two_pow_self, Bool.or_true, it_up_eq, upd, if_pos rfl]
            simp [h]
        · rw [if_neg h2, if_neg h2]
          refine ⟨w, hb, hw2, fun j hj => ?_⟩
          by_cases q : j < g
          · rw [if_pos q]
          · obtain rfl : j = g := by omega
            rw [if_neg q, Nat.testBit_lt_two_pow hw, sp_d0, it_up_ne (by decide)]
            simp [h]
    obtain ⟨w', f1, f2, f3⟩ := ih (g + 1) (sp_d1 tb A g) (sp_b1 tb A g b) w1 e1 e2 (by omega)
    refine ⟨w', f1, f2, fun j hj => ?_⟩
    rw [f3 j hj, sp_dl]
    by_cases q : j < g
    · rw [if_pos (by omega), if_pos q, e3 j (by omega), if_pos q]
    · by_cases q2 : j = g
      · subst q2
        rw [if_pos (by omega), e3 j (by omega), if_neg q, dl_6 k (j + 1) _ _ j (by omega), if_neg q]
      · rw [if_neg (by omega), if_neg q, d1_6 q2]
theorem off_bits (tb : Nat → Nat → List Nat) (A : it_SS) (G : Nat) : ∃ w, sp_off1 tb A = nI w ∧ w < 1024 ∧ ∀ j, j < 10 → w.testBit j = (decide (¬ A 6 j = -1) && decide (sp_day tb G A 6 j = -1)) := by
  obtain ⟨w, h1, h2, h3⟩ := dl_bits (tb := tb) 10 0 A 0 0 rfl (by decide) rfl
  refine ⟨w, h1, h2, fun j hj => ?_⟩
  rw [h3 j hj, if_neg (by omega), sp_day, it_up_ne (by decide), cd_ne (by decide)]
