section DRAW
variable {κ : it_KK} {S S' S0 A B : it_SS} {G : Nat} {tb : Nat → Nat → List Nat} {T n : Nat} {by' : Nat → Int32} {ik : Int32} {AK : it_SS} {GK : Nat} {so sz : Nat → Int32} {ce : it_SS}
/-! orders by lots -/
def sp_lot (k : Nat) : Nat := k * 48271 % 2147483647
theorem lot_lt (k : Nat) : sp_lot k < 2147483647 := Nat.mod_lt _ (by decide)
theorem lot_e {k : Nat} (hk : k < 2 ^ 31) : lN k * 48271 - lN k * 48271 / 2147483647 * 2147483647 = lN (sp_lot k) := by
  have e : lN k * lN 48271 - lN k * lN 48271 / lN 2147483647 * lN 2147483647 = lN (sp_lot k) := by
    rw [lN_mul, pk_lRem (by omega) (by decide) (by decide)]
    rfl
  exact e
theorem rem_e {k d : Nat} (hk : k < 2 ^ 31) (h0 : 0 < d) (hd : d < 2 ^ 31) : (lN k - lN k / lN d * lN d).toInt32 = nI (k % d) := by
  rw [pk_lRem (by omega) h0 (by omega), lN_i]
theorem rem_6 {k : Nat} (hk : k < 2 ^ 31) : (lN k - lN k / 6 * 6).toInt32 = nI (k % 6) := rem_e (d := 6) hk (by decide) (by decide)
theorem rem_199 {k : Nat} (hk : k < 2 ^ 31) : (lN k - lN k / 199 * 199).toInt32 = nI (k % 199) := rem_e (d := 199) hk (by decide) (by decide)
theorem rem_99 {k : Nat} (hk : k < 2 ^ 31) : (lN k - lN k / 99 * 99).toInt32 = nI (k % 99) := rem_e (d := 99) hk (by decide) (by decide)
theorem lot_h (j : Nat) : -99 ≤ (nI (j % 199) - 99).toInt ∧ (nI (j % 199) - 99).toInt ≤ 99 := by
  have h := Nat.mod_lt j (show 0 < 199 by decide)
  have e : (nI (j % 199) - 99).toInt = ((j % 199 : Nat) : Int) - ((99 : Nat) : Int) := pk_sub_toInt (a := j % 199) (b := 99) (by omega) (by decide)
  rw [e]
  omega
theorem lot_m (j : Nat) : 0 ≤ (1 + nI (j % 99)).toInt ∧ (1 + nI (j % 99)).toInt ≤ 99 := by
  have h := Nat.mod_lt j (show 0 < 99 by decide)
  rw [show (1 : Int32) + nI (j % 99) = nI (1 + j % 99) from nI_add 1 _, nI_toInt (by omega)]
  omega
def sp_ls (tb : Nat → Nat → List Nat) (G k : Nat) (B : it_SS) : it_SS := if sp_lot k % 6 < G then sp_srv tb B (sp_lot k % 6) (nI (sp_lot (sp_lot k) % 199) - 99) (1 + nI (sp_lot (sp_lot (sp_lot k)) % 99)) else B
def sp_lots (tb : Nat → Nat → List Nat) (G : Nat) : Nat → Nat → it_SS → it_SS
  | 0, _, B => B
  | j + 1, k, B => sp_lots tb G j (sp_lot (sp_lot (sp_lot k))) (sp_day tb G (sp_ls tb G k B))
theorem hR.ls {k : Nat} (hr : hR B G T) : hR (sp_ls tb G k B) G T := by
  rw [sp_ls]
  split
  · rename_i hp
    exact hr.srvAt hp (lot_h _) (lot_m _)
  · exact hr
theorem sm.ls {k : Nat} (h : sm A B) : sm A (sp_ls tb G k B) := by
  rw [sp_ls]
  split
  · exact h.srv
  · exact h
theorem hR.lots : ∀ (j k : Nat) (B : it_SS), hR B G T → hR (sp_lots tb G j k B) G T
  | 0, _, _, h => h
  | j + 1, k, _, h => hR.lots j _ _ h.ls.day
theorem PX.serve {h m : Int32} {p : Nat} (q : PX κ tb T S0 S B) (ht : sp_tb tb T) (hr : hR B G T) (hp : p < G) : ∃ r S', f_X0_serve κ 17 (nI p) h m S = some (r, S') ∧ PX κ tb T S0 S' (sp_srv tb B p h m) := by
  obtain ⟨S', e1, e2, e3⟩ := e_serve (κ := κ) (u := 17) (h := h) (m := m) ⟨by decide, by decide⟩ q.1 q.2.1 ht hr hp
  exact ⟨_, S', e1, e2, q.2.1.frU ⟨by decide, by decide⟩ e3, fun b b3 b4 hb => (e3 b b3 b4 hb).trans (q.2.2 b b3 b4 hb)⟩
theorem PM.ordered {h m : Int32} {p : Nat} (q : PM tb T S0 S A B G) (ht : sp_tb tb T) (hr : hR B G T) (hp : p < G) : ∃ r S', f_X6_ordered κ (nI p) h m S = some (r, S') ∧ PM tb T S0 S' A (sp_srv tb B p h m) G := by
  obtain ⟨S', e1, e2, e3⟩ := e_ordered (κ := κ) (h := h) (m := m) q.2.1 q.2.2.1 ht hr hp
  exact ⟨_, S', e1, q.fd e3 e2⟩
theorem e_lots_loop {x1 : Int32} {kont : it_SS → Option (Unit × it_SS)} (ht : sp_tb tb T) : ∀ (j i n k : Nat) (S B : it_SS), i + j = 8 → j < n → k < 2 ^ 31 → PX κ tb T S0 S B → hR B G T → ∃ S', lp_X5_thinkOfLots_12 κ x1 kont n (lN k) (nI i) S = kont S' ∧ PX κ tb T S0 S' (sp_lots tb G j k B) := by
  intro j
  induction j with
  | zero =>
    intro i n k S B hi hn hk hp hr
    obtain ⟨n, rfl⟩ : ∃ q, n = q + 1 := ⟨n - 1, by omega⟩
    obtain rfl : i = 8 := by omega
    exact ⟨S, by rw [lp_X5_thinkOfLots_12, if_pos (show (8 : Int32) ≤ nI 8 by decide)], hp⟩
  | succ j ih =>
    intro i n k S B hi hn hk hp hr
    obtain ⟨n, rfl⟩ : ∃ q, n = q + 1 := ⟨n - 1, by omega⟩
    have l1 := lot_lt k
    have l2 := lot_lt (sp_lot k)
    have l3 := lot_lt (sp_lot (sp_lot k))
    have hG := hr.2.1
    rw [lp_X5_thinkOfLots_12, if_neg (show ¬ 8 ≤ nI i from nI_ge (b := 8) (by omega) (by decide)), f_X5_lotBehind, it_bi_some, lot_e hk, f_X5_lotBehind, it_bi_some, lot_e (show sp_lot k < 2 ^ 31 by omega), f_X5_lotBehind, it_bi_some, lot_e (show sp_lot (sp_lot k) < 2 ^ 31 by omega), rem_6 (show sp_lot k < 2 ^ 31 by omega), rem_199 (show sp_lot (sp_lot k) < 2 ^ 31 by omega), rem_99 (show sp_lot (sp_lot (sp_lot k)) < 2 ^ 31 by omega), e_hasGuest (hp.1.2.2.1.trans hr.1) hG, it_bi_some, nI_1, bd_nn (show sp_lot k % 6 < 2 ^ 31 by omega) (show G < 2 ^ 31 by omega), sp_lots]
    by_cases q : sp_lot k % 6 < G
    · obtain ⟨r, S1, a1, a2⟩ := hp.serve (κ := κ) (h := nI (sp_lot (sp_lot k) % 199) - 99) (m := 1 + nI (sp_lot (sp_lot (sp_lot k)) % 99)) ht hr q
      have e : sp_ls tb G k B = sp_srv tb B (sp_lot k % 6) (nI (sp_lot (sp_lot k) % 199) - 99) (1 + nI (sp_lot (sp_lot (sp_lot k)) % 99)) := if_pos q
      rw [← e] at a2
      obtain ⟨S2, b1, b2⟩ := a2.day (κ := κ) ht hr.ls
      rw [show (if decide (sp_lot k % 6 < G) = true then (1 : Int32) else 0) = 1 by simp [q], if_neg (by decide), a1, it_bi_some, b1, it_bi_some]
      exact ih (i + 1) n _ S2 _ (by omega) (by omega) (by omega) b2 hr.ls.day
    · have e : sp_ls tb G k B = B := if_neg q
      obtain ⟨S2, b1, b2⟩ := hp.day (κ := κ) ht hr
      rw [show (if decide (sp_lot k % 6 < G) = true then (1 : Int32) else 0) = 0 by simp [q], if_pos rfl, b1, it_bi_some, e]
      exact ih (i + 1) n _ S2 _ (by omega) (by omega) (by omega) b2 hr.day
theorem e_thinkOfLots {k : Nat} (hk : k + 1 < 2 ^ 31) (hr : IR A G tb T n by' ik AK GK so sz) (h : IX κ S A tb T n by' ik AK so sz ce) : ∃ S', f_X5_thinkOfLots κ (nI k) S = some ((), S') ∧ PX κ tb T S S' (sp_lots tb G 8 (k + 1) A) := by
  obtain ⟨S1, a1, a2⟩ := PX.start h
  obtain ⟨S2, b1, b2⟩ := e_lots_loop (κ := κ) (x1 := nI k) (kont := fun S19 => some ((), S19)) hr.2.2.1 8 0 it_FU (k + 1) S1 A rfl (by decide) hk a2 hr.1
  refine ⟨S2, ?_, b2⟩
  rw [f_X5_thinkOfLots, a1, it_bi_some, nI_l (show k < 2 ^ 31 by omega), lN_1]
  exact b1
theorem e_lotsM_loop {x1 : Int32} {kont : it_SS → Option (Int32 × it_SS)} (ht : sp_tb tb T) : ∀ (j i n k : Nat) (S B : it_SS), i + j = 8 → j < n → k < 2 ^ 31 → PM tb T S0 S A B G → hR B G T → sm A B → ∃ S', lp_X6_lotOrders_12 κ x1 kont n (lN k) (nI i) S = kont S' ∧ PM tb T S0 S' A (sp_lots tb G j k B) G ∧ sm A (sp_lots tb G j k B) := by
  intro j
  induction j with
  | zero =>
    intro i n k S B hi hn hk hp hr hs
    obtain ⟨n, rfl⟩ : ∃ q, n = q + 1 := ⟨n - 1, by omega⟩
    obtain rfl : i = 8 := by omega
    exact ⟨S, by rw [lp_X6_lotOrders_12, if_pos (show (8 : Int32) ≤ nI 8 by decide)], hp, hs⟩
  | succ j ih =>
    intro i n k S B hi hn hk hp hr hs
    obtain ⟨n, rfl⟩ : ∃ q, n = q + 1 := ⟨n - 1, by omega⟩
    have l1 := lot_lt k
    have l2 := lot_lt (sp_lot k)
    have l3 := lot_lt (sp_lot (sp_lot k))
    have hG := hr.2.1
    rw [lp_X6_lotOrders_12, if_neg (show ¬ 8 ≤ nI i from nI_ge (b := 8) (by omega) (by decide)), lot_e hk, lot_e (show sp_lot k < 2 ^ 31 by omega), lot_e (show sp_lot (sp_lot k) < 2 ^ 31 by omega), rem_6 (show sp_lot k < 2 ^ 31 by omega), rem_199 (show sp_lot (sp_lot k) < 2 ^ 31 by omega), rem_99 (show sp_lot (sp_lot (sp_lot k)) < 2 ^ 31 by omega), hp.2.1.2.2.2.1, hr.1, nI_1, sp_lots]
    by_cases q : sp_lot k % 6 < G
    · obtain ⟨r, S1, a1, a2⟩ := hp.ordered (κ := κ) (h := nI (sp_lot (sp_lot k) % 199) - 99) (m := 1 + nI (sp_lot (sp_lot (sp_lot k)) % 99)) ht hr q
      have e : sp_ls tb G k B = sp_srv tb B (sp_lot k % 6) (nI (sp_lot (sp_lot k) % 199) - 99) (1 + nI (sp_lot (sp_lot (sp_lot k)) % 99)) := if_pos q
      rw [← e] at a2
      obtain ⟨S2, b1, b2⟩ := a2.day (κ := κ) ht hr.ls
      rw [if_neg (show ¬ nI G ≤ nI (sp_lot k % 6) from nI_ge q (by omega)), a1, it_bi_some, b1, it_bi_some]
      exact ih (i + 1) n _ S2 _ (by omega) (by omega) (by omega) b2 hr.ls.day hs.ls.day
    · have e : sp_ls tb G k B = B := if_neg q
      obtain ⟨S2, b1, b2⟩ := hp.day (κ := κ) ht hr
      rw [if_pos (show nI G ≤ nI (sp_lot k % 6) from nI_le (by omega) (by omega)), b1, it_bi_some, e]
      exact ih (i + 1) n _ S2 _ (by omega) (by omega) (by omega) b2 hr.day hs.day
theorem e_lotOrders {k : Nat} (hk : k + 1 < 2 ^ 31) (ht : sp_tb tb T) (hr : hR A G T) (q : QM tb T S0 S A G) : ∃ S', f_X6_lotOrders κ (nI k) S = some (sp_md G (sp_lots tb G 8 (k + 1) A), S') ∧ QM tb T S0 S' A G ∧ S' 45 33 = sp_many 10 0 (sp_lots tb G 8 (k + 1) A) 0 := by
  obtain ⟨S1, a1, a2⟩ := q.keeps (κ := κ)
  obtain ⟨S2, b1, b2, b3⟩ := e_lotsM_loop (κ := κ) (x1 := nI k) (kont := fun S11 => it_bi (f_X6_moodAll κ S11) (fun r13 S12 => it_bi (f_X6_many κ S12) (fun r15 S14 => it_bi (f_X6_lays κ (it_up S14 45 33 r15)) (fun _ S16 => some (r13, S16))))) ht 8 0 it_FU (k + 1) S1 A rfl (by decide) hk a2 hr (sm.refl A)
  have hr2 := hR.lots (tb := tb) 8 (k + 1) A hr
  generalize sp_lots tb G 8 (k + 1) A = C at b1 b2 b3 hr2 ⊢
  have hk1 : kM (it_up S2 45 33 (sp_many 10 0 C 0)) A := ⟨fun p hp => by rw [it_up_ne (show (63 : Nat) ≠ 45 by decide)]; exact b2.1.1 p hp, fun p hp => by rw [it_up_ne (show (63 : Nat) ≠ 45 by decide)]; exact b2.1.2.1 p hp, by rw [it_up_ne (show (63 : Nat) ≠ 45 by decide)]; exact b2.1.2.2⟩
  have hm1 : hM (it_up S2 45 33 (sp_many 10 0 C 0)) C G := b2.2.1.cg (fun j hj => by rw [it_up_eq, upd, if_neg (by omega)]) (it_up_ne (by decide)) (it_up_ne (by decide)) (it_up_ne (by decide)) (it_up_ne (by decide))
  obtain ⟨S3, c1, c2, c3⟩ := e_lays (κ := κ) hk1 hm1 (by rw [b3.1]) (fun p _ => by rw [b3.2.1, b3.2.2.1]; exact ⟨rfl, rfl⟩) (by rw [b3.2.2.2])
  have f1 : fK S2 (it_up S2 45 33 (sp_many 10 0 C 0)) := fK.up45 (by decide)
  refine ⟨S3, ?_, ⟨c2, (b2.2.2.1.fk f1).frD c3, (b2.2.2.2.trans f1).trans (fK.fd c3)⟩, ?_⟩
  · rw [f_X6_lotOrders, a1, it_bi_some, nI_l (show k < 2 ^ 31 by omega), lN_1]
    refine Eq.trans b1 ?_
    rw [e_moodAll b2.2.1 hr2.1 hr2.2.1, it_bi_some, e_many b2.2.1, it_bi_some, c1, it_bi_some]
  · rw [c3.2 33 (by decide), it_up_eq, upd, if_pos rfl]
theorem q_drawn (x y : Int32) : Eqv κ (f_X5_drawn κ x y) (f_X6_drawn κ x y) := Eqv.ask fun A G tb T n by' ik AK GK so sz ce hr => by
  cases hx : sp_in x 0 99999 with
  | false =>
    refine ⟨-1000, fun S h => ⟨S, ?_, h, gM.refl S⟩, fun S h => ⟨S, ?_, h, gX.refl S⟩⟩
    · simp only [f_X5_drawn, e_isOutside, hx, bi_s, Bool.false_eq_true, ↓reduceIte, i10]
    · simp only [f_X6_drawn, e_in, hx, bi_s, Bool.false_eq_true, ↓reduceIte, i10]
  | true =>
  cases hy : sp_in y 0 1 with
  | false =>
    refine ⟨-1000, fun S h => ⟨S, ?_, h, gM.refl S⟩, fun S h => ⟨S, ?_, h, gX.refl S⟩⟩
    · simp only [f_X5_drawn, e_isOutside, hx, hy, bi_s, Bool.false_eq_true, ↓reduceIte, i10]
    · simp only [f_X6_drawn, e_in, hx, hy, bi_s, Bool.false_eq_true, ↓reduceIte, i10]
  | true =>
  obtain ⟨k, hk, rfl⟩ := in_nI (m := 99999) (by decide) hx
  have hr2 := hR.lots (tb := tb) 8 (k + 1) A hr.1
  refine ⟨if y = 0 then sp_md G (sp_lots tb G 8 (k + 1) A) else sp_many 10 0 (sp_lots tb G 8 (k + 1) A) 0, fun S h => ?_, fun S h => ?_⟩
  · obtain ⟨S1, a1, a2⟩ := e_thinkOfLots (κ := κ) (k := k) (by omega) hr h
    refine ⟨S1, ?_, a2.fin h, a2.gM⟩
    simp only [f_X5_drawn, e_isOutside, hx, hy, bi_s, Bool.false_eq_true, ↓reduceIte, i10, a1, e_moodOfAll a2.1 hr2.1 hr2.2.1, e_glassesThere a2.1 hr2]
    split <;> rfl
  · obtain ⟨S1, a1, a2, a3⟩ := e_lotOrders (κ := κ) (k := k) (by omega) hr.2.2.1 hr.1 (QM.start h)
    refine ⟨S1, ?_, a2.fin h, a2.gX⟩
    simp only [f_X6_drawn, e_in, hx, hy, bi_s, Bool.false_eq_true, ↓reduceIte, i10, a1, a3]
    split <;> rfl
/-! in lowest terms -/
theorem e_low_x {x0 x1 x2 : Int32} {kont : Int32 → it_SS → Option (Int64 × it_SS)} : ∀ (m a d i n : Nat), a ≤ m → i + a ≤ 63 → m < n → a < 2 ^ 31 → d < 2 ^ 31 → lp_X5_inLowestTerms_11 κ x0 x1 x2 kont n (nI a) (nI d) (nI i) S = kont (nI (Nat.gcd a d)) S := by
  intro m
  induction m with
  | zero =>
    intro a d i n ha hi hn h1 h2
    obtain ⟨n, rfl⟩ : ∃ q, n = q + 1 := ⟨n - 1, by omega⟩
    obtain rfl : a = 0 := by omega
    rw [lp_X5_inLowestTerms_11, if_neg (show ¬ 64 ≤ nI i from nI_ge (b := 64) (by omega) (by decide)), if_pos (show nI 0 = 0 from rfl), Nat.gcd_zero_left]
  | succ m ih =>
    intro a d i n ha hi hn h1 h2
    obtain ⟨n, rfl⟩ : ∃ q, n = q + 1 := ⟨n - 1, by omega⟩
    rw [lp_X5_inLowestTerms_11, if_neg (show ¬ 64 ≤ nI i from nI_ge (b := 64) (by omega) (by decide))]
    by_cases h0 : a = 0
    · subst h0
      rw [if_pos (show nI 0 = 0 from rfl), Nat.gcd_zero_left]
    · have hlt := Nat.mod_lt d (show 0 < a by omega)
      rw [if_neg (nI_ne0 (by omega) h1), if_neg (nI_ne0 (by omega) h1), pk_rem h2 (by omega) h1, nI_1, ih (d % a) a (i + 1) n (by omega) (by omega) (by omega) (by omega) h1, Nat.gcd_rec a d]
theorem e_low_m {x0 x2 : Int64} {x4 : Int32} {kont : Int64 → it_SS → Option (Int64 × it_SS)} : ∀ (m x y n : Nat), y ≤ m → m < n → x < 2 ^ 31 → y < 2 ^ 31 → lp_X6_lowest_17 κ x0 x2 x4 kont n (lN x) (lN y) S = kont (lN (Nat.gcd y x)) S := by
  intro m
  induction m with
  | zero =>
    intro x y n ha hn h1 h2
    obtain ⟨n, rfl⟩ : ∃ q, n = q + 1 := ⟨n - 1, by omega⟩
    obtain rfl : y = 0 := by omega
    rw [lp_X6_lowest_17, if_pos ((lg_cmp_eq _ _).mpr (show lN 0 = 0 from rfl)), Nat.gcd_zero_left]
  | succ m ih =>
    intro x y n ha hn h1 h2
    obtain ⟨n, rfl⟩ : ∃ q, n = q + 1 := ⟨n - 1, by omega⟩
    rw [lp_X6_lowest_17]
    by_cases h0 : y = 0
    · subst h0
      rw [if_pos ((lg_cmp_eq _ _).mpr (show lN 0 = 0 from rfl)), Nat.gcd_zero_left]
    · have hlt := Nat.mod_lt x (show 0 < y by omega)
      have hne : ¬ lN y = 0 := fun h => h0 ((lN_eq h2 (by decide)).mp (show lN y = lN 0 from h))
      rw [if_neg (fun h => hne ((lg_cmp_eq _ _).mp h)), if_neg hne, pk_lRem (by omega) (by omega) (by omega), ih y (x % y) n (by omega) (by omega) h2 (by omega), Nat.gcd_rec y x]
theorem low_all {a : Int32} {b : Nat} {x : Int32} (ha : -1000 ≤ a.toInt ∧ a.toInt ≤ 1000) (hb : 1 ≤ b ∧ b ≤ 40) : ∃ r, (∀ S, f_X5_inLowestTerms κ a (nI b) x S = some (r, S)) ∧ ∀ S, f_X6_lowest κ a.toInt64 (nI b).toInt64 x S = some (r, S) := by
  obtain ⟨N, hN, e1, e2, e3⟩ : ∃ N : Nat, N ≤ 1000 ∧ (if 0 ≤ a then a else 0 - a) = nI N ∧ (0 ≤ a → a.toInt64 = lN N) ∧ (¬ 0 ≤ a → -a.toInt64 = lN N) := by
    by_cases h : 0 ≤ a
    · obtain ⟨j, hj, rfl⟩ := nI_of (Int32.not_lt.mpr h)
      rw [nI_toInt hj] at ha
      exact ⟨j, by omega, if_pos h, fun _ => nI_l hj, fun q => absurd h q⟩
    · have h1 : a.toInt < 0 := by
        rw [Int32.le_iff_toInt_le, i_0] at h
        omega
      refine ⟨(-a.toInt).toNat, by omega, ?_, fun q => absurd q h, fun _ => ?_⟩
      · rw [if_neg h]
        apply Int32.toInt_inj.mp
        rw [i_sub (by rw [i_0]; omega) (by rw [i_0]; omega), i_0, nI_toInt (by omega)]
        omega
      · apply Int64.toInt_inj.mp
        rw [Int64.toInt_neg, Int32.toInt_toInt64, lN_toInt (by omega), Int.bmod_eq_of_le (by omega) (by omega)]
        omega
  have hbl : (nI b).toInt64 = lN b := nI_l (by omega)
  have hg0 : 0 < Nat.gcd N b := Nat.gcd_pos_of_pos_right N (by omega)
  have hgb : Nat.gcd N b ≤ b := Nat.gcd_le_right N (by omega)
  have hg1 : ¬ nI (Nat.gcd N b) = 0 := nI_ne0 hg0 (by omega)
  have hgl : ¬ lN (Nat.gcd N b) = 0 := fun h => absurd ((lN_eq (by omega) (by decide)).mp (show lN (Nat.gcd N b) = lN 0 from h)) (by omega)
  have hgm : nI (Nat.gcd N b) ≠ -1 := nI_nm1 (by omega)
  have hdl : ∀ y : Int32, (y / nI (Nat.gcd N b)).toInt64 = y.toInt64 / lN (Nat.gcd N b) := fun y => by
    rw [Int32.toInt64_div_of_ne_right _ _ hgm, nI_l (show Nat.gcd N b < 2 ^ 31 by omega)]
  have hX : ∀ (S : it_SS) (kont : Int32 → it_SS → Option (Int64 × it_SS)), lp_X5_inLowestTerms_11 κ a (nI b) x kont it_FU (nI N) (nI b) (nI 0) S = kont (nI (Nat.gcd N b)) S := fun S kont => by
    by_cases h : N ≤ 63
    · exact e_low_x N N b 0 it_FU (Nat.le_refl _) (by omega) (by show N < 100000; omega) (by omega) (by omega)
    · rw [show it_FU = 99999 + 1 from rfl, lp_X5_inLowestTerms_11, if_neg (show ¬ (64 : Int32) ≤ nI 0 by decide), if_neg (nI_ne0 (by omega) (by omega)), if_neg (nI_ne0 (by omega) (by omega)), pk_rem (by omega) (by omega) (by omega), nI_1, Nat.mod_eq_of_lt (show b < N by omega), e_low_x b b N 1 99999 (Nat.le_refl _) (by omega) (by omega) (by omega) (by omega), Nat.gcd_comm]
  refine ⟨if x = 0 then a.toInt64 / lN (Nat.gcd N b) else lN b / lN (Nat.gcd N b), fun S => ?_, fun S => ?_⟩
  · rw [f_X5_inLowestTerms, e1]
    refine Eq.trans (hX S _) ?_
    rw [if_neg hg1, if_neg hg1, if_neg hg1, hdl, hdl, hbl]
    split <;> rfl
  · rw [f_X6_lowest, hbl]
    by_cases h : 0 ≤ a
    · have hc : (0 : Int64) ≤ a.toInt64 := by rw [e2 h]; exact (lN_le (a := 0) (by decide) (by omega)).mpr (by omega)
      rw [if_pos ((lg_cmp_ge _ _).mpr hc)]
      have q := e_low_m (κ := κ) (S := S) (x0 := a.toInt64) (x2 := lN b) (x4 := x) (kont := fun v4 S5 => if x = 0 then if v4 = 0 then none else some ((a.toInt64 / v4), S5) else if v4 = 0 then none else some ((lN b / v4), S5)) b N b it_FU (Nat.le_refl _) (by show b < 100000; omega) (by omega) (by omega)
      rw [← e2 h, Nat.gcd_comm] at q
      refine Eq.trans q ?_
      rw [if_neg hgl, if_neg hgl]
      split <;> rfl
    · have hc : ¬ (0 : Int64) ≤ a.toInt64 := fun q => h (by
        rw [Int64.le_iff_toInt_le, Int32.toInt_toInt64] at q
        rw [Int32.le_iff_toInt_le]
        exact q)
      rw [if_neg (fun q => hc ((lg_cmp_ge _ _).mp q)), e3 h]
      have q := e_low_m (κ := κ) (S := S) (x0 := a.toInt64) (x2 := lN b) (x4 := x) (kont := fun v4 S5 => if x = 0 then if v4 = 0 then none else some ((a.toInt64 / v4), S5) else if v4 = 0 then none else some ((lN b / v4), S5)) b N b it_FU (Nat.le_refl _) (by show b < 100000; omega) (by omega) (by omega)
      rw [Nat.gcd_comm] at q
      refine Eq.trans q ?_
      rw [if_neg hgl, if_neg hgl]
      split <;> rfl
end DRAW
