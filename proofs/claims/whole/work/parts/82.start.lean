abbrev it_m_L : it_M := (⟨"IcedTooSoonLaw", "law", "([I)Z"⟩, code, 4, some .boolean, 600000, 7302249)
/-! what holds behind both makers -/
set_option maxRecDepth 100000 in
theorem tx_M : ∀ t, kM19.2.2 2 t = true → t = 0
  | 0, _ => rfl
  | t + 1, h => absurd (show false = true from h) (by decide)
theorem hs_M {u : Nat} (h : it_obb kM19 u 0 = true ∧ it_arb kM19 (u + 1) 6 = true ∧ it_arb kM19 (u + 2) 6 = true ∧ it_arb kM19 (u + 3) 6 = true ∧ it_arb kM19 (u + 4) 6 = true ∧ it_arb kM19 (u + 5) 10 = true ∧ it_arb kM19 (u + 6) 10 = true ∧ it_arb kM19 (u + 7) 10 = true) : it_hs kM19 u := ⟨it_ob_b h.1, it_ar_b h.2.1, it_ar_b h.2.2.1, it_ar_b h.2.2.2.1, it_ar_b h.2.2.2.2.1, it_ar_b h.2.2.2.2.2.1, it_ar_b h.2.2.2.2.2.2.1, it_ar_b h.2.2.2.2.2.2.2⟩
theorem wx_M : it_wx kM19 := by
  refine ⟨it_ob_b (by decide +kernel), ⟨it_ob_b (by decide +kernel), ⟨by decide +kernel, by decide +kernel, Or.inl rfl⟩, it_ar_b (by decide +kernel), it_ar_b (by decide +kernel), fun t h => ?_⟩, ⟨it_ob_b (by decide +kernel), it_ar_b (by decide +kernel), it_ar_b (by decide +kernel), it_ar_b (by decide +kernel)⟩, hs_M (by decide +kernel), hs_M (by decide +kernel), hs_M (by decide +kernel), ⟨by decide +kernel, by decide +kernel, Or.inr rfl⟩, by decide +kernel, fun j hj => ?_⟩
  · rw [tx_M t h]
    exact ⟨it_ob_b (by decide +kernel), it_ar_b (by decide +kernel), it_ar_b (by decide +kernel)⟩
  · rcases (show j = 0 ∨ j = 1 ∨ j = 2 ∨ j = 3 by omega) with rfl | rfl | rfl | rfl <;> exact ⟨it_ob_b (by decide +kernel), it_ar_b (by decide +kernel)⟩
theorem tb_0 : sp_tb tb0 1 := by
  refine ⟨by decide, fun t ht => ⟨by show (3 : Nat) ≤ 160; decide, fun p hp => ?_⟩⟩
  rcases (show p = 0 ∨ p = 1 ∨ p = 2 by omega) with rfl | rfl | rfl
  · exact Or.inl ⟨Or.inl (by show (10 : Nat) < 10000; decide), by decide, rfl⟩
  · exact Or.inl ⟨Or.inr ⟨by decide, by decide⟩, by decide, rfl⟩
  · exact Or.inl ⟨Or.inl (by show (5 : Nat) < 10000; decide), by decide, rfl⟩
theorem hR_0 : hR hA0 0 1 := ⟨rfl, by decide, fun j _ => Or.inl rfl, ⟨0, by decide, rfl⟩, fun p hp => absurd hp (Nat.not_lt_zero _), fun p _ => ⟨by show (-99 : Int) ≤ (0 : Int32).toInt; decide, by show (0 : Int32).toInt ≤ 99; decide, by show (0 : Int) ≤ (0 : Int32).toInt; decide, by show (0 : Int32).toInt ≤ 99; decide⟩, fun j _ => ⟨by show (-99 : Int) ≤ (0 : Int32).toInt; decide, by show (0 : Int32).toInt ≤ 99; decide, by show (0 : Int) ≤ (0 : Int32).toInt; decide, by show (0 : Int32).toInt ≤ 99; decide⟩⟩
theorem IR_0 : IR hA0 0 tb0 1 0 (fun _ => 0) 0 hA0 0 (fun _ => -1) (fun _ => 0) := ⟨hR_0, ⟨by decide, by decide⟩, tb_0, by decide, ⟨by decide, fun j hj => absurd hj (Nat.not_lt_zero _)⟩, Or.inl rfl, fun s _ => ⟨Or.inl rfl, 0, by decide, rfl⟩, fun p hp => absurd hp (Nat.not_lt_zero _)⟩
theorem Inv_0 {S S' : it_SS} (hx : IX0 kX5 S) (hm : IM0 S') (hf : ∀ b, b < 45 ∨ 65 ≤ b → S' b = S b) : Inv kM19 S' := by
  refine ⟨wx_M, wm_M, hA0, 0, tb0, 1, 0, fun _ => 0, 0, hA0, 0, fun _ => -1, fun _ => 0, fun _ _ => 0, by decide +kernel, ?_, hm, IR_0⟩
  have h1 := hx.gX hf
  obtain ⟨a1, ⟨a2, a3⟩, a4⟩ := h1
  refine ⟨a1, ⟨a2, fun t ht => ?_⟩, a4⟩
  obtain ⟨q1, q2, q3, q4⟩ := a3 t ht
  obtain rfl : t = 0 := by omega
  exact ⟨by decide +kernel, by decide +kernel, q3, q4⟩
theorem sc_in {i j L : Nat} (h : i + j < L) (hL : L ≤ 3584) : vp_in (nI i + nI j) L := by
  rw [nI_add]
  exact vp_in_nI h (by omega)
abbrev it_LL (i : Nat) : it_L := [some (.retAddr 0), some (.ref 0), some (.ref 45), some (.int (nI i))]
