theorem sw_of {v : Int32} (h : ¬ ∃ k, k < 38 ∧ v = nI k) : v.toInt < 0 ∨ 37 < v.toInt := by
  by_cases h0 : v.toInt < 0
  · exact Or.inl h0
  · refine Or.inr ?_
    have h1 : ¬ v < 0 := by
      rw [Int32.lt_iff_toInt_lt, i_0]
      exact h0
    obtain ⟨j, hj, rfl⟩ := nI_of h1
    rw [nI_toInt hj]
    rcases Nat.lt_or_ge j 38 with q | q
    · exact absurd ⟨j, q, rfl⟩ h
    · omega
theorem gt_iff {i L : Nat} (hi : i ≤ 4000) (hL : L ≤ 3584) : nI L - 7 < nI i ↔ L < i + 7 := by
  have h1 : (nI L - nI 7).toInt = (L : Int) - (7 : Nat) := pk_sub_toInt (by omega) (by decide)
  have h2 : (nI i).toInt = (i : Int) := nI_toInt (by omega)
  rw [Int32.lt_iff_toInt_lt, show (nI L - 7) = nI L - nI 7 from rfl, h1, h2]
  omega
set_option maxHeartbeats 4000000 in
theorem law_loop {g : it_G} {l : Launch} (hL : g.2.2.2.2.1 ≤ 3584) : ∀ (n i kc ks : Nat) (κ : it_KK) (S : it_SS), g.2.2.2.2.1 < i + 7 * (n + 1) → i ≤ 3600 → 1000 ≤ kc → kc + 3 * n ≤ 600000 → ks + 165 * n ≤ 7302249 → Inv κ S → it_Ev g l 80 it_m_L kc ks 18 (it_LL i) [] κ S (fun v _ _ => v = some (.int 1)) := by
  have exit : ∀ (i kc ks : Nat) (κ : it_KK) (S : it_SS), kc ≤ 600000 → ks ≤ 7302249 → it_Ev g l 80 it_m_L kc ks 1534 (it_LL i) [] κ S (fun v _ _ => v = some (.int 1)) := fun i kc ks κ S h1 h2 => by
    refine ev_iconst (v := 1) d_L_law_1534 (by decide) ?_
    exact ev_ret (v := some (.int 1)) ⟨d_L_law_1535, _, rfl, rfl⟩ h1 h2 rfl
  intro n
  induction n with
  | zero =>
    intro i kc ks κ S hn hi h1k hkc hks hI
    refine ev_iload_n d_L_law_18 rfl ?_
    refine ev_aload_nO d_L_law_19 rfl ?_
    refine ev_slen d_L_law_20 ?_
    refine ev_bipush (v := 7) d_L_law_21 (by decide) ?_
    refine ev_isub d_L_law_23 ?_
    refine ev_icmp_gt (tgt := 1534) d_L_law_24 (by decide) (fun _ => exit _ _ _ _ _ (by omega) (by omega)) (fun hc => absurd ((gt_iff (by omega) hL).mpr (by omega)) hc)
  | succ n ih =>
    intro i kc ks κ S hn hi h1k hkc hks hI
    refine ev_iload_n d_L_law_18 rfl ?_
    refine ev_aload_nO d_L_law_19 rfl ?_
    refine ev_slen d_L_law_20 ?_
    refine ev_bipush (v := 7) d_L_law_21 (by decide) ?_
    refine ev_isub d_L_law_23 ?_
    refine ev_icmp_gt (tgt := 1534) d_L_law_24 (by decide) (fun _ => exit _ _ _ _ _ (by omega) (by omega)) (fun hc => ?_)
    have hi6 : i + 6 < g.2.2.2.2.1 := by
      rcases Nat.lt_or_ge g.2.2.2.2.1 (i + 7) with q | q
      · exact absurd ((gt_iff (by omega) hL).mpr q) hc
      · omega
    have back : ∀ (κ' : it_KK) (S' : it_SS), Inv κ' S' → it_Ev g l 80 it_m_L (kc + 3) (ks + 165) 1528 (it_LL i) [] κ' S' (fun v _ _ => v = some (.int 1)) := fun κ' S' hI' => by
      refine ev_iinc (c1 := 7) d_L_law_1528 (by decide) rfl (by decide) ?_
      refine ev_goto (tgt := 18) d_L_law_1531 (by decide) ?_
      show it_Ev g l 80 it_m_L (kc + 3) (ks + 165) 18 [some (.retAddr 0), some (.ref 0), some (.ref 45), some (.int (nI i + 7))] [] κ' S' (fun v _ _ => v = some (.int 1))
      rw [show nI i + 7 = nI (i + 7) from nI_add i 7]
      exact ih (i + 7) (kc + 3) (ks + 165) κ' S' (by omega) (by omega) (by omega) (by omega) (by omega) hI'
    refine ev_aload_nO d_L_law_27 rfl ?_
    refine ev_iload_n d_L_law_28 rfl ?_
    refine ev_sld d_L_law_29 (vp_in_nI (by omega) (by omega)) ?_
    refine ev_bipush (v := 63) d_L_law_30 (by decide) ?_
    refine ev_iand d_L_law_32 ?_
    by_cases hv : ∃ k, k < 38 ∧ g.2.2.2.2.2 (nI i).toNatClampNeg &&& 63 = nI k
    · obtain ⟨k, hk, hv⟩ := hv
      have ck : k = 0 ∨ k = 1 ∨ k = 2 ∨ k = 3 ∨ k = 4 ∨ k = 5 ∨ k = 6 ∨ k = 7 ∨ k = 8 ∨ k = 9 ∨ k = 10 ∨ k = 11 ∨ k = 12 ∨ k = 13 ∨ k = 14 ∨ k = 15 ∨ k = 16 ∨ k = 17 ∨ k = 18 ∨ k = 19 ∨ k = 20 ∨ k = 21 ∨ k = 22 ∨ k = 23 ∨ k = 24 ∨ k = 25 ∨ k = 26 ∨ k = 27 ∨ k = 28 ∨ k = 29 ∨ k = 30 ∨ k = 31 ∨ k = 32 ∨ k = 33 ∨ k = 34 ∨ k = 35 ∨ k = 36 ∨ k = 37 := by omega
      rcases ck with rfl | rfl | rfl | rfl | rfl | rfl | rfl | rfl | rfl | rfl | rfl | rfl | rfl | rfl | rfl | rfl | rfl | rfl | rfl | rfl | rfl | rfl | rfl | rfl | rfl | rfl | rfl | rfl | rfl | rfl | rfl | rfl | rfl | rfl | rfl | rfl | rfl | rfl
      · exact ev_table hv d_L_law_33 (by decide) (by decide) (show _ = some (167 : Int) from rfl) (by decide) (law_0 hL hi6 h1k (by omega) (by omega) hI back)
      · exact ev_table hv d_L_law_33 (by decide) (by decide) (show _ = some (190 : Int) from rfl) (by decide) (law_1 hL hi6 h1k (by omega) (by omega) hI back)
      · exact ev_table hv d_L_law_33 (by decide) (by decide) (show _ = some (213 : Int) from rfl) (by decide) (law_2 hL hi6 h1k (by omega) (by omega) hI back)
      · exact ev_table hv d_L_law_33 (by decide) (by decide) (show _ = some (288 : Int) from rfl) (by decide) (law_3 hL hi6 h1k (by omega) (by omega) hI back)
      · exact ev_table hv d_L_law_33 (by decide) (by decide) (show _ = some (301 : Int) from rfl) (by decide) (law_4 hL hi6 h1k (by omega) (by omega) hI back)
      · exact ev_table hv d_L_law_33 (by decide) (by decide) (show _ = some (324 : Int) from rfl) (by decide) (law_5 hL hi6 h1k (by omega) (by omega) hI back)
      · exact ev_table hv d_L_law_33 (by decide) (by decide) (show _ = some (357 : Int) from rfl) (by decide) (law_6 hL hi6 h1k (by omega) (by omega) hI back)
      · exact ev_table hv d_L_law_33 (by decide) (by decide) (show _ = some (390 : Int) from rfl) (by decide) (law_7 hL hi6 h1k (by omega) (by omega) hI back)
      · exact ev_table hv d_L_law_33 (by decide) (by decide) (show _ = some (433 : Int) from rfl) (by decide) (law_8 hL hi6 h1k (by omega) (by omega) hI back)
      · exact ev_table hv d_L_law_33 (by decide) (by decide) (show _ = some (476 : Int) from rfl) (by decide) (law_9 hL hi6 h1k (by omega) (by omega) hI back)
      · exact ev_table hv d_L_law_33 (by decide) (by decide) (show _ = some (509 : Int) from rfl) (by decide) (law_10 hL hi6 h1k (by omega) (by omega) hI back)
      · exact ev_table hv d_L_law_33 (by decide) (by decide) (show _ = some (542 : Int) from rfl) (by decide) (law_11 hL hi6 h1k (by omega) (by omega) hI back)
      · exact ev_table hv d_L_law_33 (by decide) (by decide) (show _ = some (555 : Int) from rfl) (by decide) (law_12 hL hi6 h1k (by omega) (by omega) hI back)
      · exact ev_table hv d_L_law_33 (by decide) (by decide) (show _ = some (588 : Int) from rfl) (by decide) (law_13 hL hi6 h1k (by omega) (by omega) hI back)
      · exact ev_table hv d_L_law_33 (by decide) (by decide) (show _ = some (611 : Int) from rfl) (by decide) (law_14 hL hi6 h1k (by omega) (by omega) hI back)
      · exact ev_table hv d_L_law_33 (by decide) (by decide) (show _ = some (644 : Int) from rfl) (by decide) (law_15 hL hi6 h1k (by omega) (by omega) hI back)
      · exact ev_table hv d_L_law_33 (by decide) (by decide) (show _ = some (667 : Int) from rfl) (by decide) (law_16 hL hi6 h1k (by omega) (by omega) hI back)
      · exact ev_table hv d_L_law_33 (by decide) (by decide) (show _ = some (710 : Int) from rfl) (by decide) (law_17 hL hi6 h1k (by omega) (by omega) hI back)
      · exact ev_table hv d_L_law_33 (by decide) (by decide) (show _ = some (743 : Int) from rfl) (by decide) (law_18 hL hi6 h1k (by omega) (by omega) hI back)
      · exact ev_table hv d_L_law_33 (by decide) (by decide) (show _ = some (786 : Int) from rfl) (by decide) (law_19 hL hi6 h1k (by omega) (by omega) hI back)
      · exact ev_table hv d_L_law_33 (by decide) (by decide) (show _ = some (819 : Int) from rfl) (by decide) (law_20 hL hi6 h1k (by omega) (by omega) hI back)
      · exact ev_table hv d_L_law_33 (by decide) (by decide) (show _ = some (862 : Int) from rfl) (by decide) (law_21 hL hi6 h1k (by omega) (by omega) hI back)
      · exact ev_table hv d_L_law_33 (by decide) (by decide) (show _ = some (886 : Int) from rfl) (by decide) (law_22 hL hi6 h1k (by omega) (by omega) hI back)
      · exact ev_table hv d_L_law_33 (by decide) (by decide) (show _ = some (919 : Int) from rfl) (by decide) (law_23 hL hi6 h1k (by omega) (by omega) hI back)
      · exact ev_table hv d_L_law_33 (by decide) (by decide) (show _ = some (962 : Int) from rfl) (by decide) (law_24 hL hi6 h1k (by omega) (by omega) hI back)
      · exact ev_table hv d_L_law_33 (by decide) (by decide) (show _ = some (1015 : Int) from rfl) (by decide) (law_25 hL hi6 h1k (by omega) (by omega) hI back)
      · exact ev_table hv d_L_law_33 (by decide) (by decide) (show _ = some (1048 : Int) from rfl) (by decide) (law_26 hL hi6 h1k (by omega) (by omega) hI back)
      · exact ev_table hv d_L_law_33 (by decide) (by decide) (show _ = some (1071 : Int) from rfl) (by decide) (law_27 hL hi6 h1k (by omega) (by omega) hI back)
      · exact ev_table hv d_L_law_33 (by decide) (by decide) (show _ = some (1104 : Int) from rfl) (by decide) (law_28 hL hi6 h1k (by omega) (by omega) hI back)
      · exact ev_table hv d_L_law_33 (by decide) (by decide) (show _ = some (1147 : Int) from rfl) (by decide) (law_29 hL hi6 h1k (by omega) (by omega) hI back)
      · exact ev_table hv d_L_law_33 (by decide) (by decide) (show _ = some (1180 : Int) from rfl) (by decide) (law_30 hL hi6 h1k (by omega) (by omega) hI back)
      · exact ev_table hv d_L_law_33 (by decide) (by decide) (show _ = some (1234 : Int) from rfl) (by decide) (law_31 hL hi6 h1k (by omega) (by omega) hI back)
      · exact ev_table hv d_L_law_33 (by decide) (by decide) (show _ = some (1247 : Int) from rfl) (by decide) (law_32 hL hi6 h1k (by omega) (by omega) hI back)
      · exact ev_table hv d_L_law_33 (by decide) (by decide) (show _ = some (1260 : Int) from rfl) (by decide) (law_33 hL hi6 h1k (by omega) (by omega) hI back)
      · exact ev_table hv d_L_law_33 (by decide) (by decide) (show _ = some (1303 : Int) from rfl) (by decide) (law_34 hL hi6 h1k (by omega) (by omega) hI back)
      · exact ev_table hv d_L_law_33 (by decide) (by decide) (show _ = some (1346 : Int) from rfl) (by decide) (law_35 hL hi6 h1k (by omega) (by omega) hI back)
      · exact ev_table hv d_L_law_33 (by decide) (by decide) (show _ = some (1409 : Int) from rfl) (by decide) (law_36 hL hi6 h1k (by omega) (by omega) hI back)
      · exact ev_table hv d_L_law_33 (by decide) (by decide) (show _ = some (1462 : Int) from rfl) (by decide) (law_37 hL hi6 h1k (by omega) (by omega) hI back)
    · exact ev_tableOut (tgt := 1528) d_L_law_33 (sw_of hv) (by decide) (ev_widen (by omega) (by omega) (by omega) (back κ S hI))
set_option maxHeartbeats 4000000 in
theorem law_all {g : it_G} {l : Launch} (hL : g.2.2.2.2.1 ≤ 3584) : it_Ev g l 80 it_m_L 0 0 0 [some (.retAddr 0), none, none, none] [] kz (fun _ _ => 0) (fun v _ _ => v = some (.int 1)) := by
  refine ev_new (N := 7) d_L_law_0 (by decide) nw_L_7 rfl (by decide) (by decide) ?_
  show it_Ev g l 80 it_m_L 1 7 3 [some (.retAddr 0), none, none, none] [.ref 0] kA0 (it_zero (fun _ _ => 0) 0) (fun v _ _ => v = some (.int 1))
  refine ev_dup d_L_law_3 rfl ?_
  refine ev_callI (M' := it_m_X5_init) (d' := 70) (b := 0) (As := []) d_L_law_4 ml_IcedTooSoonLaw_9 rfl rfl (Nat.le_of_ble_eq_true rfl) (by decide) (by decide) (by decide) (L_X5_init (P := fun v κ' S' => v = none ∧ κ' = kX5 ∧ IX0 kX5 S') (fun S' q => ⟨rfl, rfl, q⟩)) (fun _ v κ' S' q => by rw [q.2.1]; rfl) ?_
  rintro _ _ S1 ⟨rfl, rfl, hx⟩
  refine ev_astore_n d_L_law_7 (by decide) ?_
  show it_Ev g l 80 it_m_L 45 1507 8 [some (.retAddr 0), some (.ref 0), none, none] [] kX5 S1 (fun v _ _ => v = some (.int 1))
  refine ev_new (N := 34) d_L_law_8 (by decide) nw_L_10 rfl (by decide) (by decide) ?_
  show it_Ev g l 80 it_m_L 46 1541 11 [some (.retAddr 0), some (.ref 0), none, none] [.ref 45] kM0 (it_zero S1 45) (fun v _ _ => v = some (.int 1))
  refine ev_dup d_L_law_11 rfl ?_
  refine ev_callI (M' := it_m_X6_init) (d' := 10) (b := 45) (As := []) d_L_law_12 ml_IcedTooSoonLaw_12 rfl rfl (Nat.le_of_ble_eq_true rfl) (by decide) (by decide) (by decide) (L_X6_init (P := fun v κ' S' => v = none ∧ κ' = kM19 ∧ IM0 S' ∧ ∀ b, b < 45 ∨ 65 ≤ b → S' b = it_zero S1 45 b) (fun j => by simp [it_zero]) (fun S' q r => ⟨rfl, rfl, q, r⟩)) (fun _ v κ' S' q => by rw [q.2.1]; rfl) ?_
  rintro _ _ S2 ⟨rfl, rfl, hm, hf⟩
  refine ev_astore_n d_L_law_15 (by decide) ?_
  refine ev_iconst (v := 0) d_L_law_16 (by decide) ?_
  refine ev_istore_n d_L_law_17 (by decide) ?_
  show it_Ev g l 80 it_m_L 65 5041 18 (it_LL 0) [] kM19 S2 (fun v _ _ => v = some (.int 1))
  refine ev_widen (kc1 := 1000) (ks1 := 5041) (by decide) (by decide) (by decide) ?_
  exact law_loop hL 512 0 1000 5041 kM19 S2 (by omega) (by decide) (by decide) (by decide) (by decide) (Inv_0 hx hm (fun b hb => by rw [hf b hb, it_zero, if_neg (by omega)]))
