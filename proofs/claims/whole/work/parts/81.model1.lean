def sM (S : it_SS) : it_SS := it_zero (it_zero (it_zero (it_zero (it_zero (it_row (it_zero (it_row (it_zero (it_zero (it_zero (it_row (it_zero (it_zero (it_zero (it_zero (it_zero (it_zero (it_row (it_zero (it_zero (it_zero (it_zero (S) 46) 47) 48) 49) 49 30 f49) 50) 51) 52) 53) 54) 55) 55 4 f55) 56) 57) 58) 58 36 f58) 59) 59 96 f59) 60) 61) 62) 63) 64
theorem sM_low (S : it_SS) {b : Nat} (hb : b < 46 ∨ 65 ≤ b) : sM S b = S b := by
  have n46 : b ≠ 46 := by omega
  have n47 : b ≠ 47 := by omega
  have n48 : b ≠ 48 := by omega
  have n49 : b ≠ 49 := by omega
  have n50 : b ≠ 50 := by omega
  have n51 : b ≠ 51 := by omega
  have n52 : b ≠ 52 := by omega
  have n53 : b ≠ 53 := by omega
  have n54 : b ≠ 54 := by omega
  have n55 : b ≠ 55 := by omega
  have n56 : b ≠ 56 := by omega
  have n57 : b ≠ 57 := by omega
  have n58 : b ≠ 58 := by omega
  have n59 : b ≠ 59 := by omega
  have n60 : b ≠ 60 := by omega
  have n61 : b ≠ 61 := by omega
  have n62 : b ≠ 62 := by omega
  have n63 : b ≠ 63 := by omega
  have n64 : b ≠ 64 := by omega
  simp only [sM, it_row, it_zero, if_neg n46, if_neg n47, if_neg n48, if_neg n49, if_neg n50, if_neg n51, if_neg n52, if_neg n53, if_neg n54, if_neg n55, if_neg n56, if_neg n57, if_neg n58, if_neg n59, if_neg n60, if_neg n61, if_neg n62, if_neg n63, if_neg n64]
theorem sM_46 (S : it_SS) : sM S 46 = fun _ => 0 := by simp [sM, it_row, it_zero]
theorem sM_47 (S : it_SS) : sM S 47 = fun _ => 0 := by simp [sM, it_row, it_zero]
theorem sM_48 (S : it_SS) : sM S 48 = fun _ => 0 := by simp [sM, it_row, it_zero]
theorem sM_49 (S : it_SS) {j : Nat} (hj : j < 30) : sM S 49 j = f49 j := by simp [sM, it_row, it_zero, hj]
theorem sM_50 (S : it_SS) : sM S 50 = fun _ => 0 := by simp [sM, it_row, it_zero]
theorem sM_51 (S : it_SS) : sM S 51 = fun _ => 0 := by simp [sM, it_row, it_zero]
theorem sM_52 (S : it_SS) : sM S 52 = fun _ => 0 := by simp [sM, it_row, it_zero]
theorem sM_53 (S : it_SS) : sM S 53 = fun _ => 0 := by simp [sM, it_row, it_zero]
theorem sM_54 (S : it_SS) : sM S 54 = fun _ => 0 := by simp [sM, it_row, it_zero]
theorem sM_55 (S : it_SS) {j : Nat} (hj : j < 4) : sM S 55 j = f55 j := by simp [sM, it_row, it_zero, hj]
theorem sM_56 (S : it_SS) : sM S 56 = fun _ => 0 := by simp [sM, it_row, it_zero]
theorem sM_57 (S : it_SS) : sM S 57 = fun _ => 0 := by simp [sM, it_row, it_zero]
theorem sM_58 (S : it_SS) {j : Nat} (hj : j < 36) : sM S 58 j = f58 j := by simp [sM, it_row, it_zero, hj]
theorem sM_59 (S : it_SS) {j : Nat} (hj : j < 96) : sM S 59 j = f59 j := by simp [sM, it_row, it_zero, hj]
theorem sM_60 (S : it_SS) : sM S 60 = fun _ => 0 := by simp [sM, it_row, it_zero]
theorem sM_61 (S : it_SS) : sM S 61 = fun _ => 0 := by simp [sM, it_row, it_zero]
theorem sM_62 (S : it_SS) : sM S 62 = fun _ => 0 := by simp [sM, it_row, it_zero]
theorem sM_63 (S : it_SS) : sM S 63 = fun _ => 0 := by simp [sM, it_row, it_zero]
theorem sM_64 (S : it_SS) : sM S 64 = fun _ => 0 := by simp [sM, it_row, it_zero]
theorem wm_M : it_wm kM19 := ⟨it_ob_b (by decide +kernel), it_ar_b (by decide +kernel), it_ar_b (by decide +kernel), it_ar_b (by decide +kernel), it_ar_b (by decide +kernel), it_ar_b (by decide +kernel), it_ar_b (by decide +kernel), it_ar_b (by decide +kernel), it_ar_b (by decide +kernel), it_ar_b (by decide +kernel), it_ar_b (by decide +kernel), it_ar_b (by decide +kernel), it_ar_b (by decide +kernel), it_ar_b (by decide +kernel), it_ar_b (by decide +kernel), it_ar_b (by decide +kernel), it_ar_b (by decide +kernel), it_ar_b (by decide +kernel), it_ar_b (by decide +kernel), it_ar_b (by decide +kernel)⟩
set_option maxHeartbeats 4000000 in
theorem M_tape {g : it_G} {l : Launch} {Sf : it_SS} {P : Option Value → it_KK → it_SS → Prop} (h58 : ∀ j, j < 36 → Sf 58 j = nI (t0b j)) (hk : ∀ S' : it_SS, (∀ j, j < 36 → S' 50 j = nI (t0b j)) → (∀ b, b ≠ 50 → S' b = Sf b) → it_Ev g l 10 it_m_X6_init 19 2242 1124 [some (.ref 45), some (.int (nI 36))] [] kM19 S' P) : ∀ (k i : Nat) (S : it_SS), i + k = 36 → (∀ j, j < i → S 50 j = nI (t0b j)) → (∀ b, b ≠ 50 → S b = Sf b) → it_Ev g l 10 it_m_X6_init 19 2242 1100 [some (.ref 45), some (.int (nI i))] [] kM19 S P := by
  have ar50 : it_ar kM19 50 160 := it_ar_b (by decide +kernel)
  have ar58 : it_ar kM19 58 36 := it_ar_b (by decide +kernel)
  intro k
  induction k with
  | zero =>
    intro i S hi h1 h2
    obtain rfl : i = 36 := by omega
    refine ev_iload_n d_X6_init_1100 rfl ?_
    refine ev_bipush (v := 36) d_X6_init_1101 (by decide) ?_
    refine ev_icmp_ge (tgt := 1124) d_X6_init_1103 (by decide) (fun _ => ?_) (fun hc => absurd (by decide) hc)
    exact hk _ h1 h2
  | succ k ih =>
    intro i S hi h1 h2
    refine ev_iload_n d_X6_init_1100 rfl ?_
    refine ev_bipush (v := 36) d_X6_init_1101 (by decide) ?_
    refine ev_icmp_ge (tgt := 1124) d_X6_init_1103 (by decide) (fun hc => absurd hc (show ¬ 36 ≤ nI i from nI_ge (b := 36) (by omega) (by decide))) (fun _ => ?_)
    refine ev_aload_n d_X6_init_1106 rfl ?_
    refine ev_getRr (r := 50) rfl d_X6_init_1107 fl_IcedTooSoonModel_22 wm_M.1 rfl ?_
    refine ev_iload_n d_X6_init_1110 rfl ?_
    refine ev_aload_n d_X6_init_1111 rfl ?_
    refine ev_getRr (r := 58) rfl d_X6_init_1112 fl_IcedTooSoonModel_46 wm_M.1 rfl ?_
    refine ev_iload_n d_X6_init_1115 rfl ?_
    refine ev_iald d_X6_init_1116 ar58 (vp_in_nI (by omega) (by decide)) ?_
    refine ev_iast d_X6_init_1117 (by decide) ar50 (vp_in_nI (by omega) (by decide)) ?_
    refine ev_iinc (c1 := 1) d_X6_init_1118 (by decide) rfl (by decide) ?_
    refine ev_goto (tgt := 1100) d_X6_init_1121 (by decide) ?_
    show it_Ev g l 10 it_m_X6_init 19 2242 1100 [some (.ref 45), some (.int (nI i + 1))] [] kM19 (it_up S 50 (nI i).toNatClampNeg (S 58 (nI i).toNatClampNeg)) P
    rw [nI_1, nI_clamp (by omega), h2 58 (by decide), h58 i (by omega)]
    refine ih (i + 1) _ (by omega) (fun j hj => ?_) (fun b hb => by rw [it_up_ne hb, h2 b hb])
    rw [it_up_eq, upd]
    by_cases e : j = i
    · rw [if_pos e, e]
    · rw [if_neg e]
      exact h1 j (by omega)
def IM0 (S : it_SS) : Prop := IM S hA0 0 tb0 1 0 (fun _ => 0) 0 hA0 0 (fun _ => -1) (fun _ => 0) (fun _ _ => 0)
set_option maxHeartbeats 4000000 in
set_option maxRecDepth 100000 in
theorem L_X6_init {g : it_G} {l : Launch} {S : it_SS} {P : Option Value → it_KK → it_SS → Prop} (hz : ∀ j, S 45 j = 0) (h : ∀ S' : it_SS, IM0 S' → (∀ b, b < 45 ∨ 65 ≤ b → S' b = S b) → P none kM19 S') : it_Cn g l 10 it_m_X6_init [.ref 45] kM0 S P := by
  refine it_Cn.of (by decide +kernel) (Nat.le_of_ble_eq_true rfl) ?_
  show it_Ev g l 10 it_m_X6_init 0 0 0 [some (.ref 45), none] [] kM0 S P
  refine ev_aload_n d_X6_init_0 rfl ?_
  refine ev_objInit d_X6_init_1 ob_IcedTooSoonModel_1 (Nat.le_of_ble_eq_true rfl) (by decide) ?_
  refine Mi_0 ?_
  refine Mi_1 ?_
  refine Mi_2 ?_
  refine Mi_3 ?_
  refine Mi_4 ?_
  refine Mi_5 ?_
  refine Mi_6 ?_
  refine Mi_7 ?_
  refine Mi_8 ?_
  refine Mi_9 ?_
  refine Mi_10 ?_
  refine Mi_11 ?_
  refine Mi_12 ?_
  refine Mi_13 ?_
  refine Mi_14 ?_
  refine Mi_15 ?_
  refine Mi_16 ?_
  refine Mi_17 ?_
  refine Mi_18 ?_
  obtain ⟨Sf, hSf⟩ : ∃ Sf, Sf = sM S := ⟨_, rfl⟩
  show it_Ev g l 10 it_m_X6_init 19 2242 1098 [some (.ref 45), none] [] kM19 (sM S) P
  rw [← hSf]
  refine ev_iconst (v := 0) d_X6_init_1098 (by decide) ?_
  refine ev_istore_n d_X6_init_1099 (by decide) ?_
  show it_Ev g l 10 it_m_X6_init 19 2242 1100 [some (.ref 45), some (.int (nI 0))] [] kM19 Sf P
  have low : ∀ b, b < 46 ∨ 65 ≤ b → Sf b = S b := fun b hb => by rw [hSf]; exact sM_low S hb
  refine M_tape (fun j hj => by rw [hSf]; exact sM_58 S hj) (fun S1 t1 t2 => ?_) 36 0 Sf rfl (fun j hj => absurd hj (Nat.not_lt_zero _)) (fun _ _ => rfl)
  refine ev_aload_n d_X6_init_1124 rfl ?_
  refine ev_bipush (v := 36) d_X6_init_1125 (by decide) ?_
  refine ev_putI d_X6_init_1127 (by decide) fl_IcedTooSoonModel_67 fw_6_7 wm_M.1 rfl ?_
  refine ev_aload_n d_X6_init_1130 rfl ?_
  obtain ⟨S2, hS2⟩ : ∃ S2, S2 = it_up S1 45 7 36 := ⟨_, rfl⟩
  rw [← hS2]
  have f2 : ∀ b, b ≠ 45 → b ≠ 50 → S2 b = Sf b := fun b h1 h2 => by rw [hS2, it_up_ne h1, t2 b h2]
  have f45 : ∀ j, j ≠ 7 → S2 45 j = 0 := fun j hj => by rw [hS2, it_up_eq, upd, if_neg hj, t2 45 (by decide), low 45 (by omega)]; exact hz j
  have E : mE S2 t0b 36 0 := ⟨⟨by decide, fun j hj => ⟨by rw [hS2, it_up_ne (by decide)]; exact t1 j hj, t0_lt j (by omega)⟩⟩, fun j hj => by rw [f2 59 (by decide) (by decide), hSf]; exact sM_59 S hj, by rw [hS2, it_up_eq, upd, if_pos rfl]; rfl, by rw [f45 10 (by decide)]; rfl, by decide⟩
  rcases e_text_m (κ := kM19) E with ⟨S3, j', b1, b2, b3, b4, b5, b6, b7⟩ | ⟨S3, j', c0, c1, c2, b1, b2, b3, b4, b5, b6, b7, b8, b9, b10, b11, b12, b13⟩
  · rw [rtx_1] at b7
    exact absurd (congrArg (fun o => o.map Prod.fst) b7) (by simp)
  · rw [rtx_1] at b13
    have inj := Prod.mk.inj (Prod.mk.inj (Option.some.inj b13)).2
    have inj2 := Prod.mk.inj inj.2
    have inj3 := Prod.mk.inj inj2.2
    rw [← inj2.1] at b10
    rw [← inj3.1] at b11
    rw [← inj3.2] at b8 b12
    refine ev_callV (ci := 6) (b := 45) (M' := it_m_X6_text) (d' := 5) (As := []) d_X6_init_1131 ml_IcedTooSoonModel_71 wm_M.1.1 wm_M.1.2.1 ⟨_, rfl, rfl⟩ rfl rfl (Nat.le_of_ble_eq_true rfl) (by decide) (by decide) (by decide) (L_X6_text wm_M (P := fun r S' => S3 = S') ⟨_, S3, b1, rfl⟩) (fun _ _ _ _ q => by cases q.1; rfl) ?_
    rintro _ _ _ ⟨rfl, _, rfl, rfl⟩
    refine ev_pop d_X6_init_1134 rfl ?_
    refine ev_ret (v := none) ⟨d_X6_init_1135, rfl⟩ (by decide) (by decide) (h _ ?_ (fun b hb => by rw [b4 b (by omega) (by omega) (by omega) (by omega), f2 b (by omega) (by omega), low b (by omega)]))
    have fr : ∀ b, b ≠ 45 → b ≠ 50 → b ≠ 51 → b ≠ 52 → b ≠ 60 → S3 b = sM S b := fun b h1 h2 h3 h4 h5 => by rw [b4 b h1 h3 h4 h5, f2 b h1 h2, hSf]
    have f45' : ∀ j, j ≠ 7 → j ≠ 10 → j < 19 → S3 45 j = 0 := fun j h7 h10 hj => by rw [b5 j h7 h10 (by omega), f45 j h7]
    refine ⟨⟨fun p hp => absurd hp (Nat.not_lt_zero _), fun p hp => ?_, fun j hj => ?_, f45' 0 (by decide) (by decide) (by decide), f45' 5 (by decide) (by decide) (by decide), f45' 11 (by decide) (by decide) (by decide)⟩, ⟨b3, fun t ht => ?_⟩, ⟨b2, fun j hj => absurd hj (Nat.not_lt_zero _), fun j hj => by rw [fr 59 (by decide) (by decide) (by decide) (by decide) (by decide)]; exact sM_59 S hj⟩, ⟨f45' 12 (by decide) (by decide) (by decide), fun q => absurd q (by decide)⟩, fun s hs => ?_⟩
    · rw [fr 48 (by decide) (by decide) (by decide) (by decide) (by decide), sM_48]
      exact ⟨rfl, rfl⟩
    · rw [fr 49 (by decide) (by decide) (by decide) (by decide) (by decide), sM_49 S (by omega), sM_49 S (by omega), sM_49 S (by omega)]
      refine ⟨?_, ?_, ?_⟩
      · rw [f49, if_pos (by omega)]; rfl
      · rw [f49, if_neg (by omega)]; rfl
      · rw [f49, if_neg (by omega)]; rfl
    · obtain rfl : t = 0 := by omega
      refine ⟨fun j hj => b8 j hj, fun p hp => ?_⟩
      rcases (show p = 0 ∨ p = 1 ∨ p = 2 ∨ p = 3 by omega) with rfl | rfl | rfl | rfl
      · exact b9
      · exact b10
      · exact b11
      · exact b12
    · rw [fr 55 (by decide) (by decide) (by decide) (by decide) (by decide), fr 56 (by decide) (by decide) (by decide) (by decide) (by decide), fr 57 (by decide) (by decide) (by decide) (by decide) (by decide), sM_55 S hs, sM_56, sM_57]
      exact ⟨rfl, rfl, fun _ _ => rfl⟩
