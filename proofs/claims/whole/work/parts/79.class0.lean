theorem nw_5_7 : it_nw "IcedTooSoon" 7 1 := ⟨it_R1, it_F1, 4, it_t1, rfl, it_j1, it_y1, it_in_tb (List.mem_of_getElem? (i := 78) (by decide +kernel)) rfl, it_in_tb (List.mem_of_getElem? (i := 79) (by decide +kernel)) rfl, in_IcedTooSoon_Lawbook, by
  intro k r h
  match k, h with
  | 0, h => cases h; rfl
  | 1, h => cases h; rfl
  | 2, h => cases h; rfl
  | 3, h => cases h; rfl
  | k + 4, h => simp [it_mask] at h, rfl⟩
theorem nw_5_16 : it_nw "IcedTooSoon" 16 3 := ⟨it_R3, it_F3, 9, it_t3, rfl, it_j3, it_y3, it_in_tb (List.mem_of_getElem? (i := 101) (by decide +kernel)) rfl, it_in_tb (List.mem_of_getElem? (i := 102) (by decide +kernel)) rfl, in_IcedTooSoon_Tape, by
  intro k r h
  match k, h with
  | 0, h => cases h; rfl
  | 1, h => cases h; rfl
  | 2, h => cases h; rfl
  | 3, h => cases h; rfl
  | 4, h => cases h; rfl
  | 5, h => cases h; rfl
  | 6, h => cases h; rfl
  | 7, h => cases h; rfl
  | 8, h => cases h; rfl
  | k + 9, h => simp [it_mask] at h, rfl⟩
theorem nw_5_23 : it_nw "IcedTooSoon" 23 0 := ⟨it_R0, it_F0, 11, it_t0, rfl, it_j0, it_y0, it_in_tb (List.mem_of_getElem? (i := 137) (by decide +kernel)) rfl, it_in_tb (List.mem_of_getElem? (i := 138) (by decide +kernel)) rfl, in_IcedTooSoon_House, by
  intro k r h
  match k, h with
  | 0, h => cases h; rfl
  | 1, h => cases h; rfl
  | 2, h => cases h; rfl
  | 3, h => cases h; rfl
  | 4, h => cases h; rfl
  | 5, h => cases h; rfl
  | 6, h => cases h; rfl
  | 7, h => cases h; rfl
  | 8, h => cases h; rfl
  | 9, h => cases h; rfl
  | 10, h => cases h; rfl
  | k + 11, h => simp [it_mask] at h, rfl⟩
theorem nw_5_42 : it_nw "IcedTooSoon" 42 2 := ⟨it_R2, it_F2, 3, it_t2, rfl, it_j2, it_y2, it_in_tb (List.mem_of_getElem? (i := 190) (by decide +kernel)) rfl, it_in_tb (List.mem_of_getElem? (i := 192) (by decide +kernel)) rfl, in_IcedTooSoon_Sheet, by
  intro k r h
  match k, h with
  | 0, h => cases h; rfl
  | 1, h => cases h; rfl
  | 2, h => cases h; rfl
  | k + 3, h => simp [it_mask] at h, rfl⟩
theorem nw_L_7 : it_nw "IcedTooSoonLaw" 7 5 := ⟨it_R5, it_F5, 7, it_t5, rfl, it_j5, it_y5, it_in_tb (List.mem_of_getElem? (i := 70) (by decide +kernel)) rfl, it_in_tb (List.mem_of_getElem? (i := 71) (by decide +kernel)) rfl, in_IcedTooSoon, by
  intro k r h
  match k, h with
  | 0, h => cases h; rfl
  | 1, h => cases h; rfl
  | 2, h => cases h; rfl
  | 3, h => cases h; rfl
  | 4, h => cases h; rfl
  | 5, h => cases h; rfl
  | 6, h => cases h; rfl
  | k + 7, h => simp [it_mask] at h, rfl⟩
theorem nw_L_10 : it_nw "IcedTooSoonLaw" 10 6 := ⟨it_R6, it_F6, 34, it_t6, rfl, it_j6, it_y6, it_in_tb (List.mem_of_getElem? (i := 804) (by decide +kernel)) rfl, it_in_tb (List.mem_of_getElem? (i := 805) (by decide +kernel)) rfl, in_IcedTooSoonModel, by
  intro k r h
  match k, h with
  | 0, h => cases h; rfl
  | 1, h => cases h; rfl
  | 2, h => cases h; rfl
  | 3, h => cases h; rfl
  | 4, h => cases h; rfl
  | 5, h => cases h; rfl
  | 6, h => cases h; rfl
  | 7, h => cases h; rfl
  | 8, h => cases h; rfl
  | 9, h => cases h; rfl
  | 10, h => cases h; rfl
  | 11, h => cases h; rfl
  | 12, h => cases h; rfl
  | 13, h => cases h; rfl
  | 14, h => cases h; rfl
  | 15, h => cases h; rfl
  | 16, h => cases h; rfl
  | 17, h => cases h; rfl
  | 18, h => cases h; rfl
  | 19, h => cases h; rfl
  | 20, h => cases h; rfl
  | 21, h => cases h; rfl
  | 22, h => cases h; rfl
  | 23, h => cases h; rfl
  | 24, h => cases h; rfl
  | 25, h => cases h; rfl
  | 26, h => cases h; rfl
  | 27, h => cases h; rfl
  | 28, h => cases h; rfl
  | 29, h => cases h; rfl
  | 30, h => cases h; rfl
  | 31, h => cases h; rfl
  | 32, h => cases h; rfl
  | 33, h => cases h; rfl
  | k + 34, h => simp [it_mask] at h, rfl⟩
theorem ob_IcedTooSoon_1 : Cond.methodLink "IcedTooSoon" 1 Lib.objectInit ∈ it_tb ∧ Cond.instanceMethod Lib.objectInit ∈ it_tb ∧ Cond.code Lib.objectInit ⟨#[0xb1]⟩ 1 none ∈ it_tb := ⟨it_in_tb (List.mem_of_getElem? (i := 75) (by decide +kernel)) rfl, ob_Text_1.2⟩
def kz : it_KK := (0, fun _ => (0, 0), fun _ _ => false)
def kA0 : it_KK := it_new kz 8 0
def kA1 : it_KK := it_new kA0 4 0
def kA2 : it_KK := it_on (kX1 kA1) 0 0
def kA3 : it_KK := it_new kA2 6 0
def kA4 : it_KK := it_on (kX3 kA3) 0 1
def kA5 : it_KK := it_new kA4 3 0
def kA6 : it_KK := it_on (kX0 kA5 9) 0 2
def kA7 : it_KK := it_new kA6 3 0
def kA8 : it_KK := it_on (kX0 kA7 17) 0 3
def kA9 : it_KK := it_new kA8 3 0
def kA10 : it_KK := it_on (kX0 kA9 25) 0 4
def kA11 : it_KK := it_new kA10 2 4
def kB : Nat → it_KK
  | 0 => it_on kA11 0 6
  | j + 1 => it_on (kX2 (it_new (kB j) 5 0) (34 + 2 * j)) 33 j
def sB (S : it_SS) : Nat → it_SS
  | 0 => S
  | j + 1 => sX2 (it_new (kB j) 5 0) (34 + 2 * j) (it_zero (sB S j) (34 + 2 * j))
def kX5 : it_KK := it_tk (kB 4) 3 0
def hA0 : it_SS := fun f _ => if f = 6 then -1 else 0
def tb0 : Nat → Nat → List Nat := fun _ p => if p = 0 then [10] else if p = 1 then [10006] else [5]
def IX0 (κ : it_KK) (S : it_SS) : Prop := IX κ S hA0 tb0 1 0 (fun _ => 0) 0 hA0 (fun _ => -1) (fun _ => 0) (fun _ _ => 0)
theorem hX_new {κ : it_KK} {u : Nat} {S S' : it_SS} (hκ : κ.1 = u + 1) (hz : ∀ j, S u j = 0) (h1 : ∀ j, j < 10 → S' (u + 5) j = -1) (h2 : ∀ b, b ≠ u + 5 → S' b = sX0 κ S b) : hX S' u hA0 ∧ ∀ b, b ≤ u → S' b = S b := by
  have e : ∀ k, 1 ≤ k → k ≤ 7 → ∀ j, sX0 κ S (u + k) j = 0 := fun k h1 h2 j => by
    rcases (show k = 1 ∨ k = 2 ∨ k = 3 ∨ k = 4 ∨ k = 5 ∨ k = 6 ∨ k = 7 by omega) with rfl | rfl | rfl | rfl | rfl | rfl | rfl <;> simp [sX0, it_zero, hκ]
  have z : ∀ b, b ≤ u → sX0 κ S b = S b := fun b hb => by
    have n1 : b ≠ u + 1 := by omega
    have n2 : b ≠ u + 1 + 1 := by omega
    have n3 : b ≠ u + 1 + 1 + 1 := by omega
    have n4 : b ≠ u + 1 + 1 + 1 + 1 := by omega
    have n5 : b ≠ u + 1 + 1 + 1 + 1 + 1 := by omega
    have n6 : b ≠ u + 1 + 1 + 1 + 1 + 1 + 1 := by omega
    have n7 : b ≠ u + 1 + 1 + 1 + 1 + 1 + 1 + 1 := by omega
    simp only [sX0, it_zero, hκ, if_neg n1, if_neg n2, if_neg n3, if_neg n4, if_neg n5, if_neg n6, if_neg n7]
  have hu : S' u = S u := by rw [h2 u (by omega), z u (Nat.le_refl _)]
  refine ⟨⟨fun p hp => ?_, fun j hj => ?_, ?_, ?_, ?_⟩, fun b hb => by rw [h2 b (by omega), z b hb]⟩
  · rw [h2 (u + 1) (by omega), h2 (u + 2) (by omega), h2 (u + 3) (by omega), h2 (u + 4) (by omega), e 1 (by decide) (by decide), e 2 (by decide) (by decide), e 3 (by decide) (by decide), e 4 (by decide) (by decide)]
    exact ⟨rfl, rfl, rfl, rfl⟩
  · rw [h1 j hj, h2 (u + 6) (by omega), h2 (u + 7) (by omega), e 6 (by decide) (by decide), e 7 (by decide) (by decide)]
    exact ⟨rfl, rfl, rfl⟩
  · rw [hu, hz]; rfl
  · rw [hu, hz]; rfl
  · rw [hu, hz]; rfl
/-! the first text -/
def t0 : List Nat := [109, 101, 108, 116, 115, 32, 49, 48, 32, 59, 32, 102, 101, 101, 108, 115, 32, 119, 101, 105, 103, 104, 116, 32, 59, 32, 99, 104, 105, 108, 108, 115, 32, 53, 32, 59, 32]
def t0b (j : Nat) : Nat := t0.getD j 0
theorem t0_lt : ∀ j, j < 37 → t0b j < 256 := by decide +kernel
theorem ch_0 : ∀ j, j < 37 → (((it_bytes.getD 0 []).getD j 0 &&& 255).toUInt32 % 65536).toInt32 = nI (t0b j) ∧ it_bc (nI (t0b j)) = true := by decide +kernel
theorem e_charAt0 {κ : it_KK} {S : it_SS} {j : Nat} (hj : j < 37) : f_J0_charAt_5068e κ 0 (nI j) S = some (nI (t0b j), S) := by
  have h := ch_0 j hj
  rw [f_J0_charAt_5068e, f_J0_isLatin1_aae02, it_bi_some, if_neg (by decide), f_J1_charAt_3b067, f_J0_checkIndex_df160, if_neg (show ¬ nI j < 0 from nI_pos (by omega)), if_pos (show nI j < Int32.ofNat (it_lens.getD 0 0) from nI_lt hj (by decide)), it_bi_some, if_pos (show it_bd (nI j) (it_lens.getD 0 0) = true from bd_nI hj (by decide)), nI_clamp (by omega), h.1, if_pos h.2, it_bi_some, if_pos h.2]
theorem e_len0 {κ : it_KK} {S : it_SS} : f_J0_length_8abf5 κ 0 S = some (37, S) := by
  rw [f_J0_length_8abf5, f_J0_coder_7d493, it_bi_some, show (Int32.ofNat (it_lens.getD 0 0)) >>> ((0 : Int32) &&& 31) = 37 by decide]
theorem rtx_0 : rtx (tT t0b 37) (tV t0b 37) = some (true, 9, [10], [10, 10006], [10, 10006, 5]) := by decide +kernel
theorem rtx_1 : rtx (tT t0b 36) (tV t0b 36) = some (true, 9, [10], [10, 10006], [10, 10006, 5]) := by decide +kernel
theorem wt_B : it_wt (kB 4) := ⟨it_ob_b (by decide +kernel), it_ar_b (by decide +kernel), it_ar_b (by decide +kernel), it_ar_b (by decide +kernel)⟩
theorem ob_B : it_ob (kB 4) 0 5 := it_ob_b (by decide +kernel)
set_option maxHeartbeats 4000000 in
theorem X5_chars {g : it_G} {l : Launch} {ks : Nat} {Sf : it_SS} {P : Option Value → it_KK → it_SS → Prop} (hk : ∀ S' : it_SS, S' 5 1 = nI 37 → (∀ j, j < 37 → S' 6 j = nI (t0b j)) → (∀ b, b ≠ 5 → b ≠ 6 → S' b = Sf b) → it_Ev g l 70 it_m_X5_init 41 ks 140 [some (.ref 0), some (.int (nI 37))] [] (kB 4) S' P) (hks : ks ≤ 1500) : ∀ (k i : Nat) (S : it_SS), i + k = 37 → S 5 1 = nI i → (∀ j, j < i → S 6 j = nI (t0b j)) → (∀ b, b ≠ 5 → b ≠ 6 → S b = Sf b) → it_Ev g l 70 it_m_X5_init 41 ks 112 [some (.ref 0), some (.int (nI i))] [] (kB 4) S P := by
  intro k
  induction k with
  | zero =>
    intro i S hi h1 h2 h3
    obtain rfl : i = 37 := by omega
    refine ev_iload_n d_X5_init_112 rfl ?_
    refine ev_ldc0 rfl d_X5_init_113 ?_
    refine ev_callO (t := 0) (M' := it_m_J0_length_8abf5) (d' := 2) (As := []) (by decide) d_X5_init_115 ml_IcedTooSoon_51 rfl rfl rfl (Nat.le_of_ble_eq_true rfl) (by decide) (by decide) (by show ks + 0 ≤ 1500; omega) (L_J0_length_8abf5 (t := 0) (by decide) (P := fun r S' => r = 37 ∧ S = S') ⟨37, S, e_len0, rfl, rfl⟩) (fun _ _ _ _ q => by cases q.1; rfl) ?_
    rintro _ _ _ ⟨rfl, _, rfl, rfl, rfl⟩
    refine ev_icmp_ge (tgt := 140) d_X5_init_118 (by decide) (fun _ => ?_) (fun hc => absurd (by decide) hc)
    exact hk _ h1 h2 h3
  | succ k ih =>
    intro i S hi h1 h2 h3
    refine ev_iload_n d_X5_init_112 rfl ?_
    refine ev_ldc0 rfl d_X5_init_113 ?_
    refine ev_callO (t := 0) (M' := it_m_J0_length_8abf5) (d' := 2) (As := []) (by decide) d_X5_init_115 ml_IcedTooSoon_51 rfl rfl rfl (Nat.le_of_ble_eq_true rfl) (by decide) (by decide) (by show ks + 0 ≤ 1500; omega) (L_J0_length_8abf5 (t := 0) (by decide) (P := fun r S' => r = 37 ∧ S = S') ⟨37, S, e_len0, rfl, rfl⟩) (fun _ _ _ _ q => by cases q.1; rfl) ?_
    rintro _ _ _ ⟨rfl, _, rfl, rfl, rfl⟩
    refine ev_icmp_ge (tgt := 140) d_X5_init_118 (by decide) (fun hc => absurd hc (show ¬ 37 ≤ nI i from nI_ge (b := 37) (by omega) (by decide))) (fun _ => ?_)
    refine ev_aload_n d_X5_init_121 rfl ?_
    refine ev_getRr (r := 5) rfl d_X5_init_122 fl_IcedTooSoon_19 ob_B rfl ?_
    refine ev_ldc0 rfl d_X5_init_125 ?_
    refine ev_iload_n d_X5_init_127 rfl ?_
    refine ev_callO (t := 0) (M' := it_m_J0_charAt_5068e) (d' := 4) (As := [.int (nI i)]) (by decide) d_X5_init_128 ml_IcedTooSoon_57 rfl rfl rfl (Nat.le_of_ble_eq_true rfl) (by decide) (by decide) (by show ks + 0 + 0 ≤ 1500; omega) (L_J0_charAt_5068e (t := 0) (by decide) (P := fun r S' => r = nI (t0b i) ∧ S = S') ⟨_, S, e_charAt0 (by omega), rfl, rfl⟩) (fun _ _ _ _ q => by cases q.1; rfl) ?_
    rintro _ _ _ ⟨rfl, _, rfl, rfl, rfl⟩
    have ea : f_X3_add (kB 4) (nI (t0b i)) S = some ((), it_up (it_up S 6 i (nI (t0b i))) 5 1 (nI (i + 1))) := by
      rw [f_X3_add, it_up_ne (show (5 : Nat) ≠ 6 by decide), h1, if_neg (show ¬ 160 ≤ nI i from nI_ge (b := 160) (by omega) (by decide)), if_pos (bd_nI (show i < 160 by omega) (by decide)), nI_clamp (by omega), nI_1]
    refine ev_callV (ci := 3) (b := 5) (M' := it_m_X3_add) (d' := 1) (As := [.int (nI (t0b i))]) d_X5_init_131 ml_IcedTooSoon_61 wt_B.1.1 wt_B.1.2.1 ⟨_, rfl, rfl⟩ rfl rfl (Nat.le_of_ble_eq_true rfl) (by decide) (by decide) (by show ks + 0 + 0 + 0 ≤ 1500; omega) (L_X3_add wt_B (P := fun _ S' => S' = it_up (it_up S 6 i (nI (t0b i))) 5 1 (nI (i + 1))) ⟨(), _, ea, rfl⟩) (fun _ _ _ _ q => by cases q.1; rfl) ?_
    rintro _ _ _ ⟨rfl, rfl, rfl⟩
    refine ev_iinc (c1 := 1) d_X5_init_134 (by decide) rfl (by decide) ?_
    refine ev_goto (tgt := 112) d_X5_init_137 (by decide) ?_
    show it_Ev g l 70 it_m_X5_init 41 ks 112 [some (.ref 0), some (.int (nI i + 1))] [] (kB 4) (it_up (it_up S 6 i (nI (t0b i))) 5 1 (nI (i + 1))) P
    rw [nI_1]
    refine ih (i + 1) _ (by omega) (by rw [it_up_eq, upd, if_pos rfl]) (fun j hj => ?_) (fun b b5 b6 => by rw [it_up_ne b5, it_up_ne b6, h3 b b5 b6])
    rw [it_up_ne (by decide), it_up_eq, upd]
    by_cases e : j = i
    · rw [if_pos e, e]
    · rw [if_neg e]
      exact h2 j (by omega)
/-- how things stand ahead of the first text -/
def SF (S : it_SS) : Prop := S 0 5 = 0 ∧ S 1 3 = 0 ∧ hX S 9 hA0 ∧ hX S 17 hA0 ∧ hX S 25 hA0 ∧ ∀ s, s < 4 → S (34 + 2 * s) 0 = -1 ∧ S (34 + 2 * s) 1 = 0 ∧ ∀ j, j < 40 → S (34 + 2 * s + 1) j = 0
theorem wr_B : it_ob (kB 4) 1 1 ∧ it_rr (kB 4) 2 1 6 := ⟨it_ob_b (by decide +kernel), by decide, by decide +kernel, Or.inl rfl⟩
theorem IX0_of {S1 S' : it_SS} {Sf : it_SS} (hF : SF Sf) (hf : ∀ b, b ≠ 1 → b ≠ 5 → b ≠ 6 → b ≠ 7 → b ≠ 8 → b < 42 → S' b = Sf b) (h13 : S' 1 3 = nI 1) (h51 : S' 5 1 = 0) (h43 : ∀ j, j < 3 → S' 43 j = nI (([10, 10006, 5] : List Nat).getD j 0)) (h44 : S' 44 0 = nI 1 ∧ S' 44 1 = nI 2 ∧ S' 44 2 = nI 3) : IX0 kX5 S' := by
  obtain ⟨f1, f2, f3, f4, f5, f6⟩ := hF
  refine ⟨f3.cg (fun k hk => hf _ (by omega) (by omega) (by omega) (by omega) (by omega) (by omega)), ⟨h13, fun t ht => ?_⟩, ⟨h51, fun j hj => absurd hj (Nat.not_lt_zero _)⟩, ⟨by rw [hf 0 (by decide) (by decide) (by decide) (by decide) (by decide) (by decide)]; exact f1, fun q => absurd q (by decide)⟩, fun s hs => ?_⟩
  · obtain rfl : t = 0 := by omega
    refine ⟨by decide +kernel, by decide +kernel, fun j hj => ?_, fun p hp => ?_⟩
    · exact h43 j hj
    · rcases (show p = 0 ∨ p = 1 ∨ p = 2 by omega) with rfl | rfl | rfl
      · exact h44.1
      · exact h44.2.1
      · exact h44.2.2
  · have := f6 s hs
    rw [it_el2_eq]
    rw [hf _ (by omega) (by omega) (by omega) (by omega) (by omega) (by omega), hf _ (by omega) (by omega) (by omega) (by omega) (by omega) (by omega)]
    exact this
set_option maxHeartbeats 4000000 in
theorem X5_end {g : it_G} {l : Launch} {ks : Nat} {Sf S : it_SS} {P : Option Value → it_KK → it_SS → Prop} (hks : ks + 165 ≤ 1500) (hF : SF Sf) (h51 : S 5 1 = nI 37) (h6 : ∀ j, j < 37 → S 6 j = nI (t0b j)) (hf : ∀ b, b ≠ 5 → b ≠ 6 → S b = Sf b) (h : ∀ S', IX0 kX5 S' → P none kX5 S') : it_Ev g l 70 it_m_X5_init 41 ks 140 [some (.ref 0), some (.int (nI 37))] [] (kB 4) S P := by
  have E : cE S t0b 37 := ⟨⟨by decide, fun j hj => ⟨h6 j hj, t0_lt j hj⟩⟩, h51⟩
  rcases e_isRead (κ := kB 4) E with ⟨S1, j, a1, a2, a3, a4⟩ | ⟨S1, j, c0, e1, e2, a1, a2, a3, a4, a5, a6, a7, a8, a9, a10, a11, a12⟩
  · rw [rtx_0] at a4
    exact absurd (congrArg (fun o => o.map Prod.fst) a4) (by simp)
  · rw [rtx_0] at a12
    have inj := Prod.mk.inj (Prod.mk.inj (Option.some.inj a12)).2
    have inj2 := Prod.mk.inj inj.2
    have inj3 := Prod.mk.inj inj2.2
    rw [← inj3.2] at a3 a4 a5 a8
    rw [← inj3.1] at a7
    rw [← inj2.1] at a6
    refine ev_aload_n d_X5_init_140 rfl ?_
    refine ev_getRr (r := 5) rfl d_X5_init_141 fl_IcedTooSoon_19 ob_B rfl ?_
    refine ev_callV (ci := 3) (b := 5) (M' := it_m_X3_isRead) (d' := 68) (As := []) d_X5_init_144 ml_IcedTooSoon_65 wt_B.1.1 wt_B.1.2.1 ⟨_, rfl, rfl⟩ rfl rfl (Nat.le_of_ble_eq_true rfl) (by decide) (by decide) (by show ks + 0 ≤ 1500; omega) (L_X3_isRead wt_B (P := fun r S' => r = 1 ∧ S1 = S') ⟨1, S1, a1, rfl, rfl⟩) (fun _ _ _ _ q => by cases q.1; rfl) ?_
    rintro _ _ _ ⟨rfl, _, rfl, rfl, rfl⟩
    refine ev_if_eq (tgt := 165) d_X5_init_147 (by decide) (fun hc => absurd hc (by decide)) (fun _ => ?_)
    refine ev_aload_n d_X5_init_150 rfl ?_
    refine ev_getRr (r := 1) rfl d_X5_init_151 fl_IcedTooSoon_10 ob_B rfl ?_
    refine ev_aload_n d_X5_init_154 rfl ?_
    refine ev_getRr (r := 5) rfl d_X5_init_155 fl_IcedTooSoon_19 ob_B rfl ?_
    refine ev_callV (ci := 3) (b := 5) (M' := it_m_X3_written) (d' := 3) (As := []) d_X5_init_158 ml_IcedTooSoon_69 wt_B.1.1 wt_B.1.2.1 ⟨_, rfl, rfl⟩ rfl rfl (Nat.le_of_ble_eq_true rfl) (by decide) (by decide) (by show ks + 0 + 165 ≤ 1500; omega) (L_X3_written wt_B (N := 3) (by decide) a3 (P := fun v κ' S' => v = some (.ref 42) ∧ κ' = it_wr (kB 4) 3 ∧ (∀ j, j < 3 → S' 43 j = S1 7 j) ∧ (∀ j, j < 3 → S' 44 j = S1 8 j) ∧ ∀ b, b < 42 → S' b = S1 b) (fun S' a b c => ⟨rfl, rfl, a, b, c⟩)) (fun _ v κ' S' q => by rw [q.2.1]; rfl) ?_
    rintro v κ1 S2 ⟨rfl, rfl, q1, q2, q3⟩
    show it_Ev g l 70 it_m_X5_init 44 (ks + 0 + 165) 161 [some (.ref 0), some (.int (nI 37))] [.ref 42, .ref 1] (it_wr (kB 4) 3) S2 P
    refine ev_callV (ci := 1) (b := 1) (M' := it_m_X1_add) (d' := 1) (As := [.ref 42]) d_X5_init_161 ml_IcedTooSoon_73 (it_wr_ob wr_B.1).1 (it_wr_ob wr_B.1).2.1 ⟨_, rfl, rfl⟩ rfl rfl (Nat.le_of_ble_eq_true rfl) (by decide) (by decide) (by show ks + 0 + 165 + 0 ≤ 1500; omega) (L_X1_add (T := 0) (it_wr_ob wr_B.1) (it_wr_rr wr_B.2) (by decide +kernel) (by decide +kernel) (by decide) (by rw [q3 1 (by decide), a2 1 (by decide) (by decide) (by decide), hf 1 (by decide) (by decide)]; exact hF.2.1) rfl (P := fun v κ' S' => v = some (.int (nI 0)) ∧ κ' = kX5 ∧ S' = it_up S2 1 3 (nI 1)) ⟨rfl, rfl, rfl⟩) (fun _ v κ' S' q => by rw [q.2.1]; rfl) ?_
    rintro v κ2 S3 ⟨rfl, rfl, rfl⟩
    refine ev_pop d_X5_init_164 rfl ?_
    show it_Ev g l 70 it_m_X5_init 44 (ks + 0 + 165 + 0) 165 [some (.ref 0), some (.int (nI 37))] [] kX5 (it_up S2 1 3 (nI 1)) P
    refine ev_aload_n d_X5_init_165 rfl ?_
    refine ev_getRr (r := 5) rfl d_X5_init_166 fl_IcedTooSoon_19 (it_tk_ob ob_B) rfl ?_
    have wt : it_wt kX5 := ⟨it_tk_ob wt_B.1, it_tk_ar wt_B.2.1, it_tk_ar wt_B.2.2.1, it_tk_ar wt_B.2.2.2⟩
    refine ev_callV (ci := 3) (b := 5) (M' := it_m_X3_empty) (d' := 1) (As := []) d_X5_init_169 ml_IcedTooSoon_76 wt.1.1 wt.1.2.1 ⟨_, rfl, rfl⟩ rfl rfl (Nat.le_of_ble_eq_true rfl) (by decide) (by decide) (by show ks + 0 + 165 + 0 + 0 ≤ 1500; omega) (L_X3_empty wt (P := fun _ S' => S' = it_up (it_up S2 1 3 (nI 1)) 5 1 0) ⟨(), _, rfl, rfl⟩) (fun _ _ _ _ q => by cases q.1; rfl) ?_
    rintro _ _ _ ⟨rfl, rfl, rfl⟩
    refine ev_ret (v := none) ⟨d_X5_init_172, rfl⟩ (by decide) (by show ks + 0 + 165 + 0 + 0 ≤ 1500; omega) (h _ (IX0_of (S1 := S1) hF (fun b n1 n5 n6 n7 n8 hb => by rw [it_up_ne n5, it_up_ne n1, q3 b hb, a2 b n5 n7 n8, hf b n5 n6]) (by rw [it_up_ne (by decide), it_up_eq, upd, if_pos rfl]) (by rw [it_up_eq, upd, if_pos rfl]) (fun j hj => by rw [it_up_ne (by decide), it_up_ne (by decide), q1 j hj, a5 j hj]) ⟨by rw [it_up_ne (by decide), it_up_ne (by decide), q2 0 (by decide), a6]; rfl, by rw [it_up_ne (by decide), it_up_ne (by decide), q2 1 (by decide), a7]; rfl, by rw [it_up_ne (by decide), it_up_ne (by decide), q2 2 (by decide), a8]; rfl⟩))
theorem kB_1 : ∀ j, j < 5 → (kB j).1 = 34 + 2 * j := by decide +kernel
theorem sB_s (S : it_SS) {j b : Nat} (hj : j < 4) : sB S (j + 1) b = if b = 34 + 2 * j + 1 then (fun _ => 0) else if b = 34 + 2 * j then upd (fun _ => 0) 0 (-1) else sB S j b := by
  have e : (it_new (kB j) 5 0).1 = 34 + 2 * j + 1 := by
    show (kB j).1 + 1 = _
    rw [kB_1 j (by omega)]
  rw [sB, sX2, e, it_zero]
  by_cases h1 : b = 34 + 2 * j + 1
  · rw [if_pos h1, if_pos h1]
  · rw [if_neg h1, if_neg h1, it_up]
    by_cases h2 : b = 34 + 2 * j
    · rw [if_pos h2, if_pos h2, it_zero, if_pos rfl]
    · rw [if_neg h2, if_neg h2, it_zero, if_neg h2]
theorem sB_low (S : it_SS) : ∀ j b, j ≤ 4 ∧ b < 34 → sB S j b = S b
  | 0, _, _ => rfl
  | j + 1, b, h => by
    rw [sB_s S (by omega), if_neg (by omega), if_neg (by omega), sB_low S j b (by omega)]
theorem sB_at (S : it_SS) (s : Nat) (hs : s < 4) : sB S 4 (34 + 2 * s) 0 = -1 ∧ sB S 4 (34 + 2 * s) 1 = 0 ∧ ∀ j, j < 40 → sB S 4 (34 + 2 * s + 1) j = 0 := by
  have k : ∀ m, s + 1 + m ≤ 4 → sB S (s + 1 + m) (34 + 2 * s) = upd (fun _ => 0) 0 (-1) ∧ sB S (s + 1 + m) (34 + 2 * s + 1) = fun _ => 0 := by
    intro m
    induction m with
    | zero =>
      intro _
      rw [Nat.add_zero, sB_s S hs, sB_s S hs, if_neg (by omega), if_pos rfl, if_pos rfl]
      exact ⟨rfl, rfl⟩
    | succ m ih =>
      intro hm
      rw [show s + 1 + (m + 1) = (s + 1 + m) + 1 by omega, sB_s S (by omega), sB_s S (by omega), if_neg (by omega), if_neg (by omega), if_neg (by omega), if_neg (by omega)]
      exact ih (by omega)
  have := k (3 - s) (by omega)
  rw [show s + 1 + (3 - s) = 4 by omega] at this
  rw [this.1, this.2]
  exact ⟨rfl, rfl, fun _ _ => rfl⟩
set_option maxHeartbeats 4000000 in
theorem L_X5_init {g : it_G} {l : Launch} {S : it_SS} {P : Option Value → it_KK → it_SS → Prop} (h : ∀ S', IX0 kX5 S' → P none kX5 S') : it_Cn g l 70 it_m_X5_init [.ref 0] kA0 S P := by
  refine it_Cn.of (by decide +kernel) (Nat.le_of_ble_eq_true rfl) ?_
  show it_Ev g l 70 it_m_X5_init 0 0 0 [some (.ref 0), none] [] kA0 S P
  refine ev_aload_n d_X5_init_0 rfl ?_
  refine ev_objInit d_X5_init_1 ob_IcedTooSoon_1 (Nat.le_of_ble_eq_true rfl) (by decide) ?_
  refine ev_aload_n d_X5_init_4 rfl ?_
  refine ev_new (N := 4) d_X5_init_5 (by decide) nw_5_7 rfl (by decide) (by decide) ?_
  show it_Ev g l 70 it_m_X5_init 1 4 8 [some (.ref 0), none] [.ref 1, .ref 0] kA1 (it_zero S 1) P
  refine ev_dup d_X5_init_8 rfl ?_
  refine ev_callIN (M' := it_m_X1_init) (d' := 2) (b := 1) (As := []) d_X5_init_9 ml_IcedTooSoon_9 rfl rfl (Nat.le_of_ble_eq_true rfl) (by decide) (by decide) (by decide) (L_X1_init (P := fun v κ' S' => v = none ∧ κ' = kX1 kA1 ∧ S' = sX1 kA1 (it_zero S 1)) rfl (by decide +kernel) ⟨rfl, rfl, rfl⟩) (fun _ v κ' S' q => by rw [q.2.1]; rfl) ?_
  rintro v κ1 S1 ⟨rfl, rfl, rfl⟩
  obtain ⟨Sa, hSa⟩ : ∃ Sa, Sa = sX1 kA1 (it_zero S 1) := ⟨_, rfl⟩
  rw [← hSa]
  show it_Ev g l 70 it_m_X5_init 4 56 12 [some (.ref 0), none] [.ref 1, .ref 0] (kX1 kA1) Sa P
  refine ev_putR (ci := 5) (k := 0) (n := 0) d_X5_init_12 (by decide) rfl fl_IcedTooSoon_10 ⟨_, rfl, rfl⟩ fw_5_0 (by decide +kernel) (by decide +kernel) rfl rfl rfl rfl ?_
  show it_Ev g l 70 it_m_X5_init 4 56 15 [some (.ref 0), none] [] kA2 Sa P
  refine ev_aload_n d_X5_init_15 rfl ?_
  refine ev_new (N := 9) d_X5_init_16 (by decide) nw_5_16 rfl (by decide) (by decide) ?_
  show it_Ev g l 70 it_m_X5_init 5 65 19 [some (.ref 0), none] [.ref 5, .ref 0] kA3 (it_zero Sa 5) P
  refine ev_dup d_X5_init_19 rfl ?_
  refine ev_callIN (M' := it_m_X3_init) (d' := 2) (b := 5) (As := []) d_X5_init_20 ml_IcedTooSoon_18 rfl rfl (Nat.le_of_ble_eq_true rfl) (by decide) (by decide) (by decide) (L_X3_init (P := fun v κ' S' => v = none ∧ κ' = kX3 kA3 ∧ S' = sX3 kA3 (it_zero Sa 5)) rfl (by decide +kernel) ⟨rfl, rfl, rfl⟩) (fun _ v κ' S' q => by rw [q.2.1]; rfl) ?_
  rintro v κ1 S1 ⟨rfl, rfl, rfl⟩
  obtain ⟨Sb, hSb⟩ : ∃ Sb, Sb = sX3 kA3 (it_zero Sa 5) := ⟨_, rfl⟩
  rw [← hSb]
  show it_Ev g l 70 it_m_X5_init 8 388 23 [some (.ref 0), none] [.ref 5, .ref 0] (kX3 kA3) Sb P
  refine ev_putR (ci := 5) (k := 1) (n := 0) d_X5_init_23 (by decide) rfl fl_IcedTooSoon_19 ⟨_, rfl, rfl⟩ fw_5_1 (by decide +kernel) (by decide +kernel) rfl rfl rfl rfl ?_
  show it_Ev g l 70 it_m_X5_init 8 388 26 [some (.ref 0), none] [] kA4 Sb P
  refine ev_aload_n d_X5_init_26 rfl ?_
  refine ev_new (N := 11) d_X5_init_27 (by decide) nw_5_23 rfl (by decide) (by decide) ?_
  show it_Ev g l 70 it_m_X5_init 9 399 30 [some (.ref 0), none] [.ref 9, .ref 0] kA5 (it_zero Sb 9) P
  refine ev_dup d_X5_init_30 rfl ?_
  refine ev_aload_n d_X5_init_31 rfl ?_
  refine ev_get (ci := 5) (k := 0) (n := 0) (r := true) (v := .ref 1) d_X5_init_32 fl_IcedTooSoon_10 (by decide +kernel) (by decide +kernel) rfl (by show (if true = true then (if kA5.2.2 0 0 = true then Value.ref (g.1 + 1) else Value.null) else _) = _; rw [if_pos rfl, if_pos (by decide +kernel)]; rfl) ?_
  refine ev_callI (M' := it_m_X0_init) (d' := 2) (b := 9) (As := [.ref 1]) d_X5_init_35 ml_IcedTooSoon_25 rfl rfl (Nat.le_of_ble_eq_true rfl) (by decide) (by decide) (by decide) (L_X0_init (u := 9) (P := fun v κ' S' => v = none ∧ κ' = kX0 kA5 9 ∧ (∀ j, j < 10 → S' (9 + 5) j = -1) ∧ ∀ b, b ≠ 9 + 5 → S' b = sX0 kA5 (it_zero Sb 9) b) rfl (by decide +kernel) (fun S' x y => ⟨rfl, rfl, x, y⟩)) (fun _ v κ' S' q => by rw [q.2.1]; rfl) ?_
  rintro v κ1 Sc ⟨rfl, rfl, c1_0, c2_0⟩
  have hh_0 := hX_new (κ := kA5) (u := 9) rfl (fun j => by simp [it_zero]) c1_0 c2_0
  show it_Ev g l 70 it_m_X5_init 16 453 38 [some (.ref 0), none] [.ref 9, .ref 0] (kX0 kA5 9) Sc P
  refine ev_putR (ci := 5) (k := 2) (n := 0) d_X5_init_38 (by decide) rfl fl_IcedTooSoon_28 ⟨_, rfl, rfl⟩ fw_5_2 (by decide +kernel) (by decide +kernel) rfl rfl rfl rfl ?_
  show it_Ev g l 70 it_m_X5_init 16 453 41 [some (.ref 0), none] [] kA6 Sc P
  refine ev_aload_n d_X5_init_41 rfl ?_
  refine ev_new (N := 11) d_X5_init_42 (by decide) nw_5_23 rfl (by decide) (by decide) ?_
  show it_Ev g l 70 it_m_X5_init 17 464 45 [some (.ref 0), none] [.ref 17, .ref 0] kA7 (it_zero Sc 17) P
  refine ev_dup d_X5_init_45 rfl ?_
  refine ev_aload_n d_X5_init_46 rfl ?_
  refine ev_get (ci := 5) (k := 0) (n := 0) (r := true) (v := .ref 1) d_X5_init_47 fl_IcedTooSoon_10 (by decide +kernel) (by decide +kernel) rfl (by show (if true = true then (if kA7.2.2 0 0 = true then Value.ref (g.1 + 1) else Value.null) else _) = _; rw [if_pos rfl, if_pos (by decide +kernel)]; rfl) ?_
  refine ev_callI (M' := it_m_X0_init) (d' := 2) (b := 17) (As := [.ref 1]) d_X5_init_50 ml_IcedTooSoon_25 rfl rfl (Nat.le_of_ble_eq_true rfl) (by decide) (by decide) (by decide) (L_X0_init (u := 17) (P := fun v κ' S' => v = none ∧ κ' = kX0 kA7 17 ∧ (∀ j, j < 10 → S' (17 + 5) j = -1) ∧ ∀ b, b ≠ 17 + 5 → S' b = sX0 kA7 (it_zero Sc 17) b) rfl (by decide +kernel) (fun S' x y => ⟨rfl, rfl, x, y⟩)) (fun _ v κ' S' q => by rw [q.2.1]; rfl) ?_
  rintro v κ1 Sd ⟨rfl, rfl, c1_1, c2_1⟩
  have hh_1 := hX_new (κ := kA7) (u := 17) rfl (fun j => by simp [it_zero]) c1_1 c2_1
  show it_Ev g l 70 it_m_X5_init 24 518 53 [some (.ref 0), none] [.ref 17, .ref 0] (kX0 kA7 17) Sd P
  refine ev_putR (ci := 5) (k := 3) (n := 0) d_X5_init_53 (by decide) rfl fl_IcedTooSoon_32 ⟨_, rfl, rfl⟩ fw_5_3 (by decide +kernel) (by decide +kernel) rfl rfl rfl rfl ?_
  show it_Ev g l 70 it_m_X5_init 24 518 56 [some (.ref 0), none] [] kA8 Sd P
  refine ev_aload_n d_X5_init_56 rfl ?_
  refine ev_new (N := 11) d_X5_init_57 (by decide) nw_5_23 rfl (by decide) (by decide) ?_
  show it_Ev g l 70 it_m_X5_init 25 529 60 [some (.ref 0), none] [.ref 25, .ref 0] kA9 (it_zero Sd 25) P
  refine ev_dup d_X5_init_60 rfl ?_
  refine ev_aload_n d_X5_init_61 rfl ?_
  refine ev_get (ci := 5) (k := 0) (n := 0) (r := true) (v := .ref 1) d_X5_init_62 fl_IcedTooSoon_10 (by decide +kernel) (by decide +kernel) rfl (by show (if true = true then (if kA9.2.2 0 0 = true then Value.ref (g.1 + 1) else Value.null) else _) = _; rw [if_pos rfl, if_pos (by decide +kernel)]; rfl) ?_
  refine ev_callI (M' := it_m_X0_init) (d' := 2) (b := 25) (As := [.ref 1]) d_X5_init_65 ml_IcedTooSoon_25 rfl rfl (Nat.le_of_ble_eq_true rfl) (by decide) (by decide) (by decide) (L_X0_init (u := 25) (P := fun v κ' S' => v = none ∧ κ' = kX0 kA9 25 ∧ (∀ j, j < 10 → S' (25 + 5) j = -1) ∧ ∀ b, b ≠ 25 + 5 → S' b = sX0 kA9 (it_zero Sd 25) b) rfl (by decide +kernel) (fun S' x y => ⟨rfl, rfl, x, y⟩)) (fun _ v κ' S' q => by rw [q.2.1]; rfl) ?_
  rintro v κ1 Se ⟨rfl, rfl, c1_2, c2_2⟩
  have hh_2 := hX_new (κ := kA9) (u := 25) rfl (fun j => by simp [it_zero]) c1_2 c2_2
  show it_Ev g l 70 it_m_X5_init 32 583 68 [some (.ref 0), none] [.ref 25, .ref 0] (kX0 kA9 25) Se P
  refine ev_putR (ci := 5) (k := 4) (n := 0) d_X5_init_68 (by decide) rfl fl_IcedTooSoon_35 ⟨_, rfl, rfl⟩ fw_5_4 (by decide +kernel) (by decide +kernel) rfl rfl rfl rfl ?_
  show it_Ev g l 70 it_m_X5_init 32 583 71 [some (.ref 0), none] [] kA10 Se P
  refine ev_aload_n d_X5_init_71 rfl ?_
  refine ev_iconst (v := 0) d_X5_init_72 (by decide) ?_
  refine ev_put (ci := 5) (k := 5) (n := 0) (ty := .boolean) d_X5_init_73 (by decide) fl_IcedTooSoon_38 fw_5_5 (by decide +kernel) (by decide +kernel) rfl rfl rfl ?_
  refine ev_aload_n d_X5_init_76 rfl ?_
  refine ev_iconst (v := 4) d_X5_init_77 (by decide) ?_
  refine ev_newq (t := 2) (N := 4) d_X5_init_78 (by decide) (Or.inr ⟨rfl, rfl⟩) (it_in_tb (List.mem_of_getElem? (i := 190) (by decide +kernel)) rfl) (by decide) (by decide) (by decide) (by decide) (by decide) ?_
  obtain ⟨Sg, hSg⟩ : ∃ Sg, Sg = it_zero (it_up Se 0 5 0) 33 := ⟨_, rfl⟩
  show it_Ev g l 70 it_m_X5_init 33 587 81 [some (.ref 0), none] [.ref 33, .ref 0] kA11 (it_zero (it_up Se 0 5 0) 33) P
  rw [← hSg]
  refine ev_putR (ci := 5) (k := 6) (n := 0) d_X5_init_81 (by decide) rfl fl_IcedTooSoon_44 ⟨_, rfl, rfl⟩ fw_5_6 (by decide +kernel) (by decide +kernel) rfl rfl rfl rfl ?_
  refine ev_iconst (v := 0) d_X5_init_84 (by decide) ?_
  refine ev_istore_n d_X5_init_85 (by decide) ?_
  show it_Ev g l 70 it_m_X5_init 33 587 86 [some (.ref 0), some (.int 0)] [] (kB 0) (sB Sg 0) P
  refine ev_iload_n d_X5_init_86 rfl ?_
  refine ev_iconst (v := 4) d_X5_init_87 (by decide) ?_
  refine ev_icmp_ge (tgt := 110) d_X5_init_88 (by decide) (fun hc => absurd hc (by decide)) (fun _ => ?_)
  refine ev_aload_n d_X5_init_91 rfl ?_
  refine ev_getRr (r := 33) rfl d_X5_init_92 fl_IcedTooSoon_44 (it_ob_b (by decide +kernel)) rfl ?_
  refine ev_iload_n d_X5_init_95 rfl ?_
  refine ev_new (N := 3) d_X5_init_96 (by decide) nw_5_42 rfl (by decide) (by decide) ?_
  show it_Ev g l 70 it_m_X5_init 34 590 99 [some (.ref 0), some (.int 0)] [.ref 34, .int 0, .ref 33] (it_new (kB 0) 5 0) (it_zero (sB Sg 0) 34) P
  refine ev_dup d_X5_init_99 rfl ?_
  refine ev_callIN (M' := it_m_X2_init) (d' := 2) (b := 34) (As := []) d_X5_init_100 ml_IcedTooSoon_48 rfl rfl (Nat.le_of_ble_eq_true rfl) (by decide) (by decide) (by decide) (L_X2_init (a := 34) (P := fun v κ' S' => v = none ∧ κ' = kX2 (it_new (kB 0) 5 0) 34 ∧ S' = sB Sg 1) rfl (by decide +kernel) ⟨rfl, rfl, rfl⟩) (fun _ v κ' S' q => by rw [q.2.1]; rfl) ?_
  rintro v κ1 S1 ⟨rfl, rfl, rfl⟩
  show it_Ev g l 70 it_m_X5_init 35 630 103 [some (.ref 0), some (.int 0)] [.ref 34, .int 0, .ref 33] (kX2 (it_new (kB 0) 5 0) 34) (sB Sg 1) P
  refine ev_aast (t := 2) (n := 4) (m0 := 0) d_X5_init_103 (by decide) ⟨by decide +kernel, by decide +kernel, Or.inr rfl⟩ (it_bd_in (by decide)) (by decide +kernel) (by decide +kernel) (by decide) ?_
  refine ev_iinc (c1 := 1) d_X5_init_104 (by decide) rfl (by decide) ?_
  refine ev_goto (tgt := 86) d_X5_init_107 (by decide) ?_
  show it_Ev g l 70 it_m_X5_init 35 630 86 [some (.ref 0), some (.int 1)] [] (kB 1) (sB Sg 1) P
  refine ev_iload_n d_X5_init_86 rfl ?_
  refine ev_iconst (v := 4) d_X5_init_87 (by decide) ?_
  refine ev_icmp_ge (tgt := 110) d_X5_init_88 (by decide) (fun hc => absurd hc (by decide)) (fun _ => ?_)
  refine ev_aload_n d_X5_init_91 rfl ?_
  refine ev_getRr (r := 33) rfl d_X5_init_92 fl_IcedTooSoon_44 (it_ob_b (by decide +kernel)) rfl ?_
  refine ev_iload_n d_X5_init_95 rfl ?_
  refine ev_new (N := 3) d_X5_init_96 (by decide) nw_5_42 rfl (by decide) (by decide) ?_
  show it_Ev g l 70 it_m_X5_init 36 633 99 [some (.ref 0), some (.int 1)] [.ref 36, .int 1, .ref 33] (it_new (kB 1) 5 0) (it_zero (sB Sg 1) 36) P
  refine ev_dup d_X5_init_99 rfl ?_
  refine ev_callIN (M' := it_m_X2_init) (d' := 2) (b := 36) (As := []) d_X5_init_100 ml_IcedTooSoon_48 rfl rfl (Nat.le_of_ble_eq_true rfl) (by decide) (by decide) (by decide) (L_X2_init (a := 36) (P := fun v κ' S' => v = none ∧ κ' = kX2 (it_new (kB 1) 5 0) 36 ∧ S' = sB Sg 2) rfl (by decide +kernel) ⟨rfl, rfl, rfl⟩) (fun _ v κ' S' q => by rw [q.2.1]; rfl) ?_
  rintro v κ1 S1 ⟨rfl, rfl, rfl⟩
  show it_Ev g l 70 it_m_X5_init 37 673 103 [some (.ref 0), some (.int 1)] [.ref 36, .int 1, .ref 33] (kX2 (it_new (kB 1) 5 0) 36) (sB Sg 2) P
  refine ev_aast (t := 2) (n := 4) (m0 := 0) d_X5_init_103 (by decide) ⟨by decide +kernel, by decide +kernel, Or.inr rfl⟩ (it_bd_in (by decide)) (by decide +kernel) (by decide +kernel) (by decide) ?_
  refine ev_iinc (c1 := 1) d_X5_init_104 (by decide) rfl (by decide) ?_
  refine ev_goto (tgt := 86) d_X5_init_107 (by decide) ?_
  show it_Ev g l 70 it_m_X5_init 37 673 86 [some (.ref 0), some (.int 2)] [] (kB 2) (sB Sg 2) P
  refine ev_iload_n d_X5_init_86 rfl ?_
  refine ev_iconst (v := 4) d_X5_init_87 (by decide) ?_
  refine ev_icmp_ge (tgt := 110) d_X5_init_88 (by decide) (fun hc => absurd hc (by decide)) (fun _ => ?_)
  refine ev_aload_n d_X5_init_91 rfl ?_
  refine ev_getRr (r := 33) rfl d_X5_init_92 fl_IcedTooSoon_44 (it_ob_b (by decide +kernel)) rfl ?_
  refine ev_iload_n d_X5_init_95 rfl ?_
  refine ev_new (N := 3) d_X5_init_96 (by decide) nw_5_42 rfl (by decide) (by decide) ?_
  show it_Ev g l 70 it_m_X5_init 38 676 99 [some (.ref 0), some (.int 2)] [.ref 38, .int 2, .ref 33] (it_new (kB 2) 5 0) (it_zero (sB Sg 2) 38) P
  refine ev_dup d_X5_init_99 rfl ?_
  refine ev_callIN (M' := it_m_X2_init) (d' := 2) (b := 38) (As := []) d_X5_init_100 ml_IcedTooSoon_48 rfl rfl (Nat.le_of_ble_eq_true rfl) (by decide) (by decide) (by decide) (L_X2_init (a := 38) (P := fun v κ' S' => v = none ∧ κ' = kX2 (it_new (kB 2) 5 0) 38 ∧ S' = sB Sg 3) rfl (by decide +kernel) ⟨rfl, rfl, rfl⟩) (fun _ v κ' S' q => by rw [q.2.1]; rfl) ?_
  rintro v κ1 S1 ⟨rfl, rfl, rfl⟩
  show it_Ev g l 70 it_m_X5_init 39 716 103 [some (.ref 0), some (.int 2)] [.ref 38, .int 2, .ref 33] (kX2 (it_new (kB 2) 5 0) 38) (sB Sg 3) P
  refine ev_aast (t := 2) (n := 4) (m0 := 0) d_X5_init_103 (by decide) ⟨by decide +kernel, by decide +kernel, Or.inr rfl⟩ (it_bd_in (by decide)) (by decide +kernel) (by decide +kernel) (by decide) ?_
  refine ev_iinc (c1 := 1) d_X5_init_104 (by decide) rfl (by decide) ?_
  refine ev_goto (tgt := 86) d_X5_init_107 (by decide) ?_
  show it_Ev g l 70 it_m_X5_init 39 716 86 [some (.ref 0), some (.int 3)] [] (kB 3) (sB Sg 3) P
  refine ev_iload_n d_X5_init_86 rfl ?_
  refine ev_iconst (v := 4) d_X5_init_87 (by decide) ?_
  refine ev_icmp_ge (tgt := 110) d_X5_init_88 (by decide) (fun hc => absurd hc (by decide)) (fun _ => ?_)
  refine ev_aload_n d_X5_init_91 rfl ?_
  refine ev_getRr (r := 33) rfl d_X5_init_92 fl_IcedTooSoon_44 (it_ob_b (by decide +kernel)) rfl ?_
  refine ev_iload_n d_X5_init_95 rfl ?_
  refine ev_new (N := 3) d_X5_init_96 (by decide) nw_5_42 rfl (by decide) (by decide) ?_
  show it_Ev g l 70 it_m_X5_init 40 719 99 [some (.ref 0), some (.int 3)] [.ref 40, .int 3, .ref 33] (it_new (kB 3) 5 0) (it_zero (sB Sg 3) 40) P
  refine ev_dup d_X5_init_99 rfl ?_
  refine ev_callIN (M' := it_m_X2_init) (d' := 2) (b := 40) (As := []) d_X5_init_100 ml_IcedTooSoon_48 rfl rfl (Nat.le_of_ble_eq_true rfl) (by decide) (by decide) (by decide) (L_X2_init (a := 40) (P := fun v κ' S' => v = none ∧ κ' = kX2 (it_new (kB 3) 5 0) 40 ∧ S' = sB Sg 4) rfl (by decide +kernel) ⟨rfl, rfl, rfl⟩) (fun _ v κ' S' q => by rw [q.2.1]; rfl) ?_
  rintro v κ1 S1 ⟨rfl, rfl, rfl⟩
  show it_Ev g l 70 it_m_X5_init 41 759 103 [some (.ref 0), some (.int 3)] [.ref 40, .int 3, .ref 33] (kX2 (it_new (kB 3) 5 0) 40) (sB Sg 4) P
  refine ev_aast (t := 2) (n := 4) (m0 := 0) d_X5_init_103 (by decide) ⟨by decide +kernel, by decide +kernel, Or.inr rfl⟩ (it_bd_in (by decide)) (by decide +kernel) (by decide +kernel) (by decide) ?_
  refine ev_iinc (c1 := 1) d_X5_init_104 (by decide) rfl (by decide) ?_
  refine ev_goto (tgt := 86) d_X5_init_107 (by decide) ?_
  show it_Ev g l 70 it_m_X5_init 41 759 86 [some (.ref 0), some (.int 4)] [] (kB 4) (sB Sg 4) P
  refine ev_iload_n d_X5_init_86 rfl ?_
  refine ev_iconst (v := 4) d_X5_init_87 (by decide) ?_
  refine ev_icmp_ge (tgt := 110) d_X5_init_88 (by decide) (fun _ => ?_) (fun hc => absurd (by decide) hc)
  refine ev_iconst (v := 0) d_X5_init_110 (by decide) ?_
  refine ev_istore_n d_X5_init_111 (by decide) ?_
  show it_Ev g l 70 it_m_X5_init 41 759 112 [some (.ref 0), some (.int (nI 0))] [] (kB 4) (sB Sg 4) P
  obtain ⟨Sf, hSf⟩ : ∃ Sf, Sf = sB Sg 4 := ⟨_, rfl⟩
  rw [← hSf]
  have low : ∀ b, b < 33 → b ≠ 0 → Sf b = Se b := fun b hb h0 => by
    rw [hSf, sB_low Sg 4 b (by omega), hSg, it_zero, if_neg (by omega), it_up_ne h0]
  have F : SF Sf := by
    have d0 : ∀ b, b ≤ 17 → Sd b = it_zero Sc 17 b := hh_1.2
    have e0 : ∀ b, b ≤ 25 → Se b = it_zero Sd 25 b := hh_2.2
    have c0 : ∀ b, b ≤ 9 → Sc b = it_zero Sb 9 b := hh_0.2
    have ed : ∀ b, b < 25 → Se b = Sd b := fun b hb => by rw [e0 b (by omega), it_zero, if_neg (by omega)]
    have dc : ∀ b, b < 17 → Sd b = Sc b := fun b hb => by rw [d0 b (by omega), it_zero, if_neg (by omega)]
    have cb : ∀ b, b < 9 → Sc b = Sb b := fun b hb => by rw [c0 b (by omega), it_zero, if_neg (by omega)]
    have b5 : ∀ b, b < 5 → Sb b = Sa b := fun b hb => by
      have n1 : b ≠ 5 := by omega
      have n2 : b ≠ 6 := by omega
      have n3 : b ≠ 7 := by omega
      have n4 : b ≠ 8 := by omega
      rw [hSb]
      show it_zero (it_zero (it_zero (it_zero Sa 5) 6) 7) 8 b = Sa b
      simp only [it_zero, if_neg n1, if_neg n2, if_neg n3, if_neg n4]
    refine ⟨?_, ?_, hh_0.1.cg (fun k hk => by rw [low _ (by omega) (by omega), ed _ (by omega), dc _ (by omega)]), hh_1.1.cg (fun k hk => by rw [low _ (by omega) (by omega), ed _ (by omega)]), hh_2.1.cg (fun k hk => low _ (by omega) (by omega)), fun s hs => ?_⟩
    · rw [hSf, sB_low Sg 4 0 (by omega), hSg, it_zero, if_neg (by omega), it_up_eq, upd, if_pos rfl]
    · rw [low 1 (by decide) (by decide), ed 1 (by decide), dc 1 (by decide), cb 1 (by decide), b5 1 (by decide), hSa]
      rfl
    · rw [hSf]
      exact sB_at Sg s hs
  exact X5_chars (fun S' s1 s2 s3 => X5_end (by decide) F s1 s2 s3 h) (by decide) 37 0 Sf rfl (by rw [hSf, sB_low Sg 4 5 (by omega), hSg, it_zero, if_neg (by omega), it_up_ne (by decide), (fun b hb => by rw [hh_2.2 b (by omega), it_zero, if_neg (by omega)] : ∀ b, b < 25 → Se b = Sd b) 5 (by decide), (fun b hb => by rw [hh_1.2 b (by omega), it_zero, if_neg (by omega)] : ∀ b, b < 17 → Sd b = Sc b) 5 (by decide), (fun b hb => by rw [hh_0.2 b (by omega), it_zero, if_neg (by omega)] : ∀ b, b < 9 → Sc b = Sb b) 5 (by decide), hSb]; rfl) (fun j hj => absurd hj (Nat.not_lt_zero _)) (fun _ _ _ => rfl)
