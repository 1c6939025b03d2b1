theorem kt_new {κ : it_KK} {t n a : Nat} {p : Nat × Nat} (h : κ.2.1 a = p) (ha : a < κ.1) : (it_new κ t n).2.1 a = p := by
  have : a ≠ κ.1 := Nat.ne_of_lt ha
  simp [it_new, this, h]
theorem fl_new {κ : it_KK} {t n a k : Nat} (ha : a < κ.1) (h : κ.2.2 a k = true) : (it_new κ t n).2.2 a k = true := by
  have : a ≠ κ.1 := Nat.ne_of_lt ha
  simp [it_new, this, h]
theorem fl_on {κ : it_KK} {a k b j : Nat} (h : κ.2.2 a k = true) : (it_on κ b j).2.2 a k = true := by
  simp [it_on, h]
theorem on_self {κ : it_KK} {a k : Nat} : (it_on κ a k).2.2 a k = true := by
  simp [it_on]
def it_obb (κ : it_KK) (a ci : Nat) : Bool := decide (a < κ.1) && decide (κ.2.1 a = (ci + 3, 0)) && (List.range (it_mask ci).length).all (fun k => !((it_mask ci).getD k false) || κ.2.2 a k)
theorem it_ob_b {κ : it_KK} {a ci : Nat} (h : it_obb κ a ci = true) : it_ob κ a ci := by
  simp only [it_obb, Bool.and_eq_true, decide_eq_true_eq, List.all_eq_true, List.mem_range, Bool.or_eq_true, Bool.not_eq_true'] at h
  refine ⟨h.1.1, h.1.2, fun k hk => ?_⟩
  have hl := (List.getElem?_eq_some_iff.mp hk).1
  rcases h.2 k hl with q | q
  · rw [List.getD_eq_getElem?_getD, hk] at q
    cases q
  · exact q
def it_arb (κ : it_KK) (a n : Nat) : Bool := decide (a < κ.1) && decide (κ.2.1 a = (0, n))
theorem it_ar_b {κ : it_KK} {a n : Nat} (h : it_arb κ a n = true) : it_ar κ a n := by
  simp only [it_arb, Bool.and_eq_true, decide_eq_true_eq] at h
  exact h
theorem ob_IcedTooSoon_Lawbook_3 : Cond.methodLink "IcedTooSoon$Lawbook" 3 Lib.objectInit ∈ it_tb ∧ Cond.instanceMethod Lib.objectInit ∈ it_tb ∧ Cond.code Lib.objectInit ⟨#[0xb1]⟩ 1 none ∈ it_tb := ⟨it_in_tb (List.mem_of_getElem? (i := 83) (by decide +kernel)) rfl, ob_Text_1.2⟩
def kX1 (κ : it_KK) : it_KK := it_on (it_new (it_on (it_new (it_on (it_new (κ) 1 6) 1 0) 0 6) 1 1) 0 40) 1 2
def sX1 (κ : it_KK) (S : it_SS) : it_SS := it_zero (it_zero (it_zero (S) (κ.1)) (κ.1 + 1)) (κ.1 + 1 + 1)
set_option maxHeartbeats 4000000 in
theorem L_X1_init {g : it_G} {l : Launch} {κ : it_KK} (hκ : κ.1 = 2) (hk : κ.2.1 1 = (4, 0)) {S : it_SS} {P : Option Value → it_KK → it_SS → Prop} (h : P none (kX1 κ) (sX1 κ S)) : it_Cn g l 2 it_m_X1_init [.ref 1] κ S P := by
  refine it_Cn.of (by decide +kernel) (Nat.le_of_ble_eq_true rfl) ?_
  show it_Ev g l 2 it_m_X1_init 0 0 0 [some (.ref 1)] [] κ S P
  refine ev_aload_n d_X1_init_0 rfl ?_
  refine ev_objInit d_X1_init_1 ob_IcedTooSoon_Lawbook_3 (Nat.le_of_ble_eq_true rfl) (by decide) ?_
  refine ev_aload_n d_X1_init_4 rfl ?_
  refine ev_bipush (v := 6) d_X1_init_5 (by decide) ?_
  have k_0 : (it_new (κ) 1 6).2.1 1 = (4, 0) := kt_new hk (by show 1 < κ.1; omega)
  refine ev_newq (t := 1) (N := 6) d_X1_init_7 (by decide) (Or.inl ⟨rfl, rfl⟩) (it_in_tb (List.mem_of_getElem? (i := 84) (by decide +kernel)) rfl) (by decide) (by decide) (by decide) (by decide) (by decide) ?_
  refine ev_putR (ci := 1) (k := 0) (n := 0) d_X1_init_10 (by decide) rfl fl_IcedTooSoon_Lawbook_11 ⟨_, rfl, rfl⟩ fw_1_0 (by show 1 < κ.1 + 1; omega) k_0 rfl (by show κ.1 = _; simp only [it_lay]; omega) rfl rfl ?_
  refine ev_aload_n d_X1_init_13 rfl ?_
  refine ev_bipush (v := 6) d_X1_init_14 (by decide) ?_
  have k_1 : (it_new (it_on (it_new (κ) 1 6) 1 0) 0 6).2.1 1 = (4, 0) := kt_new k_0 (by show 1 < κ.1 + 1; omega)
  refine ev_newa (N := 6) d_X1_init_16 (by decide) ar_int (by decide) (by decide) (by decide) (by decide) (by decide) ?_
  refine ev_putR (ci := 1) (k := 1) (n := 0) d_X1_init_18 (by decide) rfl fl_IcedTooSoon_Lawbook_19 ⟨_, rfl, rfl⟩ fw_1_1 (by show 1 < κ.1 + 1 + 1; omega) k_1 rfl (by show κ.1 + 1 = _; simp only [it_lay]; omega) rfl rfl ?_
  refine ev_aload_n d_X1_init_21 rfl ?_
  refine ev_bipush (v := 40) d_X1_init_22 (by decide) ?_
  have k_2 : (it_new (it_on (it_new (it_on (it_new (κ) 1 6) 1 0) 0 6) 1 1) 0 40).2.1 1 = (4, 0) := kt_new k_1 (by show 1 < κ.1 + 1 + 1; omega)
  refine ev_newa (N := 40) d_X1_init_24 (by decide) ar_int (by decide) (by decide) (by decide) (by decide) (by decide) ?_
  refine ev_putR (ci := 1) (k := 2) (n := 0) d_X1_init_26 (by decide) rfl fl_IcedTooSoon_Lawbook_23 ⟨_, rfl, rfl⟩ fw_1_2 (by show 1 < κ.1 + 1 + 1 + 1; omega) k_2 rfl (by show κ.1 + 1 + 1 = _; simp only [it_lay]; omega) rfl rfl ?_
  exact ev_ret (v := none) ⟨d_X1_init_29, rfl⟩ (by decide) (by decide) h
theorem ob_IcedTooSoon_Tape_3 : Cond.methodLink "IcedTooSoon$Tape" 3 Lib.objectInit ∈ it_tb ∧ Cond.instanceMethod Lib.objectInit ∈ it_tb ∧ Cond.code Lib.objectInit ⟨#[0xb1]⟩ 1 none ∈ it_tb := ⟨it_in_tb (List.mem_of_getElem? (i := 106) (by decide +kernel)) rfl, ob_Text_1.2⟩
def kX3 (κ : it_KK) : it_KK := it_on (it_new (it_on (it_new (it_on (it_new (κ) 0 160) 5 0) 0 160) 5 6) 0 3) 5 8
def sX3 (κ : it_KK) (S : it_SS) : it_SS := it_zero (it_zero (it_zero (S) (κ.1)) (κ.1 + 1)) (κ.1 + 1 + 1)
set_option maxHeartbeats 4000000 in
theorem L_X3_init {g : it_G} {l : Launch} {κ : it_KK} (hκ : κ.1 = 6) (hk : κ.2.1 5 = (6, 0)) {S : it_SS} {P : Option Value → it_KK → it_SS → Prop} (h : P none (kX3 κ) (sX3 κ S)) : it_Cn g l 2 it_m_X3_init [.ref 5] κ S P := by
  refine it_Cn.of (by decide +kernel) (Nat.le_of_ble_eq_true rfl) ?_
  show it_Ev g l 2 it_m_X3_init 0 0 0 [some (.ref 5)] [] κ S P
  refine ev_aload_n d_X3_init_0 rfl ?_
  refine ev_objInit d_X3_init_1 ob_IcedTooSoon_Tape_3 (Nat.le_of_ble_eq_true rfl) (by decide) ?_
  refine ev_aload_n d_X3_init_4 rfl ?_
  refine ev_sipush (v := 160) d_X3_init_5 (by decide) ?_
  have k_0 : (it_new (κ) 0 160).2.1 5 = (6, 0) := kt_new hk (by show 5 < κ.1; omega)
  refine ev_newa (N := 160) d_X3_init_8 (by decide) ar_int (by decide) (by decide) (by decide) (by decide) (by decide) ?_
  refine ev_putR (ci := 3) (k := 0) (n := 0) d_X3_init_10 (by decide) rfl fl_IcedTooSoon_Tape_9 ⟨_, rfl, rfl⟩ fw_3_0 (by show 5 < κ.1 + 1; omega) k_0 rfl (by show κ.1 = _; simp only [it_lay]; omega) rfl rfl ?_
  refine ev_aload_n d_X3_init_13 rfl ?_
  refine ev_sipush (v := 160) d_X3_init_14 (by decide) ?_
  have k_1 : (it_new (it_on (it_new (κ) 0 160) 5 0) 0 160).2.1 5 = (6, 0) := kt_new k_0 (by show 5 < κ.1 + 1; omega)
  refine ev_newa (N := 160) d_X3_init_17 (by decide) ar_int (by decide) (by decide) (by decide) (by decide) (by decide) ?_
  refine ev_putR (ci := 3) (k := 6) (n := 0) d_X3_init_19 (by decide) rfl fl_IcedTooSoon_Tape_15 ⟨_, rfl, rfl⟩ fw_3_6 (by show 5 < κ.1 + 1 + 1; omega) k_1 rfl (by show κ.1 + 1 = _; simp only [it_lay]; omega) rfl rfl ?_
  refine ev_aload_n d_X3_init_22 rfl ?_
  refine ev_iconst (v := 3) d_X3_init_23 (by decide) ?_
  have k_2 : (it_new (it_on (it_new (it_on (it_new (κ) 0 160) 5 0) 0 160) 5 6) 0 3).2.1 5 = (6, 0) := kt_new k_1 (by show 5 < κ.1 + 1 + 1; omega)
  refine ev_newa (N := 3) d_X3_init_24 (by decide) ar_int (by decide) (by decide) (by decide) (by decide) (by decide) ?_
  refine ev_putR (ci := 3) (k := 8) (n := 0) d_X3_init_26 (by decide) rfl fl_IcedTooSoon_Tape_18 ⟨_, rfl, rfl⟩ fw_3_8 (by show 5 < κ.1 + 1 + 1 + 1; omega) k_2 rfl (by show κ.1 + 1 + 1 = _; simp only [it_lay]; omega) rfl rfl ?_
  exact ev_ret (v := none) ⟨d_X3_init_29, rfl⟩ (by decide) (by decide) h
theorem ob_IcedTooSoon_Sheet_3 : Cond.methodLink "IcedTooSoon$Sheet" 3 Lib.objectInit ∈ it_tb ∧ Cond.instanceMethod Lib.objectInit ∈ it_tb ∧ Cond.code Lib.objectInit ⟨#[0xb1]⟩ 1 none ∈ it_tb := ⟨it_in_tb (List.mem_of_getElem? (i := 196) (by decide +kernel)) rfl, ob_Text_1.2⟩
def kX2 (κ : it_KK) (a : Nat) : it_KK := it_on (it_new (κ) 0 40) a 2
def sX2 (κ : it_KK) (a : Nat) (S : it_SS) : it_SS := it_zero (it_up S a 0 (-1)) κ.1
set_option maxHeartbeats 4000000 in
theorem L_X2_init {g : it_G} {l : Launch} {κ : it_KK} {a : Nat} (hκ : κ.1 = a + 1) (hk : κ.2.1 a = (5, 0)) {S : it_SS} {P : Option Value → it_KK → it_SS → Prop} (h : P none (kX2 κ a) (sX2 κ a S)) : it_Cn g l 2 it_m_X2_init [.ref a] κ S P := by
  refine it_Cn.of (by decide +kernel) (Nat.le_of_ble_eq_true rfl) ?_
  show it_Ev g l 2 it_m_X2_init 0 0 0 [some (.ref a)] [] κ S P
  refine ev_aload_n d_X2_init_0 rfl ?_
  refine ev_objInit d_X2_init_1 ob_IcedTooSoon_Sheet_3 (Nat.le_of_ble_eq_true rfl) (by decide) ?_
  refine ev_aload_n d_X2_init_4 rfl ?_
  refine ev_iconst (v := (-1)) d_X2_init_5 (by decide) ?_
  refine ev_put (ci := 2) (k := 0) (n := 0) d_X2_init_6 (by decide) fl_IcedTooSoon_Sheet_9 fw_2_0 (by show a < κ.1; omega) hk rfl rfl rfl ?_
  refine ev_aload_n d_X2_init_9 rfl ?_
  refine ev_bipush (v := 40) d_X2_init_10 (by decide) ?_
  have k_0 : (it_new (κ) 0 40).2.1 a = (5, 0) := kt_new hk (by show a < κ.1; omega)
  refine ev_newa (N := 40) d_X2_init_12 (by decide) ar_int (by decide) (by decide) (by decide) (by decide) (by decide) ?_
  refine ev_putR (ci := 2) (k := 2) (n := 0) d_X2_init_14 (by decide) rfl fl_IcedTooSoon_Sheet_15 ⟨_, rfl, rfl⟩ fw_2_2 (by show a < κ.1 + 1; omega) k_0 rfl (by show κ.1 = _; simp only [it_lay]; omega) rfl rfl ?_
  exact ev_ret (v := none) ⟨d_X2_init_17, rfl⟩ (by decide) (by decide) h
theorem e_fill {κ : it_KK} {q N : Nat} {v : Int32} (hN : N < 1000) {kont : it_SS → Option (Unit × it_SS)} : ∀ (k i f : Nat) (S : it_SS), i + k = N → k < f → (∀ j, j < i → S q j = v) → ∃ S', lp_J7_fill_53178_5 κ q N v kont f (nI i) (nI N) S = kont S' ∧ (∀ j, j < N → S' q j = v) ∧ ∀ b, b ≠ q → S' b = S b := by
  intro k
  induction k with
  | zero =>
    intro i f S hi hf h
    obtain ⟨f, rfl⟩ : ∃ m, f = m + 1 := ⟨f - 1, by omega⟩
    obtain rfl : i = N := by omega
    exact ⟨S, by rw [lp_J7_fill_53178_5, if_pos (Int32.le_refl _)], h, fun _ _ => rfl⟩
  | succ k ih =>
    intro i f S hi hf h
    obtain ⟨f, rfl⟩ : ∃ m, f = m + 1 := ⟨f - 1, by omega⟩
    rw [lp_J7_fill_53178_5, if_neg (nI_ge (by omega) (by omega)), if_pos (bd_nI (by omega) (by omega)), nI_clamp (by omega), nI_1]
    obtain ⟨S', e1, e2, e3⟩ := ih (i + 1) f (it_up S q i v) (by omega) (by omega) (fun j hj => by
      rw [it_up_eq, upd]
      by_cases e : j = i
      · rw [if_pos e]
      · rw [if_neg e]; exact h j (by omega))
    exact ⟨S', e1, e2, fun b hb => (e3 b hb).trans (it_up_ne hb)⟩
theorem ob_IcedTooSoon_House_3 : Cond.methodLink "IcedTooSoon$House" 3 Lib.objectInit ∈ it_tb ∧ Cond.instanceMethod Lib.objectInit ∈ it_tb ∧ Cond.code Lib.objectInit ⟨#[0xb1]⟩ 1 none ∈ it_tb := ⟨it_in_tb (List.mem_of_getElem? (i := 142) (by decide +kernel)) rfl, ob_Text_1.2⟩
def kX0 (κ : it_KK) (u : Nat) : it_KK := it_on (it_on (it_new (it_on (it_new (it_on (it_new (it_on (it_new (it_on (it_new (it_on (it_new (it_on (it_new (κ) 0 6) u 2) 0 6) u 3) 0 6) u 4) 0 6) u 5) 0 10) u 6) 0 10) u 7) 0 10) u 8) u 0
def sX0 (κ : it_KK) (S : it_SS) : it_SS := it_zero (it_zero (it_zero (it_zero (it_zero (it_zero (it_zero (S) (κ.1)) (κ.1 + 1)) (κ.1 + 1 + 1)) (κ.1 + 1 + 1 + 1)) (κ.1 + 1 + 1 + 1 + 1)) (κ.1 + 1 + 1 + 1 + 1 + 1)) (κ.1 + 1 + 1 + 1 + 1 + 1 + 1)
set_option maxHeartbeats 4000000 in
theorem L_X0_init {g : it_G} {l : Launch} {κ : it_KK} {u : Nat} (hκ : κ.1 = u + 1) (hk : κ.2.1 u = (3, 0)) {S : it_SS} {P : Option Value → it_KK → it_SS → Prop} (h : ∀ S' : it_SS, (∀ j, j < 10 → S' (u + 5) j = -1) → (∀ b, b ≠ u + 5 → S' b = sX0 κ S b) → P none (kX0 κ u) S') : it_Cn g l 2 it_m_X0_init [.ref u, .ref 1] κ S P := by
  refine it_Cn.of (by decide +kernel) (Nat.le_of_ble_eq_true rfl) ?_
  show it_Ev g l 2 it_m_X0_init 0 0 0 [some (.ref u), some (.ref 1)] [] κ S P
  refine ev_aload_n d_X0_init_0 rfl ?_
  refine ev_objInit d_X0_init_1 ob_IcedTooSoon_House_3 (Nat.le_of_ble_eq_true rfl) (by decide) ?_
  refine ev_aload_n d_X0_init_4 rfl ?_
  refine ev_bipush (v := 6) d_X0_init_5 (by decide) ?_
  have k_0 : (it_new (κ) 0 6).2.1 u = (3, 0) := kt_new hk (by show u < κ.1; omega)
  refine ev_newa (N := 6) d_X0_init_7 (by decide) ar_int (by decide) (by decide) (by decide) (by decide) (by decide) ?_
  refine ev_putR (ci := 0) (k := 2) (n := 0) d_X0_init_9 (by decide) rfl fl_IcedTooSoon_House_9 ⟨_, rfl, rfl⟩ fw_0_2 (by show u < κ.1 + 1; omega) k_0 rfl (by show κ.1 = _; simp only [it_lay]; omega) rfl rfl ?_
  refine ev_aload_n d_X0_init_12 rfl ?_
  refine ev_bipush (v := 6) d_X0_init_13 (by decide) ?_
  have k_1 : (it_new (it_on (it_new (κ) 0 6) u 2) 0 6).2.1 u = (3, 0) := kt_new k_0 (by show u < κ.1 + 1; omega)
  refine ev_newa (N := 6) d_X0_init_15 (by decide) ar_int (by decide) (by decide) (by decide) (by decide) (by decide) ?_
  refine ev_putR (ci := 0) (k := 3) (n := 0) d_X0_init_17 (by decide) rfl fl_IcedTooSoon_House_15 ⟨_, rfl, rfl⟩ fw_0_3 (by show u < κ.1 + 1 + 1; omega) k_1 rfl (by show κ.1 + 1 = _; simp only [it_lay]; omega) rfl rfl ?_
  refine ev_aload_n d_X0_init_20 rfl ?_
  refine ev_bipush (v := 6) d_X0_init_21 (by decide) ?_
  have k_2 : (it_new (it_on (it_new (it_on (it_new (κ) 0 6) u 2) 0 6) u 3) 0 6).2.1 u = (3, 0) := kt_new k_1 (by show u < κ.1 + 1 + 1; omega)
  refine ev_newa (N := 6) d_X0_init_23 (by decide) ar_int (by decide) (by decide) (by decide) (by decide) (by decide) ?_
  refine ev_putR (ci := 0) (k := 4) (n := 0) d_X0_init_25 (by decide) rfl fl_IcedTooSoon_House_18 ⟨_, rfl, rfl⟩ fw_0_4 (by show u < κ.1 + 1 + 1 + 1; omega) k_2 rfl (by show κ.1 + 1 + 1 = _; simp only [it_lay]; omega) rfl rfl ?_
  refine ev_aload_n d_X0_init_28 rfl ?_
  refine ev_bipush (v := 6) d_X0_init_29 (by decide) ?_
  have k_3 : (it_new (it_on (it_new (it_on (it_new (it_on (it_new (κ) 0 6) u 2) 0 6) u 3) 0 6) u 4) 0 6).2.1 u = (3, 0) := kt_new k_2 (by show u < κ.1 + 1 + 1 + 1; omega)
  refine ev_newa (N := 6) d_X0_init_31 (by decide) ar_int (by decide) (by decide) (by decide) (by decide) (by decide) ?_
  refine ev_putR (ci := 0) (k := 5) (n := 0) d_X0_init_33 (by decide) rfl fl_IcedTooSoon_House_21 ⟨_, rfl, rfl⟩ fw_0_5 (by show u < κ.1 + 1 + 1 + 1 + 1; omega) k_3 rfl (by show κ.1 + 1 + 1 + 1 = _; simp only [it_lay]; omega) rfl rfl ?_
  refine ev_aload_n d_X0_init_36 rfl ?_
  refine ev_bipush (v := 10) d_X0_init_37 (by decide) ?_
  have k_4 : (it_new (it_on (it_new (it_on (it_new (it_on (it_new (it_on (it_new (κ) 0 6) u 2) 0 6) u 3) 0 6) u 4) 0 6) u 5) 0 10).2.1 u = (3, 0) := kt_new k_3 (by show u < κ.1 + 1 + 1 + 1 + 1; omega)
  refine ev_newa (N := 10) d_X0_init_39 (by decide) ar_int (by decide) (by decide) (by decide) (by decide) (by decide) ?_
  refine ev_putR (ci := 0) (k := 6) (n := 0) d_X0_init_41 (by decide) rfl fl_IcedTooSoon_House_24 ⟨_, rfl, rfl⟩ fw_0_6 (by show u < κ.1 + 1 + 1 + 1 + 1 + 1; omega) k_4 rfl (by show κ.1 + 1 + 1 + 1 + 1 = _; simp only [it_lay]; omega) rfl rfl ?_
  refine ev_aload_n d_X0_init_44 rfl ?_
  refine ev_bipush (v := 10) d_X0_init_45 (by decide) ?_
  have k_5 : (it_new (it_on (it_new (it_on (it_new (it_on (it_new (it_on (it_new (it_on (it_new (κ) 0 6) u 2) 0 6) u 3) 0 6) u 4) 0 6) u 5) 0 10) u 6) 0 10).2.1 u = (3, 0) := kt_new k_4 (by show u < κ.1 + 1 + 1 + 1 + 1 + 1; omega)
  refine ev_newa (N := 10) d_X0_init_47 (by decide) ar_int (by decide) (by decide) (by decide) (by decide) (by decide) ?_
  refine ev_putR (ci := 0) (k := 7) (n := 0) d_X0_init_49 (by decide) rfl fl_IcedTooSoon_House_27 ⟨_, rfl, rfl⟩ fw_0_7 (by show u < κ.1 + 1 + 1 + 1 + 1 + 1 + 1; omega) k_5 rfl (by show κ.1 + 1 + 1 + 1 + 1 + 1 = _; simp only [it_lay]; omega) rfl rfl ?_
  refine ev_aload_n d_X0_init_52 rfl ?_
  refine ev_bipush (v := 10) d_X0_init_53 (by decide) ?_
  have k_6 : (it_new (it_on (it_new (it_on (it_new (it_on (it_new (it_on (it_new (it_on (it_new (it_on (it_new (κ) 0 6) u 2) 0 6) u 3) 0 6) u 4) 0 6) u 5) 0 10) u 6) 0 10) u 7) 0 10).2.1 u = (3, 0) := kt_new k_5 (by show u < κ.1 + 1 + 1 + 1 + 1 + 1 + 1; omega)
  refine ev_newa (N := 10) d_X0_init_55 (by decide) ar_int (by decide) (by decide) (by decide) (by decide) (by decide) ?_
  refine ev_putR (ci := 0) (k := 8) (n := 0) d_X0_init_57 (by decide) rfl fl_IcedTooSoon_House_30 ⟨_, rfl, rfl⟩ fw_0_8 (by show u < κ.1 + 1 + 1 + 1 + 1 + 1 + 1 + 1; omega) k_6 rfl (by show κ.1 + 1 + 1 + 1 + 1 + 1 + 1 = _; simp only [it_lay]; omega) rfl rfl ?_
  refine ev_aload_n d_X0_init_60 rfl ?_
  refine ev_aload_n d_X0_init_61 rfl ?_
  refine ev_putR (ci := 0) (k := 0) (n := 0) d_X0_init_62 (by decide) rfl fl_IcedTooSoon_House_33 ⟨_, rfl, rfl⟩ fw_0_0 (by show u < κ.1 + 1 + 1 + 1 + 1 + 1 + 1 + 1; omega) k_6 rfl rfl rfl rfl ?_
  have ob : it_ob (it_on (it_on (it_new (it_on (it_new (it_on (it_new (it_on (it_new (it_on (it_new (it_on (it_new (it_on (it_new (κ) 0 6) u 2) 0 6) u 3) 0 6) u 4) 0 6) u 5) 0 10) u 6) 0 10) u 7) 0 10) u 8) u 0) u 0 := by
    refine ⟨by show u < κ.1 + 1 + 1 + 1 + 1 + 1 + 1 + 1; omega, k_6, fun q hq => ?_⟩
    match q, hq with
    | 0, _ => exact on_self
    | 1, hq => cases hq
    | 2, _ => exact fl_on (fl_on (fl_new (by show u < κ.1 + 1 + 1 + 1 + 1 + 1 + 1; omega) (fl_on (fl_new (by show u < κ.1 + 1 + 1 + 1 + 1 + 1; omega) (fl_on (fl_new (by show u < κ.1 + 1 + 1 + 1 + 1; omega) (fl_on (fl_new (by show u < κ.1 + 1 + 1 + 1; omega) (fl_on (fl_new (by show u < κ.1 + 1 + 1; omega) (fl_on (fl_new (by show u < κ.1 + 1; omega) (on_self)))))))))))))
    | 3, _ => exact fl_on (fl_on (fl_new (by show u < κ.1 + 1 + 1 + 1 + 1 + 1 + 1; omega) (fl_on (fl_new (by show u < κ.1 + 1 + 1 + 1 + 1 + 1; omega) (fl_on (fl_new (by show u < κ.1 + 1 + 1 + 1 + 1; omega) (fl_on (fl_new (by show u < κ.1 + 1 + 1 + 1; omega) (fl_on (fl_new (by show u < κ.1 + 1 + 1; omega) (on_self)))))))))))
    | 4, _ => exact fl_on (fl_on (fl_new (by show u < κ.1 + 1 + 1 + 1 + 1 + 1 + 1; omega) (fl_on (fl_new (by show u < κ.1 + 1 + 1 + 1 + 1 + 1; omega) (fl_on (fl_new (by show u < κ.1 + 1 + 1 + 1 + 1; omega) (fl_on (fl_new (by show u < κ.1 + 1 + 1 + 1; omega) (on_self)))))))))
    | 5, _ => exact fl_on (fl_on (fl_new (by show u < κ.1 + 1 + 1 + 1 + 1 + 1 + 1; omega) (fl_on (fl_new (by show u < κ.1 + 1 + 1 + 1 + 1 + 1; omega) (fl_on (fl_new (by show u < κ.1 + 1 + 1 + 1 + 1; omega) (on_self)))))))
    | 6, _ => exact fl_on (fl_on (fl_new (by show u < κ.1 + 1 + 1 + 1 + 1 + 1 + 1; omega) (fl_on (fl_new (by show u < κ.1 + 1 + 1 + 1 + 1 + 1; omega) (on_self)))))
    | 7, _ => exact fl_on (fl_on (fl_new (by show u < κ.1 + 1 + 1 + 1 + 1 + 1 + 1; omega) (on_self)))
    | 8, _ => exact fl_on (on_self)
    | 9, hq => cases hq
    | 10, hq => cases hq
    | q + 11, hq => simp [it_mask] at hq
  refine ev_aload_n d_X0_init_65 rfl ?_
  refine ev_getRr (r := u + 5) rfl d_X0_init_66 fl_IcedTooSoon_House_24 ob rfl ?_
  refine ev_iconst (v := -1) d_X0_init_69 (by decide) ?_
  have ar : it_ar (it_on (it_on (it_new (it_on (it_new (it_on (it_new (it_on (it_new (it_on (it_new (it_on (it_new (it_on (it_new (κ) 0 6) u 2) 0 6) u 3) 0 6) u 4) 0 6) u 5) 0 10) u 6) 0 10) u 7) 0 10) u 8) u 0) (u + 5) 10 := ⟨by show u + 5 < κ.1 + 1 + 1 + 1 + 1 + 1 + 1 + 1; omega, by simp [it_on, it_new, hκ]⟩
  obtain ⟨S1, f1, f2, f3⟩ := e_fill (κ := it_on (it_on (it_new (it_on (it_new (it_on (it_new (it_on (it_new (it_on (it_new (it_on (it_new (it_on (it_new (κ) 0 6) u 2) 0 6) u 3) 0 6) u 4) 0 6) u 5) 0 10) u 6) 0 10) u 7) 0 10) u 8) u 0) (q := u + 5) (N := 10) (v := -1) (by decide) (kont := fun S3 => some ((), S3)) 10 0 it_FU (sX0 κ S) rfl (by decide) (fun j hj => absurd hj (Nat.not_lt_zero _))
  refine ev_callS (M' := it_m_J7_fill_53178) (d' := 1) (As := [.ref (u + 5), .int (-1)]) d_X0_init_70 ml_IcedTooSoon_House_37 rfl rfl (Nat.le_of_ble_eq_true rfl) (by decide) (by decide) (by decide) (L_J7_fill_53178 ar (P := fun _ S' => S' = S1) ⟨(), S1, by rw [f_J7_fill_53178]; exact f1, rfl⟩) (fun _ _ _ _ q => by cases q.1; rfl) ?_
  rintro _ _ _ ⟨rfl, rfl, rfl⟩
  exact ev_ret (v := none) ⟨d_X0_init_73, rfl⟩ (by decide) (by decide) (h _ f2 f3)
