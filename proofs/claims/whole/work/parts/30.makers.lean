theorem it_new_ar {κ : it_KK} {t n q N : Nat} (h : it_ar κ q N) : it_ar (it_new κ t n) q N := ⟨Nat.lt_succ_of_lt h.1, by
  have : q ≠ κ.1 := Nat.ne_of_lt h.1
  simp [it_new, this, h.2]⟩
theorem it_new_ob {κ : it_KK} {t n q ci : Nat} (h : it_ob κ q ci) : it_ob (it_new κ t n) q ci := ⟨Nat.lt_succ_of_lt h.1, by
  have : q ≠ κ.1 := Nat.ne_of_lt h.1
  simp [it_new, this, h.2.1], fun k hk => by
  have : q ≠ κ.1 := Nat.ne_of_lt h.1
  simp [it_new, this, h.2.2 k hk]⟩
theorem it_new_at (κ : it_KK) (n : Nat) : it_ar (it_new κ 0 n) κ.1 n := ⟨Nat.lt_succ_self _, by simp [it_new]⟩
theorem cl_Arrays_317 : Cond.classLink "java/util/Arrays" 317 "[I" ∈ it_tb := it_in_tb (List.mem_of_getElem? (i := 395) (by decide +kernel)) rfl
theorem cn_Arrays_316 : Cond.methodLink "java/util/Arrays" 316 ⟨"[I", "clone", "()Ljava/lang/Object;"⟩ ∈ it_tb ∧ Cond.sameMethod "[I" "java/lang/Object" "clone" "()Ljava/lang/Object;" ∈ it_tb ∧ Cond.native ⟨"java/lang/Object", "clone", "()Ljava/lang/Object;"⟩ ∈ it_tb ∧ Cond.instanceMethod ⟨"java/lang/Object", "clone", "()Ljava/lang/Object;"⟩ ∈ it_tb ∧ Cond.selects "[I" ⟨"[I", "clone", "()Ljava/lang/Object;"⟩ ⟨"java/lang/Object", "clone", "()Ljava/lang/Object;"⟩ ∈ it_tb := ⟨it_in_tb (List.mem_of_getElem? (i := 389) (by decide +kernel)) rfl, it_in_tb (List.mem_of_getElem? (i := 390) (by decide +kernel)) rfl, it_in_tb (List.mem_of_getElem? (i := 391) (by decide +kernel)) rfl, it_in_tb (List.mem_of_getElem? (i := 392) (by decide +kernel)) rfl, it_in_tb (List.mem_of_getElem? (i := 393) (by decide +kernel)) rfl⟩
theorem cp_Arrays_150 : Cond.methodLink "java/util/Arrays" 150 arraycopyName ∈ it_tb ∧ Cond.native arraycopyName ∈ it_tb ∧ Cond.static arraycopyName ∈ it_tb ∧ Cond.initialized "java/lang/System" ∈ it_tb := ⟨it_in_tb (List.mem_of_getElem? (i := 397) (by decide +kernel)) rfl, it_in_tb (List.mem_of_getElem? (i := 399) (by decide +kernel)) rfl, it_in_tb (List.mem_of_getElem? (i := 398) (by decide +kernel)) rfl, it_in_tb (List.mem_of_getElem? (i := 67) (by decide +kernel)) rfl⟩
abbrev it_mcp (ms : Nat) : it_M := (it_m_J7_copyOf_59c91.1, it_m_J7_copyOf_59c91.2.1, it_m_J7_copyOf_59c91.2.2.1, it_m_J7_copyOf_59c91.2.2.2.1, 1, ms)
set_option maxHeartbeats 4000000 in
theorem L_copyOf {ms : Nat} {g : it_G} {l : Launch} {κ : it_KK} {q N0 N : Nat} {x1 : Int32} (hq : it_ar κ q N0) (hn : ¬ x1 < 0) (hN : x1.toNatClampNeg = N) (hle : N ≤ N0) (h160 : N0 ≤ 160) (hms : N0 ≤ ms) {S : it_SS} {P : Option Value → it_KK → it_SS → Prop} (h : ∀ S' : it_SS, (∀ j, j < N → S' κ.1 j = S q j) → (∀ b, b ≠ κ.1 → S' b = S b) → P (some (.ref κ.1)) (it_new κ 0 N) S') : it_Cn g l 2 (it_mcp ms) [.ref q, .int x1] κ S P := by
  refine it_Cn.of (by show plainName "java/util/Arrays" = true; decide +kernel) (Nat.le_of_ble_eq_true rfl) ?_
  show it_Ev g l 2 (it_mcp ms) 0 0 0 [some (.ref q), some (.int x1), none] [] κ S P
  have hqn : q ≠ κ.1 := Nat.ne_of_lt hq.1
  have hx1 : x1 = nI N := by
    obtain ⟨j, hj, rfl⟩ := nI_of hn
    rw [nI_clamp hj] at hN
    rw [hN]
  refine ev_iload_n d_J7_copyOf_59c91_0 rfl ?_
  refine ev_aload_n d_J7_copyOf_59c91_1 rfl ?_
  refine ev_alen d_J7_copyOf_59c91_2 hq ?_
  refine ev_icmp_ne (tgt := 14) d_J7_copyOf_59c91_3 (by decide) (fun hc => ?_) (fun hc => ?_)
  · have hlt : N < N0 := by
      rcases Nat.lt_or_ge N N0 with h1 | h1
      · exact h1
      · have : N = N0 := by omega
        subst this
        exact absurd hx1 hc
    refine ev_iload_n d_J7_copyOf_59c91_14 rfl ?_
    refine ev_newa d_J7_copyOf_59c91_15 (by decide) ar_int hn hN (by omega) (Nat.le_refl 1) (by show 0 + N ≤ ms; omega) ?_
    refine ev_astore_n d_J7_copyOf_59c91_17 (by show 2 < 3; decide) ?_
    show it_Ev g l 2 (it_mcp ms) (0 + 1) (0 + N) 18 [some (.ref q), some (.int x1), some (.ref κ.1)] [] (it_new κ 0 N) (it_zero S κ.1) P
    refine ev_aload_n d_J7_copyOf_59c91_18 rfl ?_
    refine ev_iconst d_J7_copyOf_59c91_19 kv_iconst_0 ?_
    refine ev_aload_n d_J7_copyOf_59c91_20 rfl ?_
    refine ev_iconst d_J7_copyOf_59c91_21 kv_iconst_0 ?_
    refine ev_aload_n d_J7_copyOf_59c91_22 rfl ?_
    refine ev_alen d_J7_copyOf_59c91_23 (it_new_ar hq) ?_
    refine ev_iload_n d_J7_copyOf_59c91_24 rfl ?_
    refine ev_mmin d_J7_copyOf_59c91_25 mp_java_util_Arrays_304 (by decide) (Nat.le_of_ble_eq_true rfl) (Nat.le_refl 1) (by show 0 + N ≤ ms; omega) ?_
    have hmin : (if x1 < Int32.ofNat N0 then x1 else Int32.ofNat N0) = x1 := if_pos (by rw [hx1]; exact nI_lt hlt (by omega))
    rw [hmin]
    refine ev_copy (n0 := N0) (n1 := N) d_J7_copyOf_59c91_28 (by decide) (by decide) (Nat.le_of_ble_eq_true rfl) cp_Arrays_150 (it_new_ar hq) (it_new_at κ N) (by decide) (by decide) hn (by rw [hN]; show 0 + N ≤ N0; omega) (by rw [hN]; show 0 + N ≤ N; omega) ?_
    refine ev_aload_n d_J7_copyOf_59c91_31 rfl ?_
    refine ev_ret (v := some (.ref _)) ⟨d_J7_copyOf_59c91_32, _, rfl, Or.inr ⟨_, rfl⟩⟩ (Nat.le_refl 1) (by show 0 + N ≤ ms; omega) (h _ (fun j hj => ?_) (fun b hb => ?_))
    · rw [hN]
      have : (0 : Int32).toNatClampNeg = 0 := by decide
      simp [it_cpy, va_cpy, this, hj, it_zero, hqn]
    · simp [it_cpy, it_zero, hb]
  · have hNN : N = N0 := by
      have h1 : nI N = nI N0 := hx1.symm.trans hc
      exact (nI_eq (by omega) (by omega)).mp h1
    subst hNN
    refine ev_aload_n d_J7_copyOf_59c91_6 rfl ?_
    refine ev_clone d_J7_copyOf_59c91_7 (by decide) (by decide) (Nat.le_of_ble_eq_true rfl) cn_Arrays_316 hq (Nat.le_refl 1) (by show 0 + N ≤ ms; omega) ?_
    refine ev_castA d_J7_copyOf_59c91_10 cl_Arrays_317 (it_new_at κ N) ?_
    exact ev_ret (v := some (.ref _)) ⟨d_J7_copyOf_59c91_13, _, rfl, Or.inr ⟨_, rfl⟩⟩ (Nat.le_refl 1) (by show 0 + N ≤ ms; omega) (h _ (fun j hj => by simp [it_dupl]) (fun b hb => by simp [it_dupl, hb]))
theorem ob_Text_1 : Cond.methodLink "IcedTooSoon$Text" 1 Lib.objectInit ∈ it_tb ∧ Cond.instanceMethod Lib.objectInit ∈ it_tb ∧ Cond.code Lib.objectInit ⟨#[0xb1]⟩ 1 none ∈ it_tb := ⟨it_in_tb (List.mem_of_getElem? (i := 403) (by decide +kernel)) rfl, it_in_tb (List.mem_of_getElem? (i := 76) (by decide +kernel)) rfl, it_in_tb (List.mem_of_getElem? (i := 77) (by decide +kernel)) rfl⟩
set_option maxHeartbeats 4000000 in
theorem L_X4_init {g : it_G} {l : Launch} {κ : it_KK} {a : Nat} (ha : a < κ.1) (hk : κ.2.1 a = (7, 0)) {S : it_SS} {P : Option Value → it_KK → it_SS → Prop} (h : P none (it_on (it_on κ a 0) a 1) S) : it_Cn g l 1 it_m_X4_init [.ref a, .ref (a + 1), .ref (a + 2)] κ S P := by
  refine it_Cn.of (by decide +kernel) (Nat.le_of_ble_eq_true rfl) ?_
  show it_Ev g l 1 it_m_X4_init 0 0 0 [some (.ref a), some (.ref (a + 1)), some (.ref (a + 2))] [] κ S P
  refine ev_aload_n d_X4_init_0 rfl ?_
  refine ev_objInit d_X4_init_1 ob_Text_1 (Nat.le_of_ble_eq_true rfl) (by decide) ?_
  refine ev_aload_n d_X4_init_4 rfl ?_
  refine ev_aload_n d_X4_init_5 rfl ?_
  refine ev_putR (ci := 4) (k := 0) (n := 0) d_X4_init_6 (by decide) rfl fl_IcedTooSoon_Text_7 ⟨_, rfl, rfl⟩ fw_4_0 ha hk rfl rfl rfl rfl ?_
  refine ev_aload_n d_X4_init_9 rfl ?_
  refine ev_aload_n d_X4_init_10 rfl ?_
  refine ev_putR (ci := 4) (k := 1) (n := 0) d_X4_init_11 (by decide) rfl fl_IcedTooSoon_Text_13 ⟨_, rfl, rfl⟩ fw_4_1 ha hk rfl rfl rfl rfl ?_
  exact ev_ret (v := none) ⟨d_X4_init_14, rfl⟩ (by decide) (by decide) h
theorem it_nw_Tape_25 : it_nw "IcedTooSoon$Tape" 25 4 := ⟨it_R4, it_F4, 2, it_t4, rfl, it_j4, it_y4, it_in_tb (List.mem_of_getElem? (i := 384) (by decide +kernel)) rfl, it_in_tb (List.mem_of_getElem? (i := 385) (by decide +kernel)) rfl, in_IcedTooSoon_Text, by
  intro k r h
  match k, h with
  | 0, h => cases h; rfl
  | 1, h => cases h; rfl
  | k + 2, h => simp [it_mask] at h, rfl⟩
/-- how the cells are behind written(): a text, its code of N, its three ends -/
def it_wr (κ : it_KK) (N : Nat) : it_KK := it_on (it_on (it_new (it_new (it_new κ 7 0) 0 N) 0 3) κ.1 0) κ.1 1
set_option maxHeartbeats 4000000 in
theorem L_X3_written {g : it_G} {l : Launch} {κ : it_KK} (ht : it_wt κ) {S : it_SS} {N : Nat} (hN : N ≤ 160) (hc : S 5 7 = nI N) {P : Option Value → it_KK → it_SS → Prop} (h : ∀ S' : it_SS, (∀ j, j < N → S' (κ.1 + 1) j = S 7 j) → (∀ j, j < 3 → S' (κ.1 + 2) j = S 8 j) → (∀ b, b < κ.1 → S' b = S b) → P (some (.ref κ.1)) (it_wr κ N) S') : it_Cn g l 3 it_m_X3_written [.ref 5] κ S P := by
  refine it_Cn.of (by decide +kernel) (Nat.le_of_ble_eq_true rfl) ?_
  show it_Ev g l 3 it_m_X3_written 0 0 0 [some (.ref 5)] [] κ S P
  have h5 : 5 < κ.1 := ht.1.1
  have h7 : 7 < κ.1 := ht.2.2.1.1
  have h8 : 8 < κ.1 := ht.2.2.2.1
  refine ev_new (N := 2) d_X3_written_0 (by decide) it_nw_Tape_25 rfl (by decide) (by decide) ?_
  refine ev_dup d_X3_written_3 rfl ?_
  refine ev_aload_n d_X3_written_4 rfl ?_
  refine ev_getRr (r := 7) rfl d_X3_written_5 fl_IcedTooSoon_Tape_15 (it_new_ob ht.1) rfl ?_
  refine ev_aload_n d_X3_written_8 rfl ?_
  refine ev_getI d_X3_written_9 fl_IcedTooSoon_Tape_27 (it_new_ob ht.1) rfl ?_
  have e1 : it_zero S κ.1 5 7 = nI N := by rw [← hc]; simp [it_zero, Nat.ne_of_lt h5]
  rw [e1]
  refine ev_callS (M' := it_mcp 160) (d' := 2) (As := [.ref 7, .int (nI N)]) d_X3_written_12 ml_IcedTooSoon_Tape_30 rfl rfl (Nat.le_of_ble_eq_true rfl) (by decide) (by decide) (by decide) (L_copyOf (N := N) (P := fun v κ' S' => v = some (.ref (κ.1 + 1)) ∧ κ' = it_new (it_new κ 7 0) 0 N ∧ (∀ j, j < N → S' (κ.1 + 1) j = S 7 j) ∧ ∀ b, b < κ.1 → S' b = S b) (it_new_ar ht.2.2.1) (nI_pos (by omega)) (nI_clamp (by omega)) hN (by omega) (by omega) (fun S' h1 h2 => ⟨rfl, rfl, fun j hj => ?_, fun b hb => ?_⟩)) (fun _ v κ' S' q => by rw [q.2.1]; rfl) ?_
  · rw [show κ.1 + 1 = (it_new κ 7 0).1 from rfl, h1 j hj]
    simp [it_zero, Nat.ne_of_lt h7]
  · rw [h2 b (by show b ≠ κ.1 + 1; omega)]
    simp [it_zero, Nat.ne_of_lt hb]
  · rintro v κ1 S1 ⟨rfl, rfl, q1, q2⟩
    show it_Ev g l 3 it_m_X3_written (0 + 1 + 1) (0 + 2 + 160) 15 [some (.ref 5)] [.ref (κ.1 + 1), .ref κ.1, .ref κ.1] (it_new (it_new κ 7 0) 0 N) S1 P
    refine ev_aload_n d_X3_written_15 rfl ?_
    refine ev_getRr (r := 8) rfl d_X3_written_16 fl_IcedTooSoon_Tape_18 (it_new_ob (it_new_ob ht.1)) rfl ?_
    refine ev_aload_n d_X3_written_19 rfl ?_
    refine ev_getRr (r := 8) rfl d_X3_written_20 fl_IcedTooSoon_Tape_18 (it_new_ob (it_new_ob ht.1)) rfl ?_
    refine ev_alen d_X3_written_23 (it_new_ar (it_new_ar ht.2.2.2)) ?_
    refine ev_callS (M' := it_mcp 3) (d' := 2) (As := [.ref 8, .int (nI 3)]) d_X3_written_24 ml_IcedTooSoon_Tape_30 rfl rfl (Nat.le_of_ble_eq_true rfl) (by decide) (by decide) (by decide) (L_copyOf (N := 3) (P := fun v κ' S' => v = some (.ref (κ.1 + 2)) ∧ κ' = it_new (it_new (it_new κ 7 0) 0 N) 0 3 ∧ (∀ j, j < 3 → S' (κ.1 + 2) j = S1 8 j) ∧ ∀ b, b ≠ κ.1 + 2 → S' b = S1 b) (it_new_ar (it_new_ar ht.2.2.2)) (by decide) (by decide) (by decide) (by decide) (by decide) (fun S' h1 h2 => ⟨rfl, rfl, h1, h2⟩)) (fun _ v κ' S' q => by rw [q.2.1]; rfl) ?_
    rintro v κ2 S2 ⟨rfl, rfl, q3, q4⟩
    show it_Ev g l 3 it_m_X3_written (0 + 1 + 1 + 1) (0 + 2 + 160 + 3) 27 [some (.ref 5)] [.ref (κ.1 + 2), .ref (κ.1 + 1), .ref κ.1, .ref κ.1] (it_new (it_new (it_new κ 7 0) 0 N) 0 3) S2 P
    refine ev_callI (M' := it_m_X4_init) (d' := 1) (b := κ.1) (As := [.ref (κ.1 + 1), .ref (κ.1 + 2)]) d_X3_written_27 ml_IcedTooSoon_Tape_36 rfl rfl (Nat.le_of_ble_eq_true rfl) (by decide) (by decide) (by decide) (L_X4_init (P := fun v κ' S' => v = none ∧ κ' = it_wr κ N ∧ S' = S2) (by show κ.1 < κ.1 + 1 + 1 + 1; omega) (by simp [it_new]; omega) ⟨rfl, rfl, rfl⟩) (fun _ v κ' S' q => by rw [q.2.1]; rfl) ?_
    rintro v κ3 S3 ⟨rfl, rfl, rfl⟩
    refine ev_ret (v := some (.ref _)) ⟨d_X3_written_30, _, rfl, Or.inl ⟨_, rfl⟩⟩ (by decide) (by decide) (h _ (fun j hj => ?_) (fun j hj => ?_) (fun b hb => ?_))
    · rw [q4 _ (by omega), q1 j hj]
    · rw [q3 j hj, q2 8 h8]
    · rw [q4 b (by omega), q2 b hb]
theorem it_el_lt {T : Nat} (h : T < 6) : it_el 1 T < 1000 := by
  cases T with
  | zero => decide
  | succ n => show 65 + 3 * n < 1000; omega
set_option maxHeartbeats 4000000 in
/-- add(): the text is the next one -/
theorem L_X1_add {g : it_G} {l : Launch} {κ : it_KK} (h1 : it_ob κ 1 1) (h2 : it_rr κ 2 1 6) {a T : Nat} (ha : a < κ.1) (hk : κ.2.1 a = (7, 0)) {S : it_SS} (hT : T < 6) (hS : S 1 3 = nI T) (he : a = it_el 1 T) {P : Option Value → it_KK → it_SS → Prop} (h : P (some (.int (nI T))) (it_on κ 2 T) (it_up S 1 3 (nI (T + 1)))) : it_Cn g l 1 it_m_X1_add [.ref 1, .ref a] κ S P := by
  refine it_Cn.of (by decide +kernel) (Nat.le_of_ble_eq_true rfl) ?_
  show it_Ev g l 1 it_m_X1_add 0 0 0 [some (.ref 1), some (.ref a)] [] κ S P
  have hTc : (nI T).toNatClampNeg = T := nI_clamp (by omega)
  refine ev_aload_n d_X1_add_0 rfl ?_
  refine ev_getI d_X1_add_1 fl_IcedTooSoon_Lawbook_26 h1 rfl ?_
  rw [hS]
  refine ev_bipush d_X1_add_4 kv_bipush_6 ?_
  refine ev_icmp_lt (tgt := 12) d_X1_add_6 (by decide) (fun _ => ?_) (fun hc => absurd (nI_lt (b := 6) hT (by decide)) hc)
  refine ev_aload_n d_X1_add_12 rfl ?_
  refine ev_getRr (r := 2) rfl d_X1_add_13 fl_IcedTooSoon_Lawbook_11 h1 rfl ?_
  refine ev_aload_n d_X1_add_16 rfl ?_
  refine ev_getI d_X1_add_17 fl_IcedTooSoon_Lawbook_26 h1 rfl ?_
  rw [hS]
  refine ev_aload_n d_X1_add_20 rfl ?_
  refine ev_aast (t := 1) (n := 6) d_X1_add_21 (by decide) h2 (vp_in_nI hT (by decide)) ha hk (by rw [hTc]; exact he) ?_
  rw [hTc]
  have h3 : it_ob (it_on κ 2 T) 1 1 := ⟨h1.1, h1.2.1, fun k hk => by simp [it_on, h1.2.2 k hk]⟩
  refine ev_aload_n d_X1_add_22 rfl ?_
  refine ev_dup d_X1_add_23 rfl ?_
  refine ev_getI d_X1_add_24 fl_IcedTooSoon_Lawbook_26 h3 rfl ?_
  refine ev_iconst d_X1_add_27 kv_iconst_1 ?_
  refine ev_iadd d_X1_add_28 ?_
  refine ev_putI d_X1_add_29 (by decide) fl_IcedTooSoon_Lawbook_26 fw_1_3 h3 rfl ?_
  refine ev_aload_n d_X1_add_32 rfl ?_
  refine ev_getI d_X1_add_33 fl_IcedTooSoon_Lawbook_26 h3 rfl ?_
  refine ev_iconst d_X1_add_36 kv_iconst_1 ?_
  refine ev_isub d_X1_add_37 ?_
  have e1 : S 1 3 + 1 = nI (T + 1) := by rw [hS]; exact (nI_succ T).symm
  rw [e1]
  have e2 : it_up S 1 3 (nI (T + 1)) 1 3 - 1 = nI T := by simp [it_up, upd, nI_pred]
  rw [e2]
  exact ev_ret (v := some (.int _)) ⟨d_X1_add_38, _, rfl, rfl⟩ (by decide) (by decide) h
/-- how the cells are behind text() when it has come through -/
def it_tk (κ : it_KK) (N T : Nat) : it_KK := it_on (it_wr κ N) 2 T
theorem it_wr_ob {κ : it_KK} {N q ci : Nat} (h : it_ob κ q ci) : it_ob (it_wr κ N) q ci := by
  have h1 := it_new_ob (t := 0) (n := 3) (it_new_ob (t := 0) (n := N) (it_new_ob (t := 7) (n := 0) h))
  exact ⟨h1.1, h1.2.1, fun k hk => by
    have := h1.2.2 k hk
    simp [it_wr, it_on, this]⟩
theorem it_wr_ar {κ : it_KK} {N q n : Nat} (h : it_ar κ q n) : it_ar (it_wr κ N) q n := it_new_ar (t := 0) (n := 3) (it_new_ar (t := 0) (n := N) (it_new_ar (t := 7) (n := 0) h))
theorem it_wr_rr {κ : it_KK} {N q t n : Nat} (h : it_rr κ q t n) : it_rr (it_wr κ N) q t n := by
  obtain ⟨h1, h2, h3⟩ := h
  refine ⟨by show q < κ.1 + 1 + 1 + 1; omega, ?_, h3⟩
  have e1 : q ≠ κ.1 := by omega
  have e2 : q ≠ κ.1 + 1 := by omega
  have e3 : q ≠ κ.1 + 1 + 1 := by omega
  simp [it_wr, it_on, it_new, e1, e2, e3, h2]
theorem it_tk_ob {κ : it_KK} {N T q ci : Nat} (h : it_ob κ q ci) : it_ob (it_tk κ N T) q ci := by
  have h1 := it_wr_ob (N := N) h
  exact ⟨h1.1, h1.2.1, fun k hk => by
    have := h1.2.2 k hk
    simp [it_tk, it_on, this]⟩
theorem it_tk_ar {κ : it_KK} {N T q n : Nat} (h : it_ar κ q n) : it_ar (it_tk κ N T) q n := it_wr_ar h
set_option maxHeartbeats 4000000 in
theorem L_X5_text_full {g : it_G} {l : Launch} {κ : it_KK} (hx : it_wx κ) {S : it_SS} (h6 : ¬ S 1 3 < 6) {P : Option Value → it_KK → it_SS → Prop} (h : P (some (.int (-4))) κ S) : it_Cn g l 70 it_m_X5_text [.ref 0] κ S P := by
  refine it_Cn.of (by decide +kernel) (Nat.le_of_ble_eq_true rfl) ?_
  show it_Ev g l 70 it_m_X5_text 0 0 0 [some (.ref 0), none] [] κ S P
  refine ev_aload_n d_X5_text_0 rfl ?_
  refine ev_getRr (r := 1) rfl d_X5_text_1 fl_IcedTooSoon_10 hx.1 rfl ?_
  refine ev_getI d_X5_text_4 fl_IcedTooSoon_89 hx.2.1.1 rfl ?_
  refine ev_bipush d_X5_text_7 kv_bipush_6 ?_
  refine ev_icmp_lt (tgt := 15) d_X5_text_9 (by decide) (fun hc => absurd hc h6) (fun _ => ?_)
  refine ev_bipush d_X5_text_12 kv_bipush_m4 ?_
  exact ev_ret (v := some (.int _)) ⟨d_X5_text_14, _, rfl, rfl⟩ (by decide) (by decide) h
set_option maxHeartbeats 4000000 in
/-- text(): what isRead() answers and leaves decides -/
theorem L_X5_text {g : it_G} {l : Launch} {κ : it_KK} (hx : it_wx κ) {S : it_SS} {T : Nat} (hT : T < 6) (hS : S 1 3 = nI T) (hn : κ.1 = it_el 1 T) {P : Option Value → it_KK → it_SS → Prop}
    (h : it_ok (f_X3_isRead κ S) (fun r S1 => if r = 0 then P (some (.int (-100 - S1 5 5))) κ (it_up S1 5 1 0) else
      ∃ N, N ≤ 160 ∧ S1 5 7 = nI N ∧ S1 1 3 = nI T ∧ ∀ S' : it_SS, (∀ j, j < N → S' (κ.1 + 1) j = S1 7 j) → (∀ j, j < 3 → S' (κ.1 + 2) j = S1 8 j) → (∀ b, b < κ.1 → S' b = S1 b) → P (some (.int (nI T))) (it_tk κ N T) (it_up (it_up S' 1 3 (nI (T + 1))) 5 1 0))) : it_Cn g l 70 it_m_X5_text [.ref 0] κ S P := by
  refine it_Cn.of (by decide +kernel) (Nat.le_of_ble_eq_true rfl) ?_
  show it_Ev g l 70 it_m_X5_text 0 0 0 [some (.ref 0), none] [] κ S P
  refine ev_aload_n d_X5_text_0 rfl ?_
  refine ev_getRr (r := 1) rfl d_X5_text_1 fl_IcedTooSoon_10 hx.1 rfl ?_
  refine ev_getI d_X5_text_4 fl_IcedTooSoon_89 hx.2.1.1 rfl ?_
  rw [hS]
  refine ev_bipush d_X5_text_7 kv_bipush_6 ?_
  refine ev_icmp_lt (tgt := 15) d_X5_text_9 (by decide) (fun _ => ?_) (fun hc => absurd (nI_lt (b := 6) hT (by decide)) hc)
  refine ev_aload_n d_X5_text_15 rfl ?_
  refine ev_getRr (r := 5) rfl d_X5_text_16 fl_IcedTooSoon_19 hx.1 rfl ?_
  refine ev_callV (ci := 3) (b := 5) (M' := it_m_X3_isRead) (d' := 68) (As := []) d_X5_text_19 ml_IcedTooSoon_65 hx.2.2.1.1.1 hx.2.2.1.1.2.1 ⟨_, rfl, rfl⟩ rfl rfl (Nat.le_of_ble_eq_true rfl) (by decide) (by decide) (by decide) (L_X3_isRead hx.2.2.1 h) (fun _ _ _ _ q => by cases q.1; rfl) ?_
  rintro _ _ S1 ⟨rfl, r, rfl, h⟩
  show it_Ev g l 70 it_m_X5_text 0 0 22 [some (.ref 0), none] [.int r] κ S1 P
  refine ev_if_eq (tgt := 43) d_X5_text_22 (by decide) (fun hc => ?_) (fun hc => ?_)
  · rw [if_pos hc] at h
    refine ev_bipush d_X5_text_43 kv_bipush_m100 ?_
    refine ev_aload_n d_X5_text_45 rfl ?_
    refine ev_getRr (r := 5) rfl d_X5_text_46 fl_IcedTooSoon_19 hx.1 rfl ?_
    refine ev_getI d_X5_text_49 fl_IcedTooSoon_104 hx.2.2.1.1 rfl ?_
    refine ev_isub d_X5_text_52 ?_
    refine ev_istore_n d_X5_text_53 (by decide) ?_
    show it_Ev g l 70 it_m_X5_text 0 0 54 [some (.ref 0), some (.int (-100 - S1 5 5))] [] κ S1 P
    refine ev_aload_n d_X5_text_54 rfl ?_
    refine ev_getRr (r := 5) rfl d_X5_text_55 fl_IcedTooSoon_19 hx.1 rfl ?_
    refine ev_callV (ci := 3) (b := 5) (M' := it_m_X3_empty) (d' := 1) (As := []) d_X5_text_58 ml_IcedTooSoon_76 hx.2.2.1.1.1 hx.2.2.1.1.2.1 ⟨_, rfl, rfl⟩ rfl rfl (Nat.le_of_ble_eq_true rfl) (by decide) (by decide) (by decide) (L_X3_empty hx.2.2.1 (P := fun _ S' => P (some (.int (-100 - S1 5 5))) κ S') ⟨(), _, rfl, h⟩) (fun _ _ _ _ q => by cases q.1; rfl) ?_
    rintro _ _ S2 ⟨rfl, rfl, h⟩
    refine ev_iload_n d_X5_text_61 rfl ?_
    exact ev_ret (v := some (.int _)) ⟨d_X5_text_62, _, rfl, rfl⟩ (by decide) (by decide) h
  · rw [if_neg hc] at h
    obtain ⟨N, hN, hc7, hc3, h⟩ := h
    refine ev_aload_n d_X5_text_25 rfl ?_
    refine ev_getRr (r := 1) rfl d_X5_text_26 fl_IcedTooSoon_10 hx.1 rfl ?_
    refine ev_aload_n d_X5_text_29 rfl ?_
    refine ev_getRr (r := 5) rfl d_X5_text_30 fl_IcedTooSoon_19 hx.1 rfl ?_
    refine ev_callV (ci := 3) (b := 5) (M' := it_m_X3_written) (d' := 3) (As := []) d_X5_text_33 ml_IcedTooSoon_69 hx.2.2.1.1.1 hx.2.2.1.1.2.1 ⟨_, rfl, rfl⟩ rfl rfl (Nat.le_of_ble_eq_true rfl) (by decide) (by decide) (by decide) (L_X3_written hx.2.2.1 hN hc7 (P := fun v κ' S' => v = some (.ref κ.1) ∧ κ' = it_wr κ N ∧ (∀ j, j < N → S' (κ.1 + 1) j = S1 7 j) ∧ (∀ j, j < 3 → S' (κ.1 + 2) j = S1 8 j) ∧ ∀ b, b < κ.1 → S' b = S1 b) (fun S' a b c => ⟨rfl, rfl, a, b, c⟩)) (fun _ v κ' S' q => by rw [q.2.1]; rfl) ?_
    rintro v κ1 S2 ⟨rfl, rfl, q1, q2, q3⟩
    show it_Ev g l 70 it_m_X5_text (0 + 0 + 3) (0 + 0 + 165) 36 [some (.ref 0), none] [.ref κ.1, .ref 1] (it_wr κ N) S2 P
    have h1n : 1 < κ.1 := hx.2.1.1.1
    refine ev_callV (ci := 1) (b := 1) (M' := it_m_X1_add) (d' := 1) (As := [.ref κ.1]) d_X5_text_36 ml_IcedTooSoon_73 (it_wr_ob hx.2.1.1).1 (it_wr_ob hx.2.1.1).2.1 ⟨_, rfl, rfl⟩ rfl rfl (Nat.le_of_ble_eq_true rfl) (by decide) (by decide) (by decide) (L_X1_add (it_wr_ob hx.2.1.1) (it_wr_rr hx.2.1.2.1) (by show κ.1 < κ.1 + 1 + 1 + 1; omega) (by simp [it_wr, it_on, it_new]; omega) hT (by rw [q3 1 h1n]; exact hc3) hn (P := fun v κ' S' => v = some (.int (nI T)) ∧ κ' = it_tk κ N T ∧ S' = it_up S2 1 3 (nI (T + 1))) ⟨rfl, rfl, rfl⟩) (fun _ v κ' S' q => by rw [q.2.1]; rfl) ?_
    rintro v κ2 S3 ⟨rfl, rfl, rfl⟩
    refine ev_istore_n d_X5_text_39 (by decide) ?_
    show it_Ev g l 70 it_m_X5_text (0 + 0 + 3 + 0) (0 + 0 + 165 + 0) 40 [some (.ref 0), some (.int (nI T))] [] (it_tk κ N T) (it_up S2 1 3 (nI (T + 1))) P
    refine ev_goto (tgt := 54) d_X5_text_40 (by decide) ?_
    refine ev_aload_n d_X5_text_54 rfl ?_
    refine ev_getRr (r := 5) rfl d_X5_text_55 fl_IcedTooSoon_19 (it_tk_ob hx.1) rfl ?_
    have hwt : it_wt (it_tk κ N T) := ⟨it_tk_ob hx.2.2.1.1, it_tk_ar hx.2.2.1.2.1, it_tk_ar hx.2.2.1.2.2.1, it_tk_ar hx.2.2.1.2.2.2⟩
    refine ev_callV (ci := 3) (b := 5) (M' := it_m_X3_empty) (d' := 1) (As := []) d_X5_text_58 ml_IcedTooSoon_76 hwt.1.1 hwt.1.2.1 ⟨_, rfl, rfl⟩ rfl rfl (Nat.le_of_ble_eq_true rfl) (by decide) (by decide) (by decide) (L_X3_empty hwt (P := fun _ S' => P (some (.int (nI T))) (it_tk κ N T) S') ⟨(), _, rfl, h S2 q1 q2 q3⟩) (fun _ _ _ _ q => by cases q.1; rfl) ?_
    rintro _ _ S4 ⟨rfl, rfl, h⟩
    refine ev_iload_n d_X5_text_61 rfl ?_
    exact ev_ret (v := some (.int _)) ⟨d_X5_text_62, _, rfl, rfl⟩ (by decide) (by decide) h
