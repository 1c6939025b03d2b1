theorem d_X6_isOne_0 : decode prog_8_method_5_code 0 = .ok (.iload_n 1, 1) := by decide +kernel
theorem d_X6_isOne_1 : decode prog_8_method_5_code 1 = .ok (.iconst 0, 1) := by decide +kernel
theorem d_X6_isOne_2 : decode prog_8_method_5_code 2 = .ok (.aload_n 0, 1) := by decide +kernel
theorem d_X6_isOne_3 : decode prog_8_method_5_code 3 = .ok (.getfield 75, 3) := by decide +kernel
theorem d_X6_isOne_6 : decode prog_8_method_5_code 6 = .ok (.iconst 1, 1) := by decide +kernel
theorem d_X6_isOne_7 : decode prog_8_method_5_code 7 = .ok (.isub, 1) := by decide +kernel
theorem d_X6_isOne_8 : decode prog_8_method_5_code 8 = .ok (.invokestatic 78, 3) := by decide +kernel
theorem d_X6_isOne_11 : decode prog_8_method_5_code 11 = .ok (.ireturn, 1) := by decide +kernel
def f_X6_isOne (κ : it_KK) (x1 : Int32) (S : it_SS) : Option (Int32 × it_SS) :=
it_bi (f_X6_in κ x1 0 ((S 45 0) - 1) S) (fun r2 S1 =>
if it_bz r2 = true then some (r2, S1) else none)
set_option maxHeartbeats 4000000 in
set_option maxRecDepth 100000 in
theorem L_X6_isOne {g : it_G} {l : Launch} {κ : it_KK} {x1 : Int32} (hm : it_wm κ) {S : it_SS} {P : Int32 → it_SS → Prop} (h : it_ok (f_X6_isOne κ x1 S) P) : it_Cn g l 2 it_m_X6_isOne [.ref 45, .int x1] κ S (it_pi κ P) := by
  refine it_Cn.of (by decide +kernel) (Nat.le_of_ble_eq_true rfl) ?_
  rw [f_X6_isOne] at h
  show it_Ev g l 2 it_m_X6_isOne 0 0 0 [some (.ref 45), some (.int x1)] [] κ S (it_pi κ P)
  refine ev_iload_n d_X6_isOne_0 rfl ?_
  refine ev_iconst d_X6_isOne_1 kv_iconst_0 ?_
  refine ev_aload_n d_X6_isOne_2 rfl ?_
  refine ev_getI d_X6_isOne_3 fl_IcedTooSoonModel_75 hm.1 rfl ?_
  refine ev_iconst d_X6_isOne_6 kv_iconst_1 ?_
  refine ev_isub d_X6_isOne_7 ?_
  refine ev_callS (M' := it_m_X6_in) (d' := 1) (As := [.int x1, .int 0, .int ((S 45 0) - 1)]) d_X6_isOne_8 ml_IcedTooSoonModel_78 rfl rfl (Nat.le_of_ble_eq_true rfl) (by decide) (by decide) (by decide) (L_X6_in  (it_ok_b h)) (fun _ _ _ _ q => by cases q.1; rfl) ?_
  rintro _ _ S1 ⟨rfl, r2, rfl, h⟩
  show it_Ev g l 2 it_m_X6_isOne 0 0 11 [some (.ref 45), some (.int x1)] [.int r2] κ S1 (it_pi κ P)
  obtain ⟨hz3, h⟩ := it_ok_g h
  exact ev_ret (v := some (.int _)) ⟨d_X6_isOne_11, _, rfl, it_bz_n hz3⟩ (by decide) (by decide) ⟨rfl, _, rfl, it_ok_r h⟩
theorem d_X6_isThere_0 : decode prog_8_method_6_code 0 = .ok (.iload_n 1, 1) := by decide +kernel
theorem d_X6_isThere_1 : decode prog_8_method_6_code 1 = .ok (.iconst 0, 1) := by decide +kernel
theorem d_X6_isThere_2 : decode prog_8_method_6_code 2 = .ok (.bipush 9, 2) := by decide +kernel
theorem d_X6_isThere_4 : decode prog_8_method_6_code 4 = .ok (.invokestatic 78, 3) := by decide +kernel
theorem d_X6_isThere_7 : decode prog_8_method_6_code 7 = .ok (.ifCond .eq 25, 3) := by decide +kernel
theorem d_X6_isThere_10 : decode prog_8_method_6_code 10 = .ok (.aload_n 0, 1) := by decide +kernel
theorem d_X6_isThere_11 : decode prog_8_method_6_code 11 = .ok (.getfield 19, 3) := by decide +kernel
theorem d_X6_isThere_14 : decode prog_8_method_6_code 14 = .ok (.iconst 3, 1) := by decide +kernel
theorem d_X6_isThere_15 : decode prog_8_method_6_code 15 = .ok (.iload_n 1, 1) := by decide +kernel
theorem d_X6_isThere_16 : decode prog_8_method_6_code 16 = .ok (.iconst 0, 1) := by decide +kernel
theorem d_X6_isThere_17 : decode prog_8_method_6_code 17 = .ok (.bipush 9, 2) := by decide +kernel
theorem d_X6_isThere_19 : decode prog_8_method_6_code 19 = .ok (.invokestatic 82, 3) := by decide +kernel
theorem d_X6_isThere_22 : decode prog_8_method_6_code 22 = .ok (.imul, 1) := by decide +kernel
theorem d_X6_isThere_23 : decode prog_8_method_6_code 23 = .ok (.iaload, 1) := by decide +kernel
theorem d_X6_isThere_24 : decode prog_8_method_6_code 24 = .ok (.iconst (-1), 1) := by decide +kernel
theorem d_X6_isThere_25 : decode prog_8_method_6_code 25 = .ok (.if_icmp .eq 7, 3) := by decide +kernel
theorem d_X6_isThere_28 : decode prog_8_method_6_code 28 = .ok (.iconst 1, 1) := by decide +kernel
theorem d_X6_isThere_29 : decode prog_8_method_6_code 29 = .ok (.goto 4, 3) := by decide +kernel
theorem d_X6_isThere_32 : decode prog_8_method_6_code 32 = .ok (.iconst 0, 1) := by decide +kernel
theorem d_X6_isThere_33 : decode prog_8_method_6_code 33 = .ok (.ireturn, 1) := by decide +kernel
def f_X6_isThere (κ : it_KK) (x1 : Int32) (S : it_SS) : Option (Int32 × it_SS) :=
it_bi (f_X6_in κ x1 0 9 S) (fun r2 S1 =>
if r2 = 0 then
some (0, S1)
else
it_bi (f_X6_within κ x1 0 9 S1) (fun r5 S4 =>
if it_bd (3 * r5) 30 = true then
if (S4 49 ((3 * r5) : Int32).toNatClampNeg) = (-1) then
some (0, S4)
else
some (1, S4)
else none))
set_option maxHeartbeats 4000000 in
set_option maxRecDepth 100000 in
theorem L_X6_isThere {g : it_G} {l : Launch} {κ : it_KK} {x1 : Int32} (hm : it_wm κ) {S : it_SS} {P : Int32 → it_SS → Prop} (h : it_ok (f_X6_isThere κ x1 S) P) : it_Cn g l 2 it_m_X6_isThere [.ref 45, .int x1] κ S (it_pi κ P) := by
  refine it_Cn.of (by decide +kernel) (Nat.le_of_ble_eq_true rfl) ?_
  rw [f_X6_isThere] at h
  show it_Ev g l 2 it_m_X6_isThere 0 0 0 [some (.ref 45), some (.int x1)] [] κ S (it_pi κ P)
  refine ev_iload_n d_X6_isThere_0 rfl ?_
  refine ev_iconst d_X6_isThere_1 kv_iconst_0 ?_
  refine ev_bipush d_X6_isThere_2 kv_bipush_9 ?_
  refine ev_callS (M' := it_m_X6_in) (d' := 1) (As := [.int x1, .int 0, .int 9]) d_X6_isThere_4 ml_IcedTooSoonModel_78 rfl rfl (Nat.le_of_ble_eq_true rfl) (by decide) (by decide) (by decide) (L_X6_in  (it_ok_b h)) (fun _ _ _ _ q => by cases q.1; rfl) ?_
  rintro _ _ S1 ⟨rfl, r2, rfl, h⟩
  show it_Ev g l 2 it_m_X6_isThere 0 0 7 [some (.ref 45), some (.int x1)] [.int r2] κ S1 (it_pi κ P)
  refine ev_if_eq (tgt := 32) d_X6_isThere_7 (by decide) (fun hc3 => ?_) (fun hc3 => ?_)
  · have h := it_ok_t h hc3
    refine ev_iconst d_X6_isThere_32 kv_iconst_0 ?_
    exact ev_ret (v := some (.int _)) ⟨d_X6_isThere_33, _, rfl, rfl⟩ (by decide) (by decide) ⟨rfl, _, rfl, it_ok_r h⟩
  · have h := it_ok_f h hc3
    refine ev_aload_n d_X6_isThere_10 rfl ?_
    refine ev_getRr (r := 49) rfl d_X6_isThere_11 fl_IcedTooSoonModel_19 hm.1 rfl ?_
    refine ev_iconst d_X6_isThere_14 kv_iconst_3 ?_
    refine ev_iload_n d_X6_isThere_15 rfl ?_
    refine ev_iconst d_X6_isThere_16 kv_iconst_0 ?_
    refine ev_bipush d_X6_isThere_17 kv_bipush_9 ?_
    refine ev_callS (M' := it_m_X6_within) (d' := 1) (As := [.int x1, .int 0, .int 9]) d_X6_isThere_19 ml_IcedTooSoonModel_82 rfl rfl (Nat.le_of_ble_eq_true rfl) (by decide) (by decide) (by decide) (L_X6_within  (it_ok_b h)) (fun _ _ _ _ q => by cases q.1; rfl) ?_
    rintro _ _ S4 ⟨rfl, r5, rfl, h⟩
    show it_Ev g l 2 it_m_X6_isThere 0 0 22 [some (.ref 45), some (.int x1)] [.int r5, .int 3, .ref 49] κ S4 (it_pi κ P)
    refine ev_imul d_X6_isThere_22 ?_
    obtain ⟨hb6, h⟩ := it_ok_g h
    refine ev_iald d_X6_isThere_23 (hm).2.2.2.2.1 (it_bd_in hb6) ?_
    refine ev_iconst d_X6_isThere_24 kv_iconst_m1 ?_
    refine ev_icmp_eq (tgt := 32) d_X6_isThere_25 (by decide) (fun hc7 => ?_) (fun hc7 => ?_)
    · have h := it_ok_t h hc7
      refine ev_iconst d_X6_isThere_32 kv_iconst_0 ?_
      exact ev_ret (v := some (.int _)) ⟨d_X6_isThere_33, _, rfl, rfl⟩ (by decide) (by decide) ⟨rfl, _, rfl, it_ok_r h⟩
    · have h := it_ok_f h hc7
      refine ev_iconst d_X6_isThere_28 kv_iconst_1 ?_
      refine ev_goto (tgt := 33) d_X6_isThere_29 (by decide) ?_
      exact ev_ret (v := some (.int _)) ⟨d_X6_isThere_33, _, rfl, rfl⟩ (by decide) (by decide) ⟨rfl, _, rfl, it_ok_r h⟩
theorem d_X6_many_0 : decode prog_8_method_7_code 0 = .ok (.iconst 0, 1) := by decide +kernel
theorem d_X6_many_1 : decode prog_8_method_7_code 1 = .ok (.istore_n 1, 1) := by decide +kernel
theorem d_X6_many_2 : decode prog_8_method_7_code 2 = .ok (.iconst 0, 1) := by decide +kernel
theorem d_X6_many_3 : decode prog_8_method_7_code 3 = .ok (.istore_n 2, 1) := by decide +kernel
theorem d_X6_many_4 : decode prog_8_method_7_code 4 = .ok (.iload_n 2, 1) := by decide +kernel
theorem d_X6_many_5 : decode prog_8_method_7_code 5 = .ok (.bipush 10, 2) := by decide +kernel
theorem d_X6_many_7 : decode prog_8_method_7_code 7 = .ok (.if_icmp .ge 25, 3) := by decide +kernel
theorem d_X6_many_10 : decode prog_8_method_7_code 10 = .ok (.iload_n 1, 1) := by decide +kernel
theorem d_X6_many_11 : decode prog_8_method_7_code 11 = .ok (.aload_n 0, 1) := by decide +kernel
theorem d_X6_many_12 : decode prog_8_method_7_code 12 = .ok (.iload_n 2, 1) := by decide +kernel
theorem d_X6_many_13 : decode prog_8_method_7_code 13 = .ok (.invokevirtual 86, 3) := by decide +kernel
theorem d_X6_many_16 : decode prog_8_method_7_code 16 = .ok (.ifCond .eq 7, 3) := by decide +kernel
theorem d_X6_many_19 : decode prog_8_method_7_code 19 = .ok (.iconst 1, 1) := by decide +kernel
theorem d_X6_many_20 : decode prog_8_method_7_code 20 = .ok (.goto 4, 3) := by decide +kernel
theorem d_X6_many_23 : decode prog_8_method_7_code 23 = .ok (.iconst 0, 1) := by decide +kernel
theorem d_X6_many_24 : decode prog_8_method_7_code 24 = .ok (.iadd, 1) := by decide +kernel
theorem d_X6_many_25 : decode prog_8_method_7_code 25 = .ok (.istore_n 1, 1) := by decide +kernel
theorem d_X6_many_26 : decode prog_8_method_7_code 26 = .ok (.iinc 2 1, 3) := by decide +kernel
theorem d_X6_many_29 : decode prog_8_method_7_code 29 = .ok (.goto (-25), 3) := by decide +kernel
theorem d_X6_many_32 : decode prog_8_method_7_code 32 = .ok (.iload_n 1, 1) := by decide +kernel
theorem d_X6_many_33 : decode prog_8_method_7_code 33 = .ok (.ireturn, 1) := by decide +kernel
def lp_X6_many_4 (κ : it_KK)  (k4 : (Int32 → it_SS → Option (Int32 × it_SS))) : Nat → Int32 → Int32 → it_SS → Option (Int32 × it_SS)
  | 0, _, _, _ => none
  | n4 + 1, v1, v2, S => if 10 ≤ v2 then
k4 v1 S
else
it_bi (f_X6_isThere κ v2 S) (fun r3 S2 =>
if r3 = 0 then
lp_X6_many_4 κ  k4 n4 (v1 + 0) (v2 + 1) S2
else
lp_X6_many_4 κ  k4 n4 (v1 + 1) (v2 + 1) S2)
def f_X6_many (κ : it_KK)  (S : it_SS) : Option (Int32 × it_SS) :=
lp_X6_many_4 κ  (fun v5 S6 =>
some (v5, S6)) it_FU 0 0 S
set_option maxHeartbeats 4000000 in
set_option maxRecDepth 100000 in
theorem Llp_X6_many_4 {g : it_G} {l : Launch} {κ : it_KK} (hm : it_wm κ) {P : Int32 → it_SS → Prop} {k4 : (Int32 → it_SS → Option (Int32 × it_SS))} (hk4 : ∀ (v1 : Int32) (S : it_SS), it_ok (k4 v1 S) P → it_Ev g l 3 it_m_X6_many 0 0 32 [none, some (.int v1), none] [] κ S (it_pi κ P)) : ∀ (n : Nat) (v1 : Int32) (v2 : Int32) (S : it_SS), it_ok (lp_X6_many_4 κ  k4 n v1 v2 S) P → it_Ev g l 3 it_m_X6_many 0 0 4 [some (.ref 45), some (.int v1), some (.int v2)] [] κ S (it_pi κ P) := by
  intro n
  induction n with
  | zero =>
    intro _ _ _ h
    exact (it_ok_n h).elim
  | succ n4 ih4 =>
    intro v1 v2 S h
    rw [lp_X6_many_4] at h
    refine ev_iload_n d_X6_many_4 rfl ?_
    refine ev_bipush d_X6_many_5 kv_bipush_10 ?_
    refine ev_icmp_ge (tgt := 32) d_X6_many_7 (by decide) (fun hc1 => ?_) (fun hc1 => ?_)
    · have h := it_ok_t h hc1
      refine ev_keep [false, true, false] ?_
      exact hk4 _ _ h
    · have h := it_ok_f h hc1
      refine ev_iload_n d_X6_many_10 rfl ?_
      refine ev_aload_n d_X6_many_11 rfl ?_
      refine ev_iload_n d_X6_many_12 rfl ?_
      refine ev_callV (ci := 6) (b := 45) (M' := it_m_X6_isThere) (d' := 2) (As := [.int v2]) d_X6_many_13 ml_IcedTooSoonModel_86 hm.1.1 hm.1.2.1 ⟨_, rfl, rfl⟩ rfl rfl (Nat.le_of_ble_eq_true rfl) (by decide) (by decide) (by decide) (L_X6_isThere hm (it_ok_b h)) (fun _ _ _ _ q => by cases q.1; rfl) ?_
      rintro _ _ S2 ⟨rfl, r3, rfl, h⟩
      show it_Ev g l 3 it_m_X6_many 0 0 16 [some (.ref 45), some (.int v1), some (.int v2)] [.int r3, .int v1] κ S2 (it_pi κ P)
      refine ev_if_eq (tgt := 23) d_X6_many_16 (by decide) (fun hc4 => ?_) (fun hc4 => ?_)
      · have h := it_ok_t h hc4
        refine ev_iconst d_X6_many_23 kv_iconst_0 ?_
        refine ev_iadd d_X6_many_24 ?_
        refine ev_istore_n d_X6_many_25 (by decide) ?_
        show it_Ev g l 3 it_m_X6_many 0 0 26 [some (.ref 45), some (.int (v1 + 0)), some (.int v2)] [] κ S2 (it_pi κ P)
        refine ev_iinc d_X6_many_26 kv_iconst_1 rfl (by decide) ?_
        show it_Ev g l 3 it_m_X6_many 0 0 29 [some (.ref 45), some (.int (v1 + 0)), some (.int (v2 + 1))] [] κ S2 (it_pi κ P)
        refine ev_goto (tgt := 4) d_X6_many_29 (by decide) ?_
        refine ev_keep [true, true, true] ?_
        exact ih4 _ _ _ h
      · have h := it_ok_f h hc4
        refine ev_iconst d_X6_many_19 kv_iconst_1 ?_
        refine ev_goto (tgt := 24) d_X6_many_20 (by decide) ?_
        refine ev_iadd d_X6_many_24 ?_
        refine ev_istore_n d_X6_many_25 (by decide) ?_
        show it_Ev g l 3 it_m_X6_many 0 0 26 [some (.ref 45), some (.int (v1 + 1)), some (.int v2)] [] κ S2 (it_pi κ P)
        refine ev_iinc d_X6_many_26 kv_iconst_1 rfl (by decide) ?_
        show it_Ev g l 3 it_m_X6_many 0 0 29 [some (.ref 45), some (.int (v1 + 1)), some (.int (v2 + 1))] [] κ S2 (it_pi κ P)
        refine ev_goto (tgt := 4) d_X6_many_29 (by decide) ?_
        refine ev_keep [true, true, true] ?_
        exact ih4 _ _ _ h
set_option maxHeartbeats 4000000 in
set_option maxRecDepth 100000 in
theorem L_X6_many {g : it_G} {l : Launch} {κ : it_KK} (hm : it_wm κ) {S : it_SS} {P : Int32 → it_SS → Prop} (h : it_ok (f_X6_many κ  S) P) : it_Cn g l 3 it_m_X6_many [.ref 45] κ S (it_pi κ P) := by
  refine it_Cn.of (by decide +kernel) (Nat.le_of_ble_eq_true rfl) ?_
  rw [f_X6_many] at h
  show it_Ev g l 3 it_m_X6_many 0 0 0 [some (.ref 45), none, none] [] κ S (it_pi κ P)
  refine ev_iconst d_X6_many_0 kv_iconst_0 ?_
  refine ev_istore_n d_X6_many_1 (by decide) ?_
  show it_Ev g l 3 it_m_X6_many 0 0 2 [some (.ref 45), some (.int 0), none] [] κ S (it_pi κ P)
  refine ev_iconst d_X6_many_2 kv_iconst_0 ?_
  refine ev_istore_n d_X6_many_3 (by decide) ?_
  show it_Ev g l 3 it_m_X6_many 0 0 4 [some (.ref 45), some (.int 0), some (.int 0)] [] κ S (it_pi κ P)
  refine ev_keep [true, true, true] ?_
  refine Llp_X6_many_4 hm (fun v5 S6 h => ?_) _ _ _ _ h
  show it_Ev g l 3 it_m_X6_many 0 0 32 [none, some (.int v5), none] [] κ S6 (it_pi κ P)
  refine ev_iload_n d_X6_many_32 rfl ?_
  exact ev_ret (v := some (.int _)) ⟨d_X6_many_33, _, rfl, rfl⟩ (by decide) (by decide) ⟨rfl, _, rfl, it_ok_r h⟩
theorem d_X6_moodAll_0 : decode prog_8_method_8_code 0 = .ok (.iconst 0, 1) := by decide +kernel
theorem d_X6_moodAll_1 : decode prog_8_method_8_code 1 = .ok (.istore_n 1, 1) := by decide +kernel
theorem d_X6_moodAll_2 : decode prog_8_method_8_code 2 = .ok (.iconst 0, 1) := by decide +kernel
theorem d_X6_moodAll_3 : decode prog_8_method_8_code 3 = .ok (.istore_n 2, 1) := by decide +kernel
theorem d_X6_moodAll_4 : decode prog_8_method_8_code 4 = .ok (.iload_n 2, 1) := by decide +kernel
theorem d_X6_moodAll_5 : decode prog_8_method_8_code 5 = .ok (.aload_n 0, 1) := by decide +kernel
theorem d_X6_moodAll_6 : decode prog_8_method_8_code 6 = .ok (.getfield 75, 3) := by decide +kernel
theorem d_X6_moodAll_9 : decode prog_8_method_8_code 9 = .ok (.if_icmp .ge 20, 3) := by decide +kernel
theorem d_X6_moodAll_12 : decode prog_8_method_8_code 12 = .ok (.iload_n 1, 1) := by decide +kernel
theorem d_X6_moodAll_13 : decode prog_8_method_8_code 13 = .ok (.aload_n 0, 1) := by decide +kernel
theorem d_X6_moodAll_14 : decode prog_8_method_8_code 14 = .ok (.getfield 16, 3) := by decide +kernel
theorem d_X6_moodAll_17 : decode prog_8_method_8_code 17 = .ok (.iconst 2, 1) := by decide +kernel
theorem d_X6_moodAll_18 : decode prog_8_method_8_code 18 = .ok (.iload_n 2, 1) := by decide +kernel
theorem d_X6_moodAll_19 : decode prog_8_method_8_code 19 = .ok (.imul, 1) := by decide +kernel
theorem d_X6_moodAll_20 : decode prog_8_method_8_code 20 = .ok (.iaload, 1) := by decide +kernel
theorem d_X6_moodAll_21 : decode prog_8_method_8_code 21 = .ok (.iadd, 1) := by decide +kernel
theorem d_X6_moodAll_22 : decode prog_8_method_8_code 22 = .ok (.istore_n 1, 1) := by decide +kernel
theorem d_X6_moodAll_23 : decode prog_8_method_8_code 23 = .ok (.iinc 2 1, 3) := by decide +kernel
theorem d_X6_moodAll_26 : decode prog_8_method_8_code 26 = .ok (.goto (-22), 3) := by decide +kernel
theorem d_X6_moodAll_29 : decode prog_8_method_8_code 29 = .ok (.iload_n 1, 1) := by decide +kernel
theorem d_X6_moodAll_30 : decode prog_8_method_8_code 30 = .ok (.ireturn, 1) := by decide +kernel
def lp_X6_moodAll_4 (κ : it_KK)  (k4 : (Int32 → it_SS → Option (Int32 × it_SS))) : Nat → Int32 → Int32 → it_SS → Option (Int32 × it_SS)
  | 0, _, _, _ => none
  | n4 + 1, v1, v2, S => if (S 45 0) ≤ v2 then
k4 v1 S
else
if it_bd (2 * v2) 12 = true then
lp_X6_moodAll_4 κ  k4 n4 (v1 + (S 48 ((2 * v2) : Int32).toNatClampNeg)) (v2 + 1) S
else none
def f_X6_moodAll (κ : it_KK)  (S : it_SS) : Option (Int32 × it_SS) :=
lp_X6_moodAll_4 κ  (fun v3 S4 =>
some (v3, S4)) it_FU 0 0 S
set_option maxHeartbeats 4000000 in
set_option maxRecDepth 100000 in
theorem Llp_X6_moodAll_4 {g : it_G} {l : Launch} {κ : it_KK} (hm : it_wm κ) {P : Int32 → it_SS → Prop} {k4 : (Int32 → it_SS → Option (Int32 × it_SS))} (hk4 : ∀ (v1 : Int32) (S : it_SS), it_ok (k4 v1 S) P → it_Ev g l 1 it_m_X6_moodAll 0 0 29 [none, some (.int v1), none] [] κ S (it_pi κ P)) : ∀ (n : Nat) (v1 : Int32) (v2 : Int32) (S : it_SS), it_ok (lp_X6_moodAll_4 κ  k4 n v1 v2 S) P → it_Ev g l 1 it_m_X6_moodAll 0 0 4 [some (.ref 45), some (.int v1), some (.int v2)] [] κ S (it_pi κ P) := by
  intro n
  induction n with
  | zero =>
    intro _ _ _ h
    exact (it_ok_n h).elim
  | succ n4 ih4 =>
    intro v1 v2 S h
    rw [lp_X6_moodAll_4] at h
    refine ev_iload_n d_X6_moodAll_4 rfl ?_
    refine ev_aload_n d_X6_moodAll_5 rfl ?_
    refine ev_getI d_X6_moodAll_6 fl_IcedTooSoonModel_75 hm.1 rfl ?_
    refine ev_icmp_ge (tgt := 29) d_X6_moodAll_9 (by decide) (fun hc1 => ?_) (fun hc1 => ?_)
    · have h := it_ok_t h hc1
      refine ev_keep [false, true, false] ?_
      exact hk4 _ _ h
    · have h := it_ok_f h hc1
      refine ev_iload_n d_X6_moodAll_12 rfl ?_
      refine ev_aload_n d_X6_moodAll_13 rfl ?_
      refine ev_getRr (r := 48) rfl d_X6_moodAll_14 fl_IcedTooSoonModel_16 hm.1 rfl ?_
      refine ev_iconst d_X6_moodAll_17 kv_iconst_2 ?_
      refine ev_iload_n d_X6_moodAll_18 rfl ?_
      refine ev_imul d_X6_moodAll_19 ?_
      obtain ⟨hb2, h⟩ := it_ok_g h
      refine ev_iald d_X6_moodAll_20 (hm).2.2.2.1 (it_bd_in hb2) ?_
      refine ev_iadd d_X6_moodAll_21 ?_
      refine ev_istore_n d_X6_moodAll_22 (by decide) ?_
      show it_Ev g l 1 it_m_X6_moodAll 0 0 23 [some (.ref 45), some (.int (v1 + (S 48 ((2 * v2) : Int32).toNatClampNeg))), some (.int v2)] [] κ S (it_pi κ P)
      refine ev_iinc d_X6_moodAll_23 kv_iconst_1 rfl (by decide) ?_
      show it_Ev g l 1 it_m_X6_moodAll 0 0 26 [some (.ref 45), some (.int (v1 + (S 48 ((2 * v2) : Int32).toNatClampNeg))), some (.int (v2 + 1))] [] κ S (it_pi κ P)
      refine ev_goto (tgt := 4) d_X6_moodAll_26 (by decide) ?_
      refine ev_keep [true, true, true] ?_
      exact ih4 _ _ _ h
set_option maxHeartbeats 4000000 in
set_option maxRecDepth 100000 in
theorem L_X6_moodAll {g : it_G} {l : Launch} {κ : it_KK} (hm : it_wm κ) {S : it_SS} {P : Int32 → it_SS → Prop} (h : it_ok (f_X6_moodAll κ  S) P) : it_Cn g l 1 it_m_X6_moodAll [.ref 45] κ S (it_pi κ P) := by
  refine it_Cn.of (by decide +kernel) (Nat.le_of_ble_eq_true rfl) ?_
  rw [f_X6_moodAll] at h
  show it_Ev g l 1 it_m_X6_moodAll 0 0 0 [some (.ref 45), none, none] [] κ S (it_pi κ P)
  refine ev_iconst d_X6_moodAll_0 kv_iconst_0 ?_
  refine ev_istore_n d_X6_moodAll_1 (by decide) ?_
  show it_Ev g l 1 it_m_X6_moodAll 0 0 2 [some (.ref 45), some (.int 0), none] [] κ S (it_pi κ P)
  refine ev_iconst d_X6_moodAll_2 kv_iconst_0 ?_
  refine ev_istore_n d_X6_moodAll_3 (by decide) ?_
  show it_Ev g l 1 it_m_X6_moodAll 0 0 4 [some (.ref 45), some (.int 0), some (.int 0)] [] κ S (it_pi κ P)
  refine ev_keep [true, true, true] ?_
  refine Llp_X6_moodAll_4 hm (fun v3 S4 h => ?_) _ _ _ _ h
  show it_Ev g l 1 it_m_X6_moodAll 0 0 29 [none, some (.int v3), none] [] κ S4 (it_pi κ P)
  refine ev_iload_n d_X6_moodAll_29 rfl ?_
  exact ev_ret (v := some (.int _)) ⟨d_X6_moodAll_30, _, rfl, rfl⟩ (by decide) (by decide) ⟨rfl, _, rfl, it_ok_r h⟩
theorem d_X6_count_0 : decode prog_8_method_9_code 0 = .ok (.iload_n 1, 1) := by decide +kernel
theorem d_X6_count_1 : decode prog_8_method_9_code 1 = .ok (.tableswitch 69 0 5 #[39, 44, 49, 54, 59, 64], 39) := by decide +kernel
theorem d_X6_count_40 : decode prog_8_method_9_code 40 = .ok (.aload_n 0, 1) := by decide +kernel
theorem d_X6_count_41 : decode prog_8_method_9_code 41 = .ok (.getfield 75, 3) := by decide +kernel
theorem d_X6_count_44 : decode prog_8_method_9_code 44 = .ok (.ireturn, 1) := by decide +kernel
theorem d_X6_count_45 : decode prog_8_method_9_code 45 = .ok (.aload_n 0, 1) := by decide +kernel
theorem d_X6_count_46 : decode prog_8_method_9_code 46 = .ok (.invokevirtual 90, 3) := by decide +kernel
theorem d_X6_count_49 : decode prog_8_method_9_code 49 = .ok (.ireturn, 1) := by decide +kernel
theorem d_X6_count_50 : decode prog_8_method_9_code 50 = .ok (.aload_n 0, 1) := by decide +kernel
theorem d_X6_count_51 : decode prog_8_method_9_code 51 = .ok (.getfield 93, 3) := by decide +kernel
theorem d_X6_count_54 : decode prog_8_method_9_code 54 = .ok (.ireturn, 1) := by decide +kernel
theorem d_X6_count_55 : decode prog_8_method_9_code 55 = .ok (.aload_n 0, 1) := by decide +kernel
theorem d_X6_count_56 : decode prog_8_method_9_code 56 = .ok (.getfield 96, 3) := by decide +kernel
theorem d_X6_count_59 : decode prog_8_method_9_code 59 = .ok (.ireturn, 1) := by decide +kernel
theorem d_X6_count_60 : decode prog_8_method_9_code 60 = .ok (.aload_n 0, 1) := by decide +kernel
theorem d_X6_count_61 : decode prog_8_method_9_code 61 = .ok (.getfield 99, 3) := by decide +kernel
theorem d_X6_count_64 : decode prog_8_method_9_code 64 = .ok (.ireturn, 1) := by decide +kernel
theorem d_X6_count_65 : decode prog_8_method_9_code 65 = .ok (.aload_n 0, 1) := by decide +kernel
theorem d_X6_count_66 : decode prog_8_method_9_code 66 = .ok (.getfield 67, 3) := by decide +kernel
theorem d_X6_count_69 : decode prog_8_method_9_code 69 = .ok (.ireturn, 1) := by decide +kernel
theorem d_X6_count_70 : decode prog_8_method_9_code 70 = .ok (.bipush (-2), 2) := by decide +kernel
theorem d_X6_count_72 : decode prog_8_method_9_code 72 = .ok (.ireturn, 1) := by decide +kernel
def f_X6_count (κ : it_KK) (x1 : Int32) (S : it_SS) : Option (Int32 × it_SS) :=
if x1 = 0 then
some ((S 45 0), S)
else if x1 = 1 then
it_bi (f_X6_many κ  S) (fun r4 S3 =>
some (r4, S3))
else if x1 = 2 then
some ((S 45 5), S)
else if x1 = 3 then
some ((S 45 10), S)
else if x1 = 4 then
some ((S 45 11), S)
else if x1 = 5 then
some ((S 45 7), S)
else 
some ((-2), S)
set_option maxHeartbeats 4000000 in
set_option maxRecDepth 100000 in
theorem L_X6_count {g : it_G} {l : Launch} {κ : it_KK} {x1 : Int32} (hm : it_wm κ) {S : it_SS} {P : Int32 → it_SS → Prop} (h : it_ok (f_X6_count κ x1 S) P) : it_Cn g l 4 it_m_X6_count [.ref 45, .int x1] κ S (it_pi κ P) := by
  refine it_Cn.of (by decide +kernel) (Nat.le_of_ble_eq_true rfl) ?_
  rw [f_X6_count] at h
  show it_Ev g l 4 it_m_X6_count 0 0 0 [some (.ref 45), some (.int x1)] [] κ S (it_pi κ P)
  refine ev_iload_n d_X6_count_0 rfl ?_
  rcases Classical.em (x1 = 0) with hc1 | hc1
  · have h := it_ok_t h hc1
    refine ev_table (c1 := 0) (off := 39) (tgt := 40) hc1 d_X6_count_1 (by decide) (by decide) (by decide) (by decide) ?_
    refine ev_aload_n d_X6_count_40 rfl ?_
    refine ev_getI d_X6_count_41 fl_IcedTooSoonModel_75 hm.1 rfl ?_
    exact ev_ret (v := some (.int _)) ⟨d_X6_count_44, _, rfl, rfl⟩ (by decide) (by decide) ⟨rfl, _, rfl, it_ok_r h⟩
  · have h := it_ok_f h hc1
    rcases Classical.em (x1 = 1) with hc2 | hc2
    · have h := it_ok_t h hc2
      refine ev_table (c1 := 1) (off := 44) (tgt := 45) hc2 d_X6_count_1 (by decide) (by decide) (by decide) (by decide) ?_
      refine ev_aload_n d_X6_count_45 rfl ?_
      refine ev_callV (ci := 6) (b := 45) (M' := it_m_X6_many) (d' := 3) (As := []) d_X6_count_46 ml_IcedTooSoonModel_90 hm.1.1 hm.1.2.1 ⟨_, rfl, rfl⟩ rfl rfl (Nat.le_of_ble_eq_true rfl) (by decide) (by decide) (by decide) (L_X6_many hm (it_ok_b h)) (fun _ _ _ _ q => by cases q.1; rfl) ?_
      rintro _ _ S3 ⟨rfl, r4, rfl, h⟩
      show it_Ev g l 4 it_m_X6_count 0 0 49 [some (.ref 45), some (.int x1)] [.int r4] κ S3 (it_pi κ P)
      exact ev_ret (v := some (.int _)) ⟨d_X6_count_49, _, rfl, rfl⟩ (by decide) (by decide) ⟨rfl, _, rfl, it_ok_r h⟩
    · have h := it_ok_f h hc2
      rcases Classical.em (x1 = 2) with hc5 | hc5
      · have h := it_ok_t h hc5
        refine ev_table (c1 := 2) (off := 49) (tgt := 50) hc5 d_X6_count_1 (by decide) (by decide) (by decide) (by decide) ?_
        refine ev_aload_n d_X6_count_50 rfl ?_
        refine ev_getI d_X6_count_51 fl_IcedTooSoonModel_93 hm.1 rfl ?_
        exact ev_ret (v := some (.int _)) ⟨d_X6_count_54, _, rfl, rfl⟩ (by decide) (by decide) ⟨rfl, _, rfl, it_ok_r h⟩
      · have h := it_ok_f h hc5
        rcases Classical.em (x1 = 3) with hc6 | hc6
        · have h := it_ok_t h hc6
          refine ev_table (c1 := 3) (off := 54) (tgt := 55) hc6 d_X6_count_1 (by decide) (by decide) (by decide) (by decide) ?_
          refine ev_aload_n d_X6_count_55 rfl ?_
          refine ev_getI d_X6_count_56 fl_IcedTooSoonModel_96 hm.1 rfl ?_
          exact ev_ret (v := some (.int _)) ⟨d_X6_count_59, _, rfl, rfl⟩ (by decide) (by decide) ⟨rfl, _, rfl, it_ok_r h⟩
        · have h := it_ok_f h hc6
          rcases Classical.em (x1 = 4) with hc7 | hc7
          · have h := it_ok_t h hc7
            refine ev_table (c1 := 4) (off := 59) (tgt := 60) hc7 d_X6_count_1 (by decide) (by decide) (by decide) (by decide) ?_
            refine ev_aload_n d_X6_count_60 rfl ?_
            refine ev_getI d_X6_count_61 fl_IcedTooSoonModel_99 hm.1 rfl ?_
            exact ev_ret (v := some (.int _)) ⟨d_X6_count_64, _, rfl, rfl⟩ (by decide) (by decide) ⟨rfl, _, rfl, it_ok_r h⟩
          · have h := it_ok_f h hc7
            rcases Classical.em (x1 = 5) with hc8 | hc8
            · have h := it_ok_t h hc8
              refine ev_table (c1 := 5) (off := 64) (tgt := 65) hc8 d_X6_count_1 (by decide) (by decide) (by decide) (by decide) ?_
              refine ev_aload_n d_X6_count_65 rfl ?_
              refine ev_getI d_X6_count_66 fl_IcedTooSoonModel_67 hm.1 rfl ?_
              exact ev_ret (v := some (.int _)) ⟨d_X6_count_69, _, rfl, rfl⟩ (by decide) (by decide) ⟨rfl, _, rfl, it_ok_r h⟩
            · have h := it_ok_f h hc8
              refine ev_tableOut (tgt := 70) d_X6_count_1 (it_sw (fun h1 h2 => ?_)) (by decide) ?_
              · rcases (by omega : (x1).toInt = 0 ∨ (x1).toInt = 1 ∨ (x1).toInt = 2 ∨ (x1).toInt = 3 ∨ (x1).toInt = 4 ∨ (x1).toInt = 5) with q | q | q | q | q | q
                · exact hc1 (Int32.toInt_inj.mp (q.trans (by decide)))
                · exact hc2 (Int32.toInt_inj.mp (q.trans (by decide)))
                · exact hc5 (Int32.toInt_inj.mp (q.trans (by decide)))
                · exact hc6 (Int32.toInt_inj.mp (q.trans (by decide)))
                · exact hc7 (Int32.toInt_inj.mp (q.trans (by decide)))
                · exact hc8 (Int32.toInt_inj.mp (q.trans (by decide)))
              · skip
                refine ev_bipush d_X6_count_70 kv_bipush_m2 ?_
                exact ev_ret (v := some (.int _)) ⟨d_X6_count_72, _, rfl, rfl⟩ (by decide) (by decide) ⟨rfl, _, rfl, it_ok_r h⟩
theorem d_X6_dawn_0 : decode prog_8_method_10_code 0 = .ok (.iload_n 1, 1) := by decide +kernel
theorem d_X6_dawn_1 : decode prog_8_method_10_code 1 = .ok (.iconst 0, 1) := by decide +kernel
theorem d_X6_dawn_2 : decode prog_8_method_10_code 2 = .ok (.sipush 999, 3) := by decide +kernel
theorem d_X6_dawn_5 : decode prog_8_method_10_code 5 = .ok (.invokestatic 78, 3) := by decide +kernel
theorem d_X6_dawn_8 : decode prog_8_method_10_code 8 = .ok (.ifCond .ne 6, 3) := by decide +kernel
theorem d_X6_dawn_11 : decode prog_8_method_10_code 11 = .ok (.bipush (-2), 2) := by decide +kernel
theorem d_X6_dawn_13 : decode prog_8_method_10_code 13 = .ok (.ireturn, 1) := by decide +kernel
theorem d_X6_dawn_14 : decode prog_8_method_10_code 14 = .ok (.aload_n 0, 1) := by decide +kernel
theorem d_X6_dawn_15 : decode prog_8_method_10_code 15 = .ok (.getfield 93, 3) := by decide +kernel
theorem d_X6_dawn_18 : decode prog_8_method_10_code 18 = .ok (.istore_n 2, 1) := by decide +kernel
theorem d_X6_dawn_19 : decode prog_8_method_10_code 19 = .ok (.aload_n 0, 1) := by decide +kernel
theorem d_X6_dawn_20 : decode prog_8_method_10_code 20 = .ok (.iload_n 1, 1) := by decide +kernel
theorem d_X6_dawn_21 : decode prog_8_method_10_code 21 = .ok (.putfield 93, 3) := by decide +kernel
theorem d_X6_dawn_24 : decode prog_8_method_10_code 24 = .ok (.iload_n 2, 1) := by decide +kernel
theorem d_X6_dawn_25 : decode prog_8_method_10_code 25 = .ok (.ireturn, 1) := by decide +kernel
def f_X6_dawn (κ : it_KK) (x1 : Int32) (S : it_SS) : Option (Int32 × it_SS) :=
it_bi (f_X6_in κ x1 0 999 S) (fun r2 S1 =>
if r2 = 0 then
some ((-2), S1)
else
some ((S1 45 5), it_up S1 45 5 x1))
set_option maxHeartbeats 4000000 in
set_option maxRecDepth 100000 in
theorem L_X6_dawn {g : it_G} {l : Launch} {κ : it_KK} {x1 : Int32} (hm : it_wm κ) {S : it_SS} {P : Int32 → it_SS → Prop} (h : it_ok (f_X6_dawn κ x1 S) P) : it_Cn g l 2 it_m_X6_dawn [.ref 45, .int x1] κ S (it_pi κ P) := by
  refine it_Cn.of (by decide +kernel) (Nat.le_of_ble_eq_true rfl) ?_
  rw [f_X6_dawn] at h
  show it_Ev g l 2 it_m_X6_dawn 0 0 0 [some (.ref 45), some (.int x1), none] [] κ S (it_pi κ P)
  refine ev_iload_n d_X6_dawn_0 rfl ?_
  refine ev_iconst d_X6_dawn_1 kv_iconst_0 ?_
  refine ev_sipush d_X6_dawn_2 kv_sipush_999 ?_
  refine ev_callS (M' := it_m_X6_in) (d' := 1) (As := [.int x1, .int 0, .int 999]) d_X6_dawn_5 ml_IcedTooSoonModel_78 rfl rfl (Nat.le_of_ble_eq_true rfl) (by decide) (by decide) (by decide) (L_X6_in  (it_ok_b h)) (fun _ _ _ _ q => by cases q.1; rfl) ?_
  rintro _ _ S1 ⟨rfl, r2, rfl, h⟩
  show it_Ev g l 2 it_m_X6_dawn 0 0 8 [some (.ref 45), some (.int x1), none] [.int r2] κ S1 (it_pi κ P)
  refine ev_if_ne (tgt := 14) d_X6_dawn_8 (by decide) (fun hc3 => ?_) (fun hc3 => ?_)
  · have h := it_ok_f h hc3
    refine ev_aload_n d_X6_dawn_14 rfl ?_
    refine ev_getI d_X6_dawn_15 fl_IcedTooSoonModel_93 hm.1 rfl ?_
    refine ev_istore_n d_X6_dawn_18 (by decide) ?_
    show it_Ev g l 2 it_m_X6_dawn 0 0 19 [some (.ref 45), some (.int x1), some (.int (S1 45 5))] [] κ S1 (it_pi κ P)
    refine ev_aload_n d_X6_dawn_19 rfl ?_
    refine ev_iload_n d_X6_dawn_20 rfl ?_
    refine ev_putI d_X6_dawn_21 (by decide) fl_IcedTooSoonModel_93 fw_6_5 hm.1 rfl ?_
    refine ev_iload_n d_X6_dawn_24 rfl ?_
    exact ev_ret (v := some (.int _)) ⟨d_X6_dawn_25, _, rfl, rfl⟩ (by decide) (by decide) ⟨rfl, _, rfl, it_ok_r h⟩
  · have h := it_ok_t h hc3
    refine ev_bipush d_X6_dawn_11 kv_bipush_m2 ?_
    exact ev_ret (v := some (.int _)) ⟨d_X6_dawn_13, _, rfl, rfl⟩ (by decide) (by decide) ⟨rfl, _, rfl, it_ok_r h⟩
theorem d_X6_feed_0 : decode prog_8_method_12_code 0 = .ok (.iload_n 1, 1) := by decide +kernel
theorem d_X6_feed_1 : decode prog_8_method_12_code 1 = .ok (.iconst 1, 1) := by decide +kernel
theorem d_X6_feed_2 : decode prog_8_method_12_code 2 = .ok (.iconst 5, 1) := by decide +kernel
theorem d_X6_feed_3 : decode prog_8_method_12_code 3 = .ok (.invokestatic 78, 3) := by decide +kernel
theorem d_X6_feed_6 : decode prog_8_method_12_code 6 = .ok (.ifCond .eq 41, 3) := by decide +kernel
theorem d_X6_feed_9 : decode prog_8_method_12_code 9 = .ok (.iload_n 2, 1) := by decide +kernel
theorem d_X6_feed_10 : decode prog_8_method_12_code 10 = .ok (.invokestatic 102, 3) := by decide +kernel
theorem d_X6_feed_13 : decode prog_8_method_12_code 13 = .ok (.ifCond .eq 34, 3) := by decide +kernel
theorem d_X6_feed_16 : decode prog_8_method_12_code 16 = .ok (.iload_n 3, 1) := by decide +kernel
theorem d_X6_feed_17 : decode prog_8_method_12_code 17 = .ok (.invokestatic 102, 3) := by decide +kernel
theorem d_X6_feed_20 : decode prog_8_method_12_code 20 = .ok (.ifCond .eq 27, 3) := by decide +kernel
theorem d_X6_feed_23 : decode prog_8_method_12_code 23 = .ok (.iload 4, 2) := by decide +kernel
theorem d_X6_feed_25 : decode prog_8_method_12_code 25 = .ok (.invokestatic 102, 3) := by decide +kernel
theorem d_X6_feed_28 : decode prog_8_method_12_code 28 = .ok (.ifCond .eq 19, 3) := by decide +kernel
theorem d_X6_feed_31 : decode prog_8_method_12_code 31 = .ok (.iload 5, 2) := by decide +kernel
theorem d_X6_feed_33 : decode prog_8_method_12_code 33 = .ok (.invokestatic 102, 3) := by decide +kernel
theorem d_X6_feed_36 : decode prog_8_method_12_code 36 = .ok (.ifCond .eq 11, 3) := by decide +kernel
theorem d_X6_feed_39 : decode prog_8_method_12_code 39 = .ok (.iload 6, 2) := by decide +kernel
theorem d_X6_feed_41 : decode prog_8_method_12_code 41 = .ok (.invokestatic 102, 3) := by decide +kernel
theorem d_X6_feed_44 : decode prog_8_method_12_code 44 = .ok (.ifCond .ne 6, 3) := by decide +kernel
theorem d_X6_feed_47 : decode prog_8_method_12_code 47 = .ok (.bipush (-2), 2) := by decide +kernel
theorem d_X6_feed_49 : decode prog_8_method_12_code 49 = .ok (.ireturn, 1) := by decide +kernel
theorem d_X6_feed_50 : decode prog_8_method_12_code 50 = .ok (.aload_n 0, 1) := by decide +kernel
theorem d_X6_feed_51 : decode prog_8_method_12_code 51 = .ok (.getfield 67, 3) := by decide +kernel
theorem d_X6_feed_54 : decode prog_8_method_12_code 54 = .ok (.iload_n 1, 1) := by decide +kernel
theorem d_X6_feed_55 : decode prog_8_method_12_code 55 = .ok (.iadd, 1) := by decide +kernel
theorem d_X6_feed_56 : decode prog_8_method_12_code 56 = .ok (.sipush 160, 3) := by decide +kernel
theorem d_X6_feed_59 : decode prog_8_method_12_code 59 = .ok (.if_icmp .le 6, 3) := by decide +kernel
theorem d_X6_feed_62 : decode prog_8_method_12_code 62 = .ok (.bipush (-4), 2) := by decide +kernel
theorem d_X6_feed_64 : decode prog_8_method_12_code 64 = .ok (.ireturn, 1) := by decide +kernel
theorem d_X6_feed_65 : decode prog_8_method_12_code 65 = .ok (.iconst 0, 1) := by decide +kernel
theorem d_X6_feed_66 : decode prog_8_method_12_code 66 = .ok (.istore 7, 2) := by decide +kernel
theorem d_X6_feed_68 : decode prog_8_method_12_code 68 = .ok (.iload 7, 2) := by decide +kernel
theorem d_X6_feed_70 : decode prog_8_method_12_code 70 = .ok (.iload_n 1, 1) := by decide +kernel
theorem d_X6_feed_71 : decode prog_8_method_12_code 71 = .ok (.if_icmp .ge 71, 3) := by decide +kernel
theorem d_X6_feed_74 : decode prog_8_method_12_code 74 = .ok (.aload_n 0, 1) := by decide +kernel
theorem d_X6_feed_75 : decode prog_8_method_12_code 75 = .ok (.getfield 22, 3) := by decide +kernel
theorem d_X6_feed_78 : decode prog_8_method_12_code 78 = .ok (.aload_n 0, 1) := by decide +kernel
theorem d_X6_feed_79 : decode prog_8_method_12_code 79 = .ok (.getfield 67, 3) := by decide +kernel
theorem d_X6_feed_82 : decode prog_8_method_12_code 82 = .ok (.iload 7, 2) := by decide +kernel
theorem d_X6_feed_84 : decode prog_8_method_12_code 84 = .ok (.ifCond .ne 7, 3) := by decide +kernel
theorem d_X6_feed_87 : decode prog_8_method_12_code 87 = .ok (.iload_n 2, 1) := by decide +kernel
theorem d_X6_feed_88 : decode prog_8_method_12_code 88 = .ok (.goto 37, 3) := by decide +kernel
theorem d_X6_feed_91 : decode prog_8_method_12_code 91 = .ok (.iload 7, 2) := by decide +kernel
theorem d_X6_feed_93 : decode prog_8_method_12_code 93 = .ok (.iconst 1, 1) := by decide +kernel
theorem d_X6_feed_94 : decode prog_8_method_12_code 94 = .ok (.if_icmp .ne 7, 3) := by decide +kernel
theorem d_X6_feed_97 : decode prog_8_method_12_code 97 = .ok (.iload_n 3, 1) := by decide +kernel
theorem d_X6_feed_98 : decode prog_8_method_12_code 98 = .ok (.goto 27, 3) := by decide +kernel
theorem d_X6_feed_101 : decode prog_8_method_12_code 101 = .ok (.iload 7, 2) := by decide +kernel
theorem d_X6_feed_103 : decode prog_8_method_12_code 103 = .ok (.iconst 2, 1) := by decide +kernel
theorem d_X6_feed_104 : decode prog_8_method_12_code 104 = .ok (.if_icmp .ne 8, 3) := by decide +kernel
theorem d_X6_feed_107 : decode prog_8_method_12_code 107 = .ok (.iload 4, 2) := by decide +kernel
theorem d_X6_feed_109 : decode prog_8_method_12_code 109 = .ok (.goto 16, 3) := by decide +kernel
theorem d_X6_feed_112 : decode prog_8_method_12_code 112 = .ok (.iload 7, 2) := by decide +kernel
theorem d_X6_feed_114 : decode prog_8_method_12_code 114 = .ok (.iconst 3, 1) := by decide +kernel
theorem d_X6_feed_115 : decode prog_8_method_12_code 115 = .ok (.if_icmp .ne 8, 3) := by decide +kernel
theorem d_X6_feed_118 : decode prog_8_method_12_code 118 = .ok (.iload 5, 2) := by decide +kernel
theorem d_X6_feed_120 : decode prog_8_method_12_code 120 = .ok (.goto 5, 3) := by decide +kernel
theorem d_X6_feed_123 : decode prog_8_method_12_code 123 = .ok (.iload 6, 2) := by decide +kernel
theorem d_X6_feed_125 : decode prog_8_method_12_code 125 = .ok (.iastore, 1) := by decide +kernel
theorem d_X6_feed_126 : decode prog_8_method_12_code 126 = .ok (.aload_n 0, 1) := by decide +kernel
theorem d_X6_feed_127 : decode prog_8_method_12_code 127 = .ok (.dup, 1) := by decide +kernel
theorem d_X6_feed_128 : decode prog_8_method_12_code 128 = .ok (.getfield 67, 3) := by decide +kernel
theorem d_X6_feed_131 : decode prog_8_method_12_code 131 = .ok (.iconst 1, 1) := by decide +kernel
theorem d_X6_feed_132 : decode prog_8_method_12_code 132 = .ok (.iadd, 1) := by decide +kernel
theorem d_X6_feed_133 : decode prog_8_method_12_code 133 = .ok (.putfield 67, 3) := by decide +kernel
theorem d_X6_feed_136 : decode prog_8_method_12_code 136 = .ok (.iinc 7 1, 3) := by decide +kernel
theorem d_X6_feed_139 : decode prog_8_method_12_code 139 = .ok (.goto (-71), 3) := by decide +kernel
theorem d_X6_feed_142 : decode prog_8_method_12_code 142 = .ok (.aload_n 0, 1) := by decide +kernel
theorem d_X6_feed_143 : decode prog_8_method_12_code 143 = .ok (.getfield 67, 3) := by decide +kernel
theorem d_X6_feed_146 : decode prog_8_method_12_code 146 = .ok (.ireturn, 1) := by decide +kernel
def lp_X6_feed_68 (κ : it_KK) (x1 : Int32) (x2 : Int32) (x3 : Int32) (x4 : Int32) (x5 : Int32) (x6 : Int32) (k68 : (it_SS → Option (Int32 × it_SS))) : Nat → Int32 → it_SS → Option (Int32 × it_SS)
  | 0, _, _ => none
  | n68 + 1, v7, S => if x1 ≤ v7 then
k68  S
else
if v7 = 0 then
if it_bd (S 45 7) 160 = true then
lp_X6_feed_68 κ x1 x2 x3 x4 x5 x6 k68 n68 (v7 + 1) (it_up (it_up S 50 ((S 45 7) : Int32).toNatClampNeg x2) 45 7 (((it_up S 50 ((S 45 7) : Int32).toNatClampNeg x2) 45 7) + 1))
else none
else
if v7 = 1 then
if it_bd (S 45 7) 160 = true then
lp_X6_feed_68 κ x1 x2 x3 x4 x5 x6 k68 n68 (v7 + 1) (it_up (it_up S 50 ((S 45 7) : Int32).toNatClampNeg x3) 45 7 (((it_up S 50 ((S 45 7) : Int32).toNatClampNeg x3) 45 7) + 1))
else none
else
if v7 = 2 then
if it_bd (S 45 7) 160 = true then
lp_X6_feed_68 κ x1 x2 x3 x4 x5 x6 k68 n68 (v7 + 1) (it_up (it_up S 50 ((S 45 7) : Int32).toNatClampNeg x4) 45 7 (((it_up S 50 ((S 45 7) : Int32).toNatClampNeg x4) 45 7) + 1))
else none
else
if v7 = 3 then
if it_bd (S 45 7) 160 = true then
lp_X6_feed_68 κ x1 x2 x3 x4 x5 x6 k68 n68 (v7 + 1) (it_up (it_up S 50 ((S 45 7) : Int32).toNatClampNeg x5) 45 7 (((it_up S 50 ((S 45 7) : Int32).toNatClampNeg x5) 45 7) + 1))
else none
else
if it_bd (S 45 7) 160 = true then
lp_X6_feed_68 κ x1 x2 x3 x4 x5 x6 k68 n68 (v7 + 1) (it_up (it_up S 50 ((S 45 7) : Int32).toNatClampNeg x6) 45 7 (((it_up S 50 ((S 45 7) : Int32).toNatClampNeg x6) 45 7) + 1))
else none
def f_X6_feed (κ : it_KK) (x1 : Int32) (x2 : Int32) (x3 : Int32) (x4 : Int32) (x5 : Int32) (x6 : Int32) (S : it_SS) : Option (Int32 × it_SS) :=
it_bi (f_X6_in κ x1 1 5 S) (fun r2 S1 =>
if r2 = 0 then
some ((-2), S1)
else
it_bi (f_X6_isByte κ x2 S1) (fun r5 S4 =>
if r5 = 0 then
some ((-2), S4)
else
it_bi (f_X6_isByte κ x3 S4) (fun r8 S7 =>
if r8 = 0 then
some ((-2), S7)
else
it_bi (f_X6_isByte κ x4 S7) (fun r11 S10 =>
if r11 = 0 then
some ((-2), S10)
else
it_bi (f_X6_isByte κ x5 S10) (fun r14 S13 =>
if r14 = 0 then
some ((-2), S13)
else
it_bi (f_X6_isByte κ x6 S13) (fun r17 S16 =>
if r17 = 0 then
some ((-2), S16)
else
if ((S16 45 7) + x1) ≤ 160 then
lp_X6_feed_68 κ x1 x2 x3 x4 x5 x6 (fun  S30 =>
some ((S30 45 7), S30)) it_FU 0 S16
else
some ((-4), S16)))))))
set_option maxHeartbeats 4000000 in
set_option maxRecDepth 100000 in
theorem Llp_X6_feed_68 {g : it_G} {l : Launch} {κ : it_KK} {x1 : Int32} {x2 : Int32} {x3 : Int32} {x4 : Int32} {x5 : Int32} {x6 : Int32} (hm : it_wm κ) {P : Int32 → it_SS → Prop} {k68 : (it_SS → Option (Int32 × it_SS))} (hk68 : ∀  (S : it_SS), it_ok (k68  S) P → it_Ev g l 3 it_m_X6_feed 0 0 142 [some (.ref 45), none, none, none, none, none, none, none] [] κ S (it_pi κ P)) : ∀ (n : Nat) (v7 : Int32) (S : it_SS), it_ok (lp_X6_feed_68 κ x1 x2 x3 x4 x5 x6 k68 n v7 S) P → it_Ev g l 3 it_m_X6_feed 0 0 68 [some (.ref 45), some (.int x1), some (.int x2), some (.int x3), some (.int x4), some (.int x5), some (.int x6), some (.int v7)] [] κ S (it_pi κ P) := by
  intro n
  induction n with
  | zero =>
    intro _ _ h
    exact (it_ok_n h).elim
  | succ n68 ih68 =>
    intro v7 S h
    rw [lp_X6_feed_68] at h
    refine ev_iload d_X6_feed_68 rfl ?_
    refine ev_iload_n d_X6_feed_70 rfl ?_
    refine ev_icmp_ge (tgt := 142) d_X6_feed_71 (by decide) (fun hc20 => ?_) (fun hc20 => ?_)
    · have h := it_ok_t h hc20
      refine ev_keep [true, false, false, false, false, false, false, false] ?_
      exact hk68  _ h
    · have h := it_ok_f h hc20
      refine ev_aload_n d_X6_feed_74 rfl ?_
      refine ev_getRr (r := 50) rfl d_X6_feed_75 fl_IcedTooSoonModel_22 hm.1 rfl ?_
      refine ev_aload_n d_X6_feed_78 rfl ?_
      refine ev_getI d_X6_feed_79 fl_IcedTooSoonModel_67 hm.1 rfl ?_
      refine ev_iload d_X6_feed_82 rfl ?_
      refine ev_if_ne (tgt := 91) d_X6_feed_84 (by decide) (fun hc21 => ?_) (fun hc21 => ?_)
      · have h := it_ok_f h hc21
        refine ev_iload d_X6_feed_91 rfl ?_
        refine ev_iconst d_X6_feed_93 kv_iconst_1 ?_
        refine ev_icmp_ne (tgt := 101) d_X6_feed_94 (by decide) (fun hc22 => ?_) (fun hc22 => ?_)
        · have h := it_ok_f h hc22
          refine ev_iload d_X6_feed_101 rfl ?_
          refine ev_iconst d_X6_feed_103 kv_iconst_2 ?_
          refine ev_icmp_ne (tgt := 112) d_X6_feed_104 (by decide) (fun hc23 => ?_) (fun hc23 => ?_)
          · have h := it_ok_f h hc23
            refine ev_iload d_X6_feed_112 rfl ?_
            refine ev_iconst d_X6_feed_114 kv_iconst_3 ?_
            refine ev_icmp_ne (tgt := 123) d_X6_feed_115 (by decide) (fun hc24 => ?_) (fun hc24 => ?_)
            · have h := it_ok_f h hc24
              refine ev_iload d_X6_feed_123 rfl ?_
              obtain ⟨hb25, h⟩ := it_ok_g h
              refine ev_iast d_X6_feed_125 (by decide) (hm).2.2.2.2.2.1 (it_bd_in hb25) ?_
              refine ev_aload_n d_X6_feed_126 rfl ?_
              refine ev_dup d_X6_feed_127 rfl ?_
              refine ev_getI d_X6_feed_128 fl_IcedTooSoonModel_67 hm.1 rfl ?_
              refine ev_iconst d_X6_feed_131 kv_iconst_1 ?_
              refine ev_iadd d_X6_feed_132 ?_
              refine ev_putI d_X6_feed_133 (by decide) fl_IcedTooSoonModel_67 fw_6_7 hm.1 rfl ?_
              refine ev_iinc d_X6_feed_136 kv_iconst_1 rfl (by decide) ?_
              show it_Ev g l 3 it_m_X6_feed 0 0 139 [some (.ref 45), some (.int x1), some (.int x2), some (.int x3), some (.int x4), some (.int x5), some (.int x6), some (.int (v7 + 1))] [] κ (it_up (it_up S 50 ((S 45 7) : Int32).toNatClampNeg x6) 45 7 (((it_up S 50 ((S 45 7) : Int32).toNatClampNeg x6) 45 7) + 1)) (it_pi κ P)
              refine ev_goto (tgt := 68) d_X6_feed_139 (by decide) ?_
              refine ev_keep [true, true, true, true, true, true, true, true] ?_
              exact ih68 _ _ h
            · have h := it_ok_t h hc24
              refine ev_iload d_X6_feed_118 rfl ?_
              refine ev_goto (tgt := 125) d_X6_feed_120 (by decide) ?_
              obtain ⟨hb26, h⟩ := it_ok_g h
              refine ev_iast d_X6_feed_125 (by decide) (hm).2.2.2.2.2.1 (it_bd_in hb26) ?_
              refine ev_aload_n d_X6_feed_126 rfl ?_
              refine ev_dup d_X6_feed_127 rfl ?_
              refine ev_getI d_X6_feed_128 fl_IcedTooSoonModel_67 hm.1 rfl ?_
              refine ev_iconst d_X6_feed_131 kv_iconst_1 ?_
              refine ev_iadd d_X6_feed_132 ?_
              refine ev_putI d_X6_feed_133 (by decide) fl_IcedTooSoonModel_67 fw_6_7 hm.1 rfl ?_
              refine ev_iinc d_X6_feed_136 kv_iconst_1 rfl (by decide) ?_
              show it_Ev g l 3 it_m_X6_feed 0 0 139 [some (.ref 45), some (.int x1), some (.int x2), some (.int x3), some (.int x4), some (.int x5), some (.int x6), some (.int (v7 + 1))] [] κ (it_up (it_up S 50 ((S 45 7) : Int32).toNatClampNeg x5) 45 7 (((it_up S 50 ((S 45 7) : Int32).toNatClampNeg x5) 45 7) + 1)) (it_pi κ P)
              refine ev_goto (tgt := 68) d_X6_feed_139 (by decide) ?_
              refine ev_keep [true, true, true, true, true, true, true, true] ?_
              exact ih68 _ _ h
          · have h := it_ok_t h hc23
            refine ev_iload d_X6_feed_107 rfl ?_
            refine ev_goto (tgt := 125) d_X6_feed_109 (by decide) ?_
            obtain ⟨hb27, h⟩ := it_ok_g h
            refine ev_iast d_X6_feed_125 (by decide) (hm).2.2.2.2.2.1 (it_bd_in hb27) ?_
            refine ev_aload_n d_X6_feed_126 rfl ?_
            refine ev_dup d_X6_feed_127 rfl ?_
            refine ev_getI d_X6_feed_128 fl_IcedTooSoonModel_67 hm.1 rfl ?_
            refine ev_iconst d_X6_feed_131 kv_iconst_1 ?_
            refine ev_iadd d_X6_feed_132 ?_
            refine ev_putI d_X6_feed_133 (by decide) fl_IcedTooSoonModel_67 fw_6_7 hm.1 rfl ?_
            refine ev_iinc d_X6_feed_136 kv_iconst_1 rfl (by decide) ?_
            show it_Ev g l 3 it_m_X6_feed 0 0 139 [some (.ref 45), some (.int x1), some (.int x2), some (.int x3), some (.int x4), some (.int x5), some (.int x6), some (.int (v7 + 1))] [] κ (it_up (it_up S 50 ((S 45 7) : Int32).toNatClampNeg x4) 45 7 (((it_up S 50 ((S 45 7) : Int32).toNatClampNeg x4) 45 7) + 1)) (it_pi κ P)
            refine ev_goto (tgt := 68) d_X6_feed_139 (by decide) ?_
            refine ev_keep [true, true, true, true, true, true, true, true] ?_
            exact ih68 _ _ h
        · have h := it_ok_t h hc22
          refine ev_iload_n d_X6_feed_97 rfl ?_
          refine ev_goto (tgt := 125) d_X6_feed_98 (by decide) ?_
          obtain ⟨hb28, h⟩ := it_ok_g h
          refine ev_iast d_X6_feed_125 (by decide) (hm).2.2.2.2.2.1 (it_bd_in hb28) ?_
          refine ev_aload_n d_X6_feed_126 rfl ?_
          refine ev_dup d_X6_feed_127 rfl ?_
          refine ev_getI d_X6_feed_128 fl_IcedTooSoonModel_67 hm.1 rfl ?_
          refine ev_iconst d_X6_feed_131 kv_iconst_1 ?_
          refine ev_iadd d_X6_feed_132 ?_
          refine ev_putI d_X6_feed_133 (by decide) fl_IcedTooSoonModel_67 fw_6_7 hm.1 rfl ?_
          refine ev_iinc d_X6_feed_136 kv_iconst_1 rfl (by decide) ?_
          show it_Ev g l 3 it_m_X6_feed 0 0 139 [some (.ref 45), some (.int x1), some (.int x2), some (.int x3), some (.int x4), some (.int x5), some (.int x6), some (.int (v7 + 1))] [] κ (it_up (it_up S 50 ((S 45 7) : Int32).toNatClampNeg x3) 45 7 (((it_up S 50 ((S 45 7) : Int32).toNatClampNeg x3) 45 7) + 1)) (it_pi κ P)
          refine ev_goto (tgt := 68) d_X6_feed_139 (by decide) ?_
          refine ev_keep [true, true, true, true, true, true, true, true] ?_
          exact ih68 _ _ h
      · have h := it_ok_t h hc21
        refine ev_iload_n d_X6_feed_87 rfl ?_
        refine ev_goto (tgt := 125) d_X6_feed_88 (by decide) ?_
        obtain ⟨hb29, h⟩ := it_ok_g h
        refine ev_iast d_X6_feed_125 (by decide) (hm).2.2.2.2.2.1 (it_bd_in hb29) ?_
        refine ev_aload_n d_X6_feed_126 rfl ?_
        refine ev_dup d_X6_feed_127 rfl ?_
        refine ev_getI d_X6_feed_128 fl_IcedTooSoonModel_67 hm.1 rfl ?_
        refine ev_iconst d_X6_feed_131 kv_iconst_1 ?_
        refine ev_iadd d_X6_feed_132 ?_
        refine ev_putI d_X6_feed_133 (by decide) fl_IcedTooSoonModel_67 fw_6_7 hm.1 rfl ?_
        refine ev_iinc d_X6_feed_136 kv_iconst_1 rfl (by decide) ?_
        show it_Ev g l 3 it_m_X6_feed 0 0 139 [some (.ref 45), some (.int x1), some (.int x2), some (.int x3), some (.int x4), some (.int x5), some (.int x6), some (.int (v7 + 1))] [] κ (it_up (it_up S 50 ((S 45 7) : Int32).toNatClampNeg x2) 45 7 (((it_up S 50 ((S 45 7) : Int32).toNatClampNeg x2) 45 7) + 1)) (it_pi κ P)
        refine ev_goto (tgt := 68) d_X6_feed_139 (by decide) ?_
        refine ev_keep [true, true, true, true, true, true, true, true] ?_
        exact ih68 _ _ h
set_option maxHeartbeats 4000000 in
set_option maxRecDepth 100000 in
theorem L_X6_feed {g : it_G} {l : Launch} {κ : it_KK} {x1 : Int32} {x2 : Int32} {x3 : Int32} {x4 : Int32} {x5 : Int32} {x6 : Int32} (hm : it_wm κ) {S : it_SS} {P : Int32 → it_SS → Prop} (h : it_ok (f_X6_feed κ x1 x2 x3 x4 x5 x6 S) P) : it_Cn g l 3 it_m_X6_feed [.ref 45, .int x1, .int x2, .int x3, .int x4, .int x5, .int x6] κ S (it_pi κ P) := by
  refine it_Cn.of (by decide +kernel) (Nat.le_of_ble_eq_true rfl) ?_
  rw [f_X6_feed] at h
  show it_Ev g l 3 it_m_X6_feed 0 0 0 [some (.ref 45), some (.int x1), some (.int x2), some (.int x3), some (.int x4), some (.int x5), some (.int x6), none] [] κ S (it_pi κ P)
  refine ev_iload_n d_X6_feed_0 rfl ?_
  refine ev_iconst d_X6_feed_1 kv_iconst_1 ?_
  refine ev_iconst d_X6_feed_2 kv_iconst_5 ?_
  refine ev_callS (M' := it_m_X6_in) (d' := 1) (As := [.int x1, .int 1, .int 5]) d_X6_feed_3 ml_IcedTooSoonModel_78 rfl rfl (Nat.le_of_ble_eq_true rfl) (by decide) (by decide) (by decide) (L_X6_in  (it_ok_b h)) (fun _ _ _ _ q => by cases q.1; rfl) ?_
  rintro _ _ S1 ⟨rfl, r2, rfl, h⟩
  show it_Ev g l 3 it_m_X6_feed 0 0 6 [some (.ref 45), some (.int x1), some (.int x2), some (.int x3), some (.int x4), some (.int x5), some (.int x6), none] [.int r2] κ S1 (it_pi κ P)
  refine ev_if_eq (tgt := 47) d_X6_feed_6 (by decide) (fun hc3 => ?_) (fun hc3 => ?_)
  · have h := it_ok_t h hc3
    refine ev_bipush d_X6_feed_47 kv_bipush_m2 ?_
    exact ev_ret (v := some (.int _)) ⟨d_X6_feed_49, _, rfl, rfl⟩ (by decide) (by decide) ⟨rfl, _, rfl, it_ok_r h⟩
  · have h := it_ok_f h hc3
    refine ev_iload_n d_X6_feed_9 rfl ?_
    refine ev_callS (M' := it_m_X6_isByte) (d' := 2) (As := [.int x2]) d_X6_feed_10 ml_IcedTooSoonModel_102 rfl rfl (Nat.le_of_ble_eq_true rfl) (by decide) (by decide) (by decide) (L_X6_isByte  (it_ok_b h)) (fun _ _ _ _ q => by cases q.1; rfl) ?_
    rintro _ _ S4 ⟨rfl, r5, rfl, h⟩
    show it_Ev g l 3 it_m_X6_feed 0 0 13 [some (.ref 45), some (.int x1), some (.int x2), some (.int x3), some (.int x4), some (.int x5), some (.int x6), none] [.int r5] κ S4 (it_pi κ P)
    refine ev_if_eq (tgt := 47) d_X6_feed_13 (by decide) (fun hc6 => ?_) (fun hc6 => ?_)
    · have h := it_ok_t h hc6
      refine ev_bipush d_X6_feed_47 kv_bipush_m2 ?_
      exact ev_ret (v := some (.int _)) ⟨d_X6_feed_49, _, rfl, rfl⟩ (by decide) (by decide) ⟨rfl, _, rfl, it_ok_r h⟩
    · have h := it_ok_f h hc6
      refine ev_iload_n d_X6_feed_16 rfl ?_
      refine ev_callS (M' := it_m_X6_isByte) (d' := 2) (As := [.int x3]) d_X6_feed_17 ml_IcedTooSoonModel_102 rfl rfl (Nat.le_of_ble_eq_true rfl) (by decide) (by decide) (by decide) (L_X6_isByte  (it_ok_b h)) (fun _ _ _ _ q => by cases q.1; rfl) ?_
      rintro _ _ S7 ⟨rfl, r8, rfl, h⟩
      show it_Ev g l 3 it_m_X6_feed 0 0 20 [some (.ref 45), some (.int x1), some (.int x2), some (.int x3), some (.int x4), some (.int x5), some (.int x6), none] [.int r8] κ S7 (it_pi κ P)
      refine ev_if_eq (tgt := 47) d_X6_feed_20 (by decide) (fun hc9 => ?_) (fun hc9 => ?_)
      · have h := it_ok_t h hc9
        refine ev_bipush d_X6_feed_47 kv_bipush_m2 ?_
        exact ev_ret (v := some (.int _)) ⟨d_X6_feed_49, _, rfl, rfl⟩ (by decide) (by decide) ⟨rfl, _, rfl, it_ok_r h⟩
      · have h := it_ok_f h hc9
        refine ev_iload d_X6_feed_23 rfl ?_
        refine ev_callS (M' := it_m_X6_isByte) (d' := 2) (As := [.int x4]) d_X6_feed_25 ml_IcedTooSoonModel_102 rfl rfl (Nat.le_of_ble_eq_true rfl) (by decide) (by decide) (by decide) (L_X6_isByte  (it_ok_b h)) (fun _ _ _ _ q => by cases q.1; rfl) ?_
        rintro _ _ S10 ⟨rfl, r11, rfl, h⟩
        show it_Ev g l 3 it_m_X6_feed 0 0 28 [some (.ref 45), some (.int x1), some (.int x2), some (.int x3), some (.int x4), some (.int x5), some (.int x6), none] [.int r11] κ S10 (it_pi κ P)
        refine ev_if_eq (tgt := 47) d_X6_feed_28 (by decide) (fun hc12 => ?_) (fun hc12 => ?_)
        · have h := it_ok_t h hc12
          refine ev_bipush d_X6_feed_47 kv_bipush_m2 ?_
          exact ev_ret (v := some (.int _)) ⟨d_X6_feed_49, _, rfl, rfl⟩ (by decide) (by decide) ⟨rfl, _, rfl, it_ok_r h⟩
        · have h := it_ok_f h hc12
          refine ev_iload d_X6_feed_31 rfl ?_
          refine ev_callS (M' := it_m_X6_isByte) (d' := 2) (As := [.int x5]) d_X6_feed_33 ml_IcedTooSoonModel_102 rfl rfl (Nat.le_of_ble_eq_true rfl) (by decide) (by decide) (by decide) (L_X6_isByte  (it_ok_b h)) (fun _ _ _ _ q => by cases q.1; rfl) ?_
          rintro _ _ S13 ⟨rfl, r14, rfl, h⟩
          show it_Ev g l 3 it_m_X6_feed 0 0 36 [some (.ref 45), some (.int x1), some (.int x2), some (.int x3), some (.int x4), some (.int x5), some (.int x6), none] [.int r14] κ S13 (it_pi κ P)
          refine ev_if_eq (tgt := 47) d_X6_feed_36 (by decide) (fun hc15 => ?_) (fun hc15 => ?_)
          · have h := it_ok_t h hc15
            refine ev_bipush d_X6_feed_47 kv_bipush_m2 ?_
            exact ev_ret (v := some (.int _)) ⟨d_X6_feed_49, _, rfl, rfl⟩ (by decide) (by decide) ⟨rfl, _, rfl, it_ok_r h⟩
          · have h := it_ok_f h hc15
            refine ev_iload d_X6_feed_39 rfl ?_
            refine ev_callS (M' := it_m_X6_isByte) (d' := 2) (As := [.int x6]) d_X6_feed_41 ml_IcedTooSoonModel_102 rfl rfl (Nat.le_of_ble_eq_true rfl) (by decide) (by decide) (by decide) (L_X6_isByte  (it_ok_b h)) (fun _ _ _ _ q => by cases q.1; rfl) ?_
            rintro _ _ S16 ⟨rfl, r17, rfl, h⟩
            show it_Ev g l 3 it_m_X6_feed 0 0 44 [some (.ref 45), some (.int x1), some (.int x2), some (.int x3), some (.int x4), some (.int x5), some (.int x6), none] [.int r17] κ S16 (it_pi κ P)
            refine ev_if_ne (tgt := 50) d_X6_feed_44 (by decide) (fun hc18 => ?_) (fun hc18 => ?_)
            · have h := it_ok_f h hc18
              refine ev_aload_n d_X6_feed_50 rfl ?_
              refine ev_getI d_X6_feed_51 fl_IcedTooSoonModel_67 hm.1 rfl ?_
              refine ev_iload_n d_X6_feed_54 rfl ?_
              refine ev_iadd d_X6_feed_55 ?_
              refine ev_sipush d_X6_feed_56 kv_sipush_160 ?_
              refine ev_icmp_le (tgt := 65) d_X6_feed_59 (by decide) (fun hc19 => ?_) (fun hc19 => ?_)
              · have h := it_ok_t h hc19
                refine ev_iconst d_X6_feed_65 kv_iconst_0 ?_
                refine ev_istore d_X6_feed_66 (by decide) ?_
                show it_Ev g l 3 it_m_X6_feed 0 0 68 [some (.ref 45), some (.int x1), some (.int x2), some (.int x3), some (.int x4), some (.int x5), some (.int x6), some (.int 0)] [] κ S16 (it_pi κ P)
                refine ev_keep [true, true, true, true, true, true, true, true] ?_
                refine Llp_X6_feed_68 hm (fun  S30 h => ?_) _ _ _ h
                show it_Ev g l 3 it_m_X6_feed 0 0 142 [some (.ref 45), none, none, none, none, none, none, none] [] κ S30 (it_pi κ P)
                refine ev_aload_n d_X6_feed_142 rfl ?_
                refine ev_getI d_X6_feed_143 fl_IcedTooSoonModel_67 hm.1 rfl ?_
                exact ev_ret (v := some (.int _)) ⟨d_X6_feed_146, _, rfl, rfl⟩ (by decide) (by decide) ⟨rfl, _, rfl, it_ok_r h⟩
              · have h := it_ok_f h hc19
                refine ev_bipush d_X6_feed_62 kv_bipush_m4 ?_
                exact ev_ret (v := some (.int _)) ⟨d_X6_feed_64, _, rfl, rfl⟩ (by decide) (by decide) ⟨rfl, _, rfl, it_ok_r h⟩
            · have h := it_ok_t h hc18
              refine ev_bipush d_X6_feed_47 kv_bipush_m2 ?_
              exact ev_ret (v := some (.int _)) ⟨d_X6_feed_49, _, rfl, rfl⟩ (by decide) (by decide) ⟨rfl, _, rfl, it_ok_r h⟩
theorem d_X6_wordFrom_0 : decode prog_8_method_13_code 0 = .ok (.iconst 0, 1) := by decide +kernel
theorem d_X6_wordFrom_1 : decode prog_8_method_13_code 1 = .ok (.istore_n 3, 1) := by decide +kernel
theorem d_X6_wordFrom_2 : decode prog_8_method_13_code 2 = .ok (.iload_n 3, 1) := by decide +kernel
theorem d_X6_wordFrom_3 : decode prog_8_method_13_code 3 = .ok (.bipush 12, 2) := by decide +kernel
theorem d_X6_wordFrom_5 : decode prog_8_method_13_code 5 = .ok (.if_icmp .ge 96, 3) := by decide +kernel
theorem d_X6_wordFrom_8 : decode prog_8_method_13_code 8 = .ok (.iload_n 2, 1) := by decide +kernel
theorem d_X6_wordFrom_9 : decode prog_8_method_13_code 9 = .ok (.iload_n 1, 1) := by decide +kernel
theorem d_X6_wordFrom_10 : decode prog_8_method_13_code 10 = .ok (.isub, 1) := by decide +kernel
theorem d_X6_wordFrom_11 : decode prog_8_method_13_code 11 = .ok (.bipush 8, 2) := by decide +kernel
theorem d_X6_wordFrom_13 : decode prog_8_method_13_code 13 = .ok (.if_icmp .gt 7, 3) := by decide +kernel
theorem d_X6_wordFrom_16 : decode prog_8_method_13_code 16 = .ok (.iconst 1, 1) := by decide +kernel
theorem d_X6_wordFrom_17 : decode prog_8_method_13_code 17 = .ok (.goto 4, 3) := by decide +kernel
theorem d_X6_wordFrom_20 : decode prog_8_method_13_code 20 = .ok (.iconst 0, 1) := by decide +kernel
theorem d_X6_wordFrom_21 : decode prog_8_method_13_code 21 = .ok (.istore 4, 2) := by decide +kernel
theorem d_X6_wordFrom_23 : decode prog_8_method_13_code 23 = .ok (.iconst 0, 1) := by decide +kernel
theorem d_X6_wordFrom_24 : decode prog_8_method_13_code 24 = .ok (.istore 5, 2) := by decide +kernel
theorem d_X6_wordFrom_26 : decode prog_8_method_13_code 26 = .ok (.iload 5, 2) := by decide +kernel
theorem d_X6_wordFrom_28 : decode prog_8_method_13_code 28 = .ok (.bipush 8, 2) := by decide +kernel
theorem d_X6_wordFrom_30 : decode prog_8_method_13_code 30 = .ok (.if_icmp .ge 58, 3) := by decide +kernel
theorem d_X6_wordFrom_33 : decode prog_8_method_13_code 33 = .ok (.iload 4, 2) := by decide +kernel
theorem d_X6_wordFrom_35 : decode prog_8_method_13_code 35 = .ok (.ifCond .eq 53, 3) := by decide +kernel
theorem d_X6_wordFrom_38 : decode prog_8_method_13_code 38 = .ok (.aload_n 0, 1) := by decide +kernel
theorem d_X6_wordFrom_39 : decode prog_8_method_13_code 39 = .ok (.getfield 49, 3) := by decide +kernel
theorem d_X6_wordFrom_42 : decode prog_8_method_13_code 42 = .ok (.bipush 8, 2) := by decide +kernel
theorem d_X6_wordFrom_44 : decode prog_8_method_13_code 44 = .ok (.iload_n 3, 1) := by decide +kernel
theorem d_X6_wordFrom_45 : decode prog_8_method_13_code 45 = .ok (.imul, 1) := by decide +kernel
theorem d_X6_wordFrom_46 : decode prog_8_method_13_code 46 = .ok (.iload 5, 2) := by decide +kernel
theorem d_X6_wordFrom_48 : decode prog_8_method_13_code 48 = .ok (.iadd, 1) := by decide +kernel
theorem d_X6_wordFrom_49 : decode prog_8_method_13_code 49 = .ok (.iaload, 1) := by decide +kernel
theorem d_X6_wordFrom_50 : decode prog_8_method_13_code 50 = .ok (.iload_n 1, 1) := by decide +kernel
theorem d_X6_wordFrom_51 : decode prog_8_method_13_code 51 = .ok (.iload 5, 2) := by decide +kernel
theorem d_X6_wordFrom_53 : decode prog_8_method_13_code 53 = .ok (.iadd, 1) := by decide +kernel
theorem d_X6_wordFrom_54 : decode prog_8_method_13_code 54 = .ok (.iload_n 2, 1) := by decide +kernel
theorem d_X6_wordFrom_55 : decode prog_8_method_13_code 55 = .ok (.if_icmp .ge 15, 3) := by decide +kernel
theorem d_X6_wordFrom_58 : decode prog_8_method_13_code 58 = .ok (.aload_n 0, 1) := by decide +kernel
theorem d_X6_wordFrom_59 : decode prog_8_method_13_code 59 = .ok (.getfield 22, 3) := by decide +kernel
theorem d_X6_wordFrom_62 : decode prog_8_method_13_code 62 = .ok (.iload_n 1, 1) := by decide +kernel
theorem d_X6_wordFrom_63 : decode prog_8_method_13_code 63 = .ok (.iload 5, 2) := by decide +kernel
theorem d_X6_wordFrom_65 : decode prog_8_method_13_code 65 = .ok (.iadd, 1) := by decide +kernel
theorem d_X6_wordFrom_66 : decode prog_8_method_13_code 66 = .ok (.iaload, 1) := by decide +kernel
theorem d_X6_wordFrom_67 : decode prog_8_method_13_code 67 = .ok (.goto 5, 3) := by decide +kernel
theorem d_X6_wordFrom_70 : decode prog_8_method_13_code 70 = .ok (.bipush 32, 2) := by decide +kernel
theorem d_X6_wordFrom_72 : decode prog_8_method_13_code 72 = .ok (.if_icmp .ne 7, 3) := by decide +kernel
theorem d_X6_wordFrom_75 : decode prog_8_method_13_code 75 = .ok (.iconst 1, 1) := by decide +kernel
theorem d_X6_wordFrom_76 : decode prog_8_method_13_code 76 = .ok (.goto 4, 3) := by decide +kernel
theorem d_X6_wordFrom_79 : decode prog_8_method_13_code 79 = .ok (.iconst 0, 1) := by decide +kernel
theorem d_X6_wordFrom_80 : decode prog_8_method_13_code 80 = .ok (.istore 4, 2) := by decide +kernel
theorem d_X6_wordFrom_82 : decode prog_8_method_13_code 82 = .ok (.iinc 5 1, 3) := by decide +kernel
theorem d_X6_wordFrom_85 : decode prog_8_method_13_code 85 = .ok (.goto (-59), 3) := by decide +kernel
theorem d_X6_wordFrom_88 : decode prog_8_method_13_code 88 = .ok (.iload 4, 2) := by decide +kernel
theorem d_X6_wordFrom_90 : decode prog_8_method_13_code 90 = .ok (.ifCond .eq 5, 3) := by decide +kernel
theorem d_X6_wordFrom_93 : decode prog_8_method_13_code 93 = .ok (.iload_n 3, 1) := by decide +kernel
theorem d_X6_wordFrom_94 : decode prog_8_method_13_code 94 = .ok (.ireturn, 1) := by decide +kernel
theorem d_X6_wordFrom_95 : decode prog_8_method_13_code 95 = .ok (.iinc 3 1, 3) := by decide +kernel
theorem d_X6_wordFrom_98 : decode prog_8_method_13_code 98 = .ok (.goto (-96), 3) := by decide +kernel
theorem d_X6_wordFrom_101 : decode prog_8_method_13_code 101 = .ok (.bipush 12, 2) := by decide +kernel
theorem d_X6_wordFrom_103 : decode prog_8_method_13_code 103 = .ok (.ireturn, 1) := by decide +kernel
def lp_X6_wordFrom_26 (κ : it_KK) (x1 : Int32) (x2 : Int32) (k26 : (Int32 → Int32 → it_SS → Option (Int32 × it_SS))) : Nat → Int32 → Int32 → Int32 → it_SS → Option (Int32 × it_SS)
  | 0, _, _, _, _ => none
  | n26 + 1, v3, v4, v5, S => if 8 ≤ v5 then
k26 v3 v4 S
else
if v4 = 0 then
k26 v3 v4 S
else
if it_bd ((8 * v3) + v5) 96 = true then
if x2 ≤ (x1 + v5) then
if (S 59 (((8 * v3) + v5) : Int32).toNatClampNeg) = 32 then
lp_X6_wordFrom_26 κ x1 x2 k26 n26 v3 1 (v5 + 1) S
else
lp_X6_wordFrom_26 κ x1 x2 k26 n26 v3 0 (v5 + 1) S
else
if it_bd (x1 + v5) 160 = true then
if (S 59 (((8 * v3) + v5) : Int32).toNatClampNeg) = (S 50 ((x1 + v5) : Int32).toNatClampNeg) then
lp_X6_wordFrom_26 κ x1 x2 k26 n26 v3 1 (v5 + 1) S
else
lp_X6_wordFrom_26 κ x1 x2 k26 n26 v3 0 (v5 + 1) S
else none
else none
def lp_X6_wordFrom_2 (κ : it_KK) (x1 : Int32) (x2 : Int32) (k2 : (it_SS → Option (Int32 × it_SS))) : Nat → Int32 → it_SS → Option (Int32 × it_SS)
  | 0, _, _ => none
  | n2 + 1, v3, S => if 12 ≤ v3 then
k2  S
else
if 8 < (x2 - x1) then
lp_X6_wordFrom_26 κ x1 x2 (fun v10 v11 S12 =>
if v11 = 0 then
lp_X6_wordFrom_2 κ x1 x2 k2 n2 (v10 + 1) S12
else
some (v10, S12)) it_FU v3 0 0 S
else
lp_X6_wordFrom_26 κ x1 x2 (fun v14 v15 S16 =>
if v15 = 0 then
lp_X6_wordFrom_2 κ x1 x2 k2 n2 (v14 + 1) S16
else
some (v14, S16)) it_FU v3 1 0 S
def f_X6_wordFrom (κ : it_KK) (x1 : Int32) (x2 : Int32) (S : it_SS) : Option (Int32 × it_SS) :=
lp_X6_wordFrom_2 κ x1 x2 (fun  S18 =>
some (12, S18)) it_FU 0 S
set_option maxHeartbeats 4000000 in
set_option maxRecDepth 100000 in
theorem Llp_X6_wordFrom_26 {g : it_G} {l : Launch} {κ : it_KK} {x1 : Int32} {x2 : Int32} (hm : it_wm κ) {P : Int32 → it_SS → Prop} {k26 : (Int32 → Int32 → it_SS → Option (Int32 × it_SS))} (hk26 : ∀ (v3 : Int32) (v4 : Int32) (S : it_SS), it_ok (k26 v3 v4 S) P → it_Ev g l 1 it_m_X6_wordFrom 0 0 88 [some (.ref 45), some (.int x1), some (.int x2), some (.int v3), some (.int v4), none] [] κ S (it_pi κ P)) : ∀ (n : Nat) (v3 : Int32) (v4 : Int32) (v5 : Int32) (S : it_SS), it_ok (lp_X6_wordFrom_26 κ x1 x2 k26 n v3 v4 v5 S) P → it_Ev g l 1 it_m_X6_wordFrom 0 0 26 [some (.ref 45), some (.int x1), some (.int x2), some (.int v3), some (.int v4), some (.int v5)] [] κ S (it_pi κ P) := by
  intro n
  induction n with
  | zero =>
    intro _ _ _ _ h
    exact (it_ok_n h).elim
  | succ n26 ih26 =>
    intro v3 v4 v5 S h
    rw [lp_X6_wordFrom_26] at h
    refine ev_iload d_X6_wordFrom_26 rfl ?_
    refine ev_bipush d_X6_wordFrom_28 kv_bipush_8 ?_
    refine ev_icmp_ge (tgt := 88) d_X6_wordFrom_30 (by decide) (fun hc3 => ?_) (fun hc3 => ?_)
    · have h := it_ok_t h hc3
      refine ev_keep [true, true, true, true, true, false] ?_
      exact hk26 _ _ _ h
    · have h := it_ok_f h hc3
      refine ev_iload d_X6_wordFrom_33 rfl ?_
      refine ev_if_eq (tgt := 88) d_X6_wordFrom_35 (by decide) (fun hc4 => ?_) (fun hc4 => ?_)
      · have h := it_ok_t h hc4
        refine ev_keep [true, true, true, true, true, false] ?_
        exact hk26 _ _ _ h
      · have h := it_ok_f h hc4
        refine ev_aload_n d_X6_wordFrom_38 rfl ?_
        refine ev_getRr (r := 59) rfl d_X6_wordFrom_39 fl_IcedTooSoonModel_49 hm.1 rfl ?_
        refine ev_bipush d_X6_wordFrom_42 kv_bipush_8 ?_
        refine ev_iload_n d_X6_wordFrom_44 rfl ?_
        refine ev_imul d_X6_wordFrom_45 ?_
        refine ev_iload d_X6_wordFrom_46 rfl ?_
        refine ev_iadd d_X6_wordFrom_48 ?_
        obtain ⟨hb5, h⟩ := it_ok_g h
        refine ev_iald d_X6_wordFrom_49 (hm).2.2.2.2.2.2.2.2.2.2.2.2.2.2.1 (it_bd_in hb5) ?_
        refine ev_iload_n d_X6_wordFrom_50 rfl ?_
        refine ev_iload d_X6_wordFrom_51 rfl ?_
        refine ev_iadd d_X6_wordFrom_53 ?_
        refine ev_iload_n d_X6_wordFrom_54 rfl ?_
        refine ev_icmp_ge (tgt := 70) d_X6_wordFrom_55 (by decide) (fun hc6 => ?_) (fun hc6 => ?_)
        · have h := it_ok_t h hc6
          refine ev_bipush d_X6_wordFrom_70 kv_bipush_32 ?_
          refine ev_icmp_ne (tgt := 79) d_X6_wordFrom_72 (by decide) (fun hc7 => ?_) (fun hc7 => ?_)
          · have h := it_ok_f h hc7
            refine ev_iconst d_X6_wordFrom_79 kv_iconst_0 ?_
            refine ev_istore d_X6_wordFrom_80 (by decide) ?_
            show it_Ev g l 1 it_m_X6_wordFrom 0 0 82 [some (.ref 45), some (.int x1), some (.int x2), some (.int v3), some (.int 0), some (.int v5)] [] κ S (it_pi κ P)
            refine ev_iinc d_X6_wordFrom_82 kv_iconst_1 rfl (by decide) ?_
            show it_Ev g l 1 it_m_X6_wordFrom 0 0 85 [some (.ref 45), some (.int x1), some (.int x2), some (.int v3), some (.int 0), some (.int (v5 + 1))] [] κ S (it_pi κ P)
            refine ev_goto (tgt := 26) d_X6_wordFrom_85 (by decide) ?_
            refine ev_keep [true, true, true, true, true, true] ?_
            exact ih26 _ _ _ _ h
          · have h := it_ok_t h hc7
            refine ev_iconst d_X6_wordFrom_75 kv_iconst_1 ?_
            refine ev_goto (tgt := 80) d_X6_wordFrom_76 (by decide) ?_
            refine ev_istore d_X6_wordFrom_80 (by decide) ?_
            show it_Ev g l 1 it_m_X6_wordFrom 0 0 82 [some (.ref 45), some (.int x1), some (.int x2), some (.int v3), some (.int 1), some (.int v5)] [] κ S (it_pi κ P)
            refine ev_iinc d_X6_wordFrom_82 kv_iconst_1 rfl (by decide) ?_
            show it_Ev g l 1 it_m_X6_wordFrom 0 0 85 [some (.ref 45), some (.int x1), some (.int x2), some (.int v3), some (.int 1), some (.int (v5 + 1))] [] κ S (it_pi κ P)
            refine ev_goto (tgt := 26) d_X6_wordFrom_85 (by decide) ?_
            refine ev_keep [true, true, true, true, true, true] ?_
            exact ih26 _ _ _ _ h
        · have h := it_ok_f h hc6
          refine ev_aload_n d_X6_wordFrom_58 rfl ?_
          refine ev_getRr (r := 50) rfl d_X6_wordFrom_59 fl_IcedTooSoonModel_22 hm.1 rfl ?_
          refine ev_iload_n d_X6_wordFrom_62 rfl ?_
          refine ev_iload d_X6_wordFrom_63 rfl ?_
          refine ev_iadd d_X6_wordFrom_65 ?_
          obtain ⟨hb8, h⟩ := it_ok_g h
          refine ev_iald d_X6_wordFrom_66 (hm).2.2.2.2.2.1 (it_bd_in hb8) ?_
          refine ev_goto (tgt := 72) d_X6_wordFrom_67 (by decide) ?_
          refine ev_icmp_ne (tgt := 79) d_X6_wordFrom_72 (by decide) (fun hc9 => ?_) (fun hc9 => ?_)
          · have h := it_ok_f h hc9
            refine ev_iconst d_X6_wordFrom_79 kv_iconst_0 ?_
            refine ev_istore d_X6_wordFrom_80 (by decide) ?_
            show it_Ev g l 1 it_m_X6_wordFrom 0 0 82 [some (.ref 45), some (.int x1), some (.int x2), some (.int v3), some (.int 0), some (.int v5)] [] κ S (it_pi κ P)
            refine ev_iinc d_X6_wordFrom_82 kv_iconst_1 rfl (by decide) ?_
            show it_Ev g l 1 it_m_X6_wordFrom 0 0 85 [some (.ref 45), some (.int x1), some (.int x2), some (.int v3), some (.int 0), some (.int (v5 + 1))] [] κ S (it_pi κ P)
            refine ev_goto (tgt := 26) d_X6_wordFrom_85 (by decide) ?_
            refine ev_keep [true, true, true, true, true, true] ?_
            exact ih26 _ _ _ _ h
          · have h := it_ok_t h hc9
            refine ev_iconst d_X6_wordFrom_75 kv_iconst_1 ?_
            refine ev_goto (tgt := 80) d_X6_wordFrom_76 (by decide) ?_
            refine ev_istore d_X6_wordFrom_80 (by decide) ?_
            show it_Ev g l 1 it_m_X6_wordFrom 0 0 82 [some (.ref 45), some (.int x1), some (.int x2), some (.int v3), some (.int 1), some (.int v5)] [] κ S (it_pi κ P)
            refine ev_iinc d_X6_wordFrom_82 kv_iconst_1 rfl (by decide) ?_
            show it_Ev g l 1 it_m_X6_wordFrom 0 0 85 [some (.ref 45), some (.int x1), some (.int x2), some (.int v3), some (.int 1), some (.int (v5 + 1))] [] κ S (it_pi κ P)
            refine ev_goto (tgt := 26) d_X6_wordFrom_85 (by decide) ?_
            refine ev_keep [true, true, true, true, true, true] ?_
            exact ih26 _ _ _ _ h
set_option maxHeartbeats 4000000 in
set_option maxRecDepth 100000 in
theorem Llp_X6_wordFrom_2 {g : it_G} {l : Launch} {κ : it_KK} {x1 : Int32} {x2 : Int32} (hm : it_wm κ) {P : Int32 → it_SS → Prop} {k2 : (it_SS → Option (Int32 × it_SS))} (hk2 : ∀  (S : it_SS), it_ok (k2  S) P → it_Ev g l 1 it_m_X6_wordFrom 0 0 101 [none, none, none, none, none, none] [] κ S (it_pi κ P)) : ∀ (n : Nat) (v3 : Int32) (S : it_SS), it_ok (lp_X6_wordFrom_2 κ x1 x2 k2 n v3 S) P → it_Ev g l 1 it_m_X6_wordFrom 0 0 2 [some (.ref 45), some (.int x1), some (.int x2), some (.int v3), none, none] [] κ S (it_pi κ P) := by
  intro n
  induction n with
  | zero =>
    intro _ _ h
    exact (it_ok_n h).elim
  | succ n2 ih2 =>
    intro v3 S h
    rw [lp_X6_wordFrom_2] at h
    refine ev_iload_n d_X6_wordFrom_2 rfl ?_
    refine ev_bipush d_X6_wordFrom_3 kv_bipush_12 ?_
    refine ev_icmp_ge (tgt := 101) d_X6_wordFrom_5 (by decide) (fun hc1 => ?_) (fun hc1 => ?_)
    · have h := it_ok_t h hc1
      refine ev_keep [false, false, false, false, false, false] ?_
      exact hk2  _ h
    · have h := it_ok_f h hc1
      refine ev_iload_n d_X6_wordFrom_8 rfl ?_
      refine ev_iload_n d_X6_wordFrom_9 rfl ?_
      refine ev_isub d_X6_wordFrom_10 ?_
      refine ev_bipush d_X6_wordFrom_11 kv_bipush_8 ?_
      refine ev_icmp_gt (tgt := 20) d_X6_wordFrom_13 (by decide) (fun hc2 => ?_) (fun hc2 => ?_)
      · have h := it_ok_t h hc2
        refine ev_iconst d_X6_wordFrom_20 kv_iconst_0 ?_
        refine ev_istore d_X6_wordFrom_21 (by decide) ?_
        show it_Ev g l 1 it_m_X6_wordFrom 0 0 23 [some (.ref 45), some (.int x1), some (.int x2), some (.int v3), some (.int 0), none] [] κ S (it_pi κ P)
        refine ev_iconst d_X6_wordFrom_23 kv_iconst_0 ?_
        refine ev_istore d_X6_wordFrom_24 (by decide) ?_
        show it_Ev g l 1 it_m_X6_wordFrom 0 0 26 [some (.ref 45), some (.int x1), some (.int x2), some (.int v3), some (.int 0), some (.int 0)] [] κ S (it_pi κ P)
        refine ev_keep [true, true, true, true, true, true] ?_
        refine Llp_X6_wordFrom_26 hm (fun v10 v11 S12 h => ?_) _ _ _ _ _ h
        show it_Ev g l 1 it_m_X6_wordFrom 0 0 88 [some (.ref 45), some (.int x1), some (.int x2), some (.int v10), some (.int v11), none] [] κ S12 (it_pi κ P)
        refine ev_iload d_X6_wordFrom_88 rfl ?_
        refine ev_if_eq (tgt := 95) d_X6_wordFrom_90 (by decide) (fun hc13 => ?_) (fun hc13 => ?_)
        · have h := it_ok_t h hc13
          refine ev_iinc d_X6_wordFrom_95 kv_iconst_1 rfl (by decide) ?_
          show it_Ev g l 1 it_m_X6_wordFrom 0 0 98 [some (.ref 45), some (.int x1), some (.int x2), some (.int (v10 + 1)), some (.int v11), none] [] κ S12 (it_pi κ P)
          refine ev_goto (tgt := 2) d_X6_wordFrom_98 (by decide) ?_
          refine ev_keep [true, true, true, true, false, false] ?_
          exact ih2 _ _ h
        · have h := it_ok_f h hc13
          refine ev_iload_n d_X6_wordFrom_93 rfl ?_
          exact ev_ret (v := some (.int _)) ⟨d_X6_wordFrom_94, _, rfl, rfl⟩ (by decide) (by decide) ⟨rfl, _, rfl, it_ok_r h⟩
      · have h := it_ok_f h hc2
        refine ev_iconst d_X6_wordFrom_16 kv_iconst_1 ?_
        refine ev_goto (tgt := 21) d_X6_wordFrom_17 (by decide) ?_
        refine ev_istore d_X6_wordFrom_21 (by decide) ?_
        show it_Ev g l 1 it_m_X6_wordFrom 0 0 23 [some (.ref 45), some (.int x1), some (.int x2), some (.int v3), some (.int 1), none] [] κ S (it_pi κ P)
        refine ev_iconst d_X6_wordFrom_23 kv_iconst_0 ?_
        refine ev_istore d_X6_wordFrom_24 (by decide) ?_
        show it_Ev g l 1 it_m_X6_wordFrom 0 0 26 [some (.ref 45), some (.int x1), some (.int x2), some (.int v3), some (.int 1), some (.int 0)] [] κ S (it_pi κ P)
        refine ev_keep [true, true, true, true, true, true] ?_
        refine Llp_X6_wordFrom_26 hm (fun v14 v15 S16 h => ?_) _ _ _ _ _ h
        show it_Ev g l 1 it_m_X6_wordFrom 0 0 88 [some (.ref 45), some (.int x1), some (.int x2), some (.int v14), some (.int v15), none] [] κ S16 (it_pi κ P)
        refine ev_iload d_X6_wordFrom_88 rfl ?_
        refine ev_if_eq (tgt := 95) d_X6_wordFrom_90 (by decide) (fun hc17 => ?_) (fun hc17 => ?_)
        · have h := it_ok_t h hc17
          refine ev_iinc d_X6_wordFrom_95 kv_iconst_1 rfl (by decide) ?_
          show it_Ev g l 1 it_m_X6_wordFrom 0 0 98 [some (.ref 45), some (.int x1), some (.int x2), some (.int (v14 + 1)), some (.int v15), none] [] κ S16 (it_pi κ P)
          refine ev_goto (tgt := 2) d_X6_wordFrom_98 (by decide) ?_
          refine ev_keep [true, true, true, true, false, false] ?_
          exact ih2 _ _ h
        · have h := it_ok_f h hc17
          refine ev_iload_n d_X6_wordFrom_93 rfl ?_
          exact ev_ret (v := some (.int _)) ⟨d_X6_wordFrom_94, _, rfl, rfl⟩ (by decide) (by decide) ⟨rfl, _, rfl, it_ok_r h⟩
set_option maxHeartbeats 4000000 in
set_option maxRecDepth 100000 in
theorem L_X6_wordFrom {g : it_G} {l : Launch} {κ : it_KK} {x1 : Int32} {x2 : Int32} (hm : it_wm κ) {S : it_SS} {P : Int32 → it_SS → Prop} (h : it_ok (f_X6_wordFrom κ x1 x2 S) P) : it_Cn g l 1 it_m_X6_wordFrom [.ref 45, .int x1, .int x2] κ S (it_pi κ P) := by
  refine it_Cn.of (by decide +kernel) (Nat.le_of_ble_eq_true rfl) ?_
  rw [f_X6_wordFrom] at h
  show it_Ev g l 1 it_m_X6_wordFrom 0 0 0 [some (.ref 45), some (.int x1), some (.int x2), none, none, none] [] κ S (it_pi κ P)
  refine ev_iconst d_X6_wordFrom_0 kv_iconst_0 ?_
  refine ev_istore_n d_X6_wordFrom_1 (by decide) ?_
  show it_Ev g l 1 it_m_X6_wordFrom 0 0 2 [some (.ref 45), some (.int x1), some (.int x2), some (.int 0), none, none] [] κ S (it_pi κ P)
  refine ev_keep [true, true, true, true, false, false] ?_
  refine Llp_X6_wordFrom_2 hm (fun  S18 h => ?_) _ _ _ h
  show it_Ev g l 1 it_m_X6_wordFrom 0 0 101 [none, none, none, none, none, none] [] κ S18 (it_pi κ P)
  refine ev_bipush d_X6_wordFrom_101 kv_bipush_12 ?_
  exact ev_ret (v := some (.int _)) ⟨d_X6_wordFrom_103, _, rfl, rfl⟩ (by decide) (by decide) ⟨rfl, _, rfl, it_ok_r h⟩
theorem d_X6_next_0 : decode prog_8_method_14_code 0 = .ok (.aload_n 0, 1) := by decide +kernel
theorem d_X6_next_1 : decode prog_8_method_14_code 1 = .ok (.getfield 105, 3) := by decide +kernel
theorem d_X6_next_4 : decode prog_8_method_14_code 4 = .ok (.aload_n 0, 1) := by decide +kernel
theorem d_X6_next_5 : decode prog_8_method_14_code 5 = .ok (.getfield 67, 3) := by decide +kernel
theorem d_X6_next_8 : decode prog_8_method_14_code 8 = .ok (.if_icmp .ge 44, 3) := by decide +kernel
theorem d_X6_next_11 : decode prog_8_method_14_code 11 = .ok (.aload_n 0, 1) := by decide +kernel
theorem d_X6_next_12 : decode prog_8_method_14_code 12 = .ok (.getfield 22, 3) := by decide +kernel
theorem d_X6_next_15 : decode prog_8_method_14_code 15 = .ok (.aload_n 0, 1) := by decide +kernel
theorem d_X6_next_16 : decode prog_8_method_14_code 16 = .ok (.getfield 105, 3) := by decide +kernel
theorem d_X6_next_19 : decode prog_8_method_14_code 19 = .ok (.iaload, 1) := by decide +kernel
theorem d_X6_next_20 : decode prog_8_method_14_code 20 = .ok (.bipush 32, 2) := by decide +kernel
theorem d_X6_next_22 : decode prog_8_method_14_code 22 = .ok (.if_icmp .eq 17, 3) := by decide +kernel
theorem d_X6_next_25 : decode prog_8_method_14_code 25 = .ok (.aload_n 0, 1) := by decide +kernel
theorem d_X6_next_26 : decode prog_8_method_14_code 26 = .ok (.getfield 22, 3) := by decide +kernel
theorem d_X6_next_29 : decode prog_8_method_14_code 29 = .ok (.aload_n 0, 1) := by decide +kernel
theorem d_X6_next_30 : decode prog_8_method_14_code 30 = .ok (.getfield 105, 3) := by decide +kernel
theorem d_X6_next_33 : decode prog_8_method_14_code 33 = .ok (.iaload, 1) := by decide +kernel
theorem d_X6_next_34 : decode prog_8_method_14_code 34 = .ok (.bipush 10, 2) := by decide +kernel
theorem d_X6_next_36 : decode prog_8_method_14_code 36 = .ok (.if_icmp .ne 16, 3) := by decide +kernel
theorem d_X6_next_39 : decode prog_8_method_14_code 39 = .ok (.aload_n 0, 1) := by decide +kernel
theorem d_X6_next_40 : decode prog_8_method_14_code 40 = .ok (.dup, 1) := by decide +kernel
theorem d_X6_next_41 : decode prog_8_method_14_code 41 = .ok (.getfield 105, 3) := by decide +kernel
theorem d_X6_next_44 : decode prog_8_method_14_code 44 = .ok (.iconst 1, 1) := by decide +kernel
theorem d_X6_next_45 : decode prog_8_method_14_code 45 = .ok (.iadd, 1) := by decide +kernel
theorem d_X6_next_46 : decode prog_8_method_14_code 46 = .ok (.putfield 105, 3) := by decide +kernel
theorem d_X6_next_49 : decode prog_8_method_14_code 49 = .ok (.goto (-49), 3) := by decide +kernel
theorem d_X6_next_52 : decode prog_8_method_14_code 52 = .ok (.aload_n 0, 1) := by decide +kernel
theorem d_X6_next_53 : decode prog_8_method_14_code 53 = .ok (.aload_n 0, 1) := by decide +kernel
theorem d_X6_next_54 : decode prog_8_method_14_code 54 = .ok (.getfield 105, 3) := by decide +kernel
theorem d_X6_next_57 : decode prog_8_method_14_code 57 = .ok (.putfield 108, 3) := by decide +kernel
theorem d_X6_next_60 : decode prog_8_method_14_code 60 = .ok (.aload_n 0, 1) := by decide +kernel
theorem d_X6_next_61 : decode prog_8_method_14_code 61 = .ok (.iconst 0, 1) := by decide +kernel
theorem d_X6_next_62 : decode prog_8_method_14_code 62 = .ok (.putfield 111, 3) := by decide +kernel
theorem d_X6_next_65 : decode prog_8_method_14_code 65 = .ok (.aload_n 0, 1) := by decide +kernel
theorem d_X6_next_66 : decode prog_8_method_14_code 66 = .ok (.iconst 0, 1) := by decide +kernel
theorem d_X6_next_67 : decode prog_8_method_14_code 67 = .ok (.putfield 114, 3) := by decide +kernel
theorem d_X6_next_70 : decode prog_8_method_14_code 70 = .ok (.aload_n 0, 1) := by decide +kernel
theorem d_X6_next_71 : decode prog_8_method_14_code 71 = .ok (.getfield 105, 3) := by decide +kernel
theorem d_X6_next_74 : decode prog_8_method_14_code 74 = .ok (.aload_n 0, 1) := by decide +kernel
theorem d_X6_next_75 : decode prog_8_method_14_code 75 = .ok (.getfield 67, 3) := by decide +kernel
theorem d_X6_next_78 : decode prog_8_method_14_code 78 = .ok (.if_icmp .ne 4, 3) := by decide +kernel
theorem d_X6_next_81 : decode prog_8_method_14_code 81 = .ok (.return_, 1) := by decide +kernel
theorem d_X6_next_82 : decode prog_8_method_14_code 82 = .ok (.aload_n 0, 1) := by decide +kernel
theorem d_X6_next_83 : decode prog_8_method_14_code 83 = .ok (.getfield 22, 3) := by decide +kernel
theorem d_X6_next_86 : decode prog_8_method_14_code 86 = .ok (.aload_n 0, 1) := by decide +kernel
theorem d_X6_next_87 : decode prog_8_method_14_code 87 = .ok (.getfield 105, 3) := by decide +kernel
theorem d_X6_next_90 : decode prog_8_method_14_code 90 = .ok (.iaload, 1) := by decide +kernel
theorem d_X6_next_91 : decode prog_8_method_14_code 91 = .ok (.istore_n 1, 1) := by decide +kernel
theorem d_X6_next_92 : decode prog_8_method_14_code 92 = .ok (.iload_n 1, 1) := by decide +kernel
theorem d_X6_next_93 : decode prog_8_method_14_code 93 = .ok (.bipush 97, 2) := by decide +kernel
theorem d_X6_next_95 : decode prog_8_method_14_code 95 = .ok (.bipush 122, 2) := by decide +kernel
theorem d_X6_next_97 : decode prog_8_method_14_code 97 = .ok (.invokestatic 78, 3) := by decide +kernel
theorem d_X6_next_100 : decode prog_8_method_14_code 100 = .ok (.ifCond .eq 117, 3) := by decide +kernel
theorem d_X6_next_103 : decode prog_8_method_14_code 103 = .ok (.aload_n 0, 1) := by decide +kernel
theorem d_X6_next_104 : decode prog_8_method_14_code 104 = .ok (.getfield 105, 3) := by decide +kernel
theorem d_X6_next_107 : decode prog_8_method_14_code 107 = .ok (.aload_n 0, 1) := by decide +kernel
theorem d_X6_next_108 : decode prog_8_method_14_code 108 = .ok (.getfield 67, 3) := by decide +kernel
theorem d_X6_next_111 : decode prog_8_method_14_code 111 = .ok (.if_icmp .ge 35, 3) := by decide +kernel
theorem d_X6_next_114 : decode prog_8_method_14_code 114 = .ok (.aload_n 0, 1) := by decide +kernel
theorem d_X6_next_115 : decode prog_8_method_14_code 115 = .ok (.getfield 22, 3) := by decide +kernel
theorem d_X6_next_118 : decode prog_8_method_14_code 118 = .ok (.aload_n 0, 1) := by decide +kernel
theorem d_X6_next_119 : decode prog_8_method_14_code 119 = .ok (.getfield 105, 3) := by decide +kernel
theorem d_X6_next_122 : decode prog_8_method_14_code 122 = .ok (.iaload, 1) := by decide +kernel
theorem d_X6_next_123 : decode prog_8_method_14_code 123 = .ok (.bipush 97, 2) := by decide +kernel
theorem d_X6_next_125 : decode prog_8_method_14_code 125 = .ok (.bipush 122, 2) := by decide +kernel
theorem d_X6_next_127 : decode prog_8_method_14_code 127 = .ok (.invokestatic 78, 3) := by decide +kernel
theorem d_X6_next_130 : decode prog_8_method_14_code 130 = .ok (.ifCond .eq 16, 3) := by decide +kernel
theorem d_X6_next_133 : decode prog_8_method_14_code 133 = .ok (.aload_n 0, 1) := by decide +kernel
theorem d_X6_next_134 : decode prog_8_method_14_code 134 = .ok (.dup, 1) := by decide +kernel
theorem d_X6_next_135 : decode prog_8_method_14_code 135 = .ok (.getfield 105, 3) := by decide +kernel
theorem d_X6_next_138 : decode prog_8_method_14_code 138 = .ok (.iconst 1, 1) := by decide +kernel
theorem d_X6_next_139 : decode prog_8_method_14_code 139 = .ok (.iadd, 1) := by decide +kernel
theorem d_X6_next_140 : decode prog_8_method_14_code 140 = .ok (.putfield 105, 3) := by decide +kernel
theorem d_X6_next_143 : decode prog_8_method_14_code 143 = .ok (.goto (-40), 3) := by decide +kernel
theorem d_X6_next_146 : decode prog_8_method_14_code 146 = .ok (.aload_n 0, 1) := by decide +kernel
theorem d_X6_next_147 : decode prog_8_method_14_code 147 = .ok (.aload_n 0, 1) := by decide +kernel
theorem d_X6_next_148 : decode prog_8_method_14_code 148 = .ok (.getfield 108, 3) := by decide +kernel
theorem d_X6_next_151 : decode prog_8_method_14_code 151 = .ok (.aload_n 0, 1) := by decide +kernel
theorem d_X6_next_152 : decode prog_8_method_14_code 152 = .ok (.getfield 105, 3) := by decide +kernel
theorem d_X6_next_155 : decode prog_8_method_14_code 155 = .ok (.invokevirtual 117, 3) := by decide +kernel
theorem d_X6_next_158 : decode prog_8_method_14_code 158 = .ok (.istore_n 2, 1) := by decide +kernel
theorem d_X6_next_159 : decode prog_8_method_14_code 159 = .ok (.aload_n 0, 1) := by decide +kernel
theorem d_X6_next_160 : decode prog_8_method_14_code 160 = .ok (.iload_n 2, 1) := by decide +kernel
theorem d_X6_next_161 : decode prog_8_method_14_code 161 = .ok (.iconst 3, 1) := by decide +kernel
theorem d_X6_next_162 : decode prog_8_method_14_code 162 = .ok (.if_icmp .ge 7, 3) := by decide +kernel
theorem d_X6_next_165 : decode prog_8_method_14_code 165 = .ok (.iconst 3, 1) := by decide +kernel
theorem d_X6_next_166 : decode prog_8_method_14_code 166 = .ok (.goto 29, 3) := by decide +kernel
theorem d_X6_next_169 : decode prog_8_method_14_code 169 = .ok (.iload_n 2, 1) := by decide +kernel
theorem d_X6_next_170 : decode prog_8_method_14_code 170 = .ok (.bipush 9, 2) := by decide +kernel
theorem d_X6_next_172 : decode prog_8_method_14_code 172 = .ok (.if_icmp .ge 7, 3) := by decide +kernel
theorem d_X6_next_175 : decode prog_8_method_14_code 175 = .ok (.iconst 2, 1) := by decide +kernel
theorem d_X6_next_176 : decode prog_8_method_14_code 176 = .ok (.goto 19, 3) := by decide +kernel
theorem d_X6_next_179 : decode prog_8_method_14_code 179 = .ok (.iload_n 2, 1) := by decide +kernel
theorem d_X6_next_180 : decode prog_8_method_14_code 180 = .ok (.bipush 12, 2) := by decide +kernel
theorem d_X6_next_182 : decode prog_8_method_14_code 182 = .ok (.if_icmp .ne 7, 3) := by decide +kernel
theorem d_X6_next_185 : decode prog_8_method_14_code 185 = .ok (.iconst (-1), 1) := by decide +kernel
theorem d_X6_next_186 : decode prog_8_method_14_code 186 = .ok (.goto 9, 3) := by decide +kernel
theorem d_X6_next_189 : decode prog_8_method_14_code 189 = .ok (.iconst 4, 1) := by decide +kernel
theorem d_X6_next_190 : decode prog_8_method_14_code 190 = .ok (.iload_n 2, 1) := by decide +kernel
theorem d_X6_next_191 : decode prog_8_method_14_code 191 = .ok (.iadd, 1) := by decide +kernel
theorem d_X6_next_192 : decode prog_8_method_14_code 192 = .ok (.bipush 9, 2) := by decide +kernel
theorem d_X6_next_194 : decode prog_8_method_14_code 194 = .ok (.isub, 1) := by decide +kernel
theorem d_X6_next_195 : decode prog_8_method_14_code 195 = .ok (.putfield 111, 3) := by decide +kernel
theorem d_X6_next_198 : decode prog_8_method_14_code 198 = .ok (.aload_n 0, 1) := by decide +kernel
theorem d_X6_next_199 : decode prog_8_method_14_code 199 = .ok (.iload_n 2, 1) := by decide +kernel
theorem d_X6_next_200 : decode prog_8_method_14_code 200 = .ok (.iconst 3, 1) := by decide +kernel
theorem d_X6_next_201 : decode prog_8_method_14_code 201 = .ok (.if_icmp .ge 7, 3) := by decide +kernel
theorem d_X6_next_204 : decode prog_8_method_14_code 204 = .ok (.iload_n 2, 1) := by decide +kernel
theorem d_X6_next_205 : decode prog_8_method_14_code 205 = .ok (.goto 6, 3) := by decide +kernel
theorem d_X6_next_208 : decode prog_8_method_14_code 208 = .ok (.iload_n 2, 1) := by decide +kernel
theorem d_X6_next_209 : decode prog_8_method_14_code 209 = .ok (.iconst 3, 1) := by decide +kernel
theorem d_X6_next_210 : decode prog_8_method_14_code 210 = .ok (.isub, 1) := by decide +kernel
theorem d_X6_next_211 : decode prog_8_method_14_code 211 = .ok (.putfield 114, 3) := by decide +kernel
theorem d_X6_next_214 : decode prog_8_method_14_code 214 = .ok (.goto 189, 3) := by decide +kernel
theorem d_X6_next_217 : decode prog_8_method_14_code 217 = .ok (.iload_n 1, 1) := by decide +kernel
theorem d_X6_next_218 : decode prog_8_method_14_code 218 = .ok (.bipush 48, 2) := by decide +kernel
theorem d_X6_next_220 : decode prog_8_method_14_code 220 = .ok (.bipush 57, 2) := by decide +kernel
theorem d_X6_next_222 : decode prog_8_method_14_code 222 = .ok (.invokestatic 78, 3) := by decide +kernel
theorem d_X6_next_225 : decode prog_8_method_14_code 225 = .ok (.ifCond .eq 101, 3) := by decide +kernel
theorem d_X6_next_228 : decode prog_8_method_14_code 228 = .ok (.iconst 0, 1) := by decide +kernel
theorem d_X6_next_229 : decode prog_8_method_14_code 229 = .ok (.istore_n 2, 1) := by decide +kernel
theorem d_X6_next_230 : decode prog_8_method_14_code 230 = .ok (.aload_n 0, 1) := by decide +kernel
theorem d_X6_next_231 : decode prog_8_method_14_code 231 = .ok (.getfield 105, 3) := by decide +kernel
theorem d_X6_next_234 : decode prog_8_method_14_code 234 = .ok (.aload_n 0, 1) := by decide +kernel
theorem d_X6_next_235 : decode prog_8_method_14_code 235 = .ok (.getfield 67, 3) := by decide +kernel
theorem d_X6_next_238 : decode prog_8_method_14_code 238 = .ok (.if_icmp .ge 71, 3) := by decide +kernel
theorem d_X6_next_241 : decode prog_8_method_14_code 241 = .ok (.aload_n 0, 1) := by decide +kernel
theorem d_X6_next_242 : decode prog_8_method_14_code 242 = .ok (.getfield 22, 3) := by decide +kernel
theorem d_X6_next_245 : decode prog_8_method_14_code 245 = .ok (.aload_n 0, 1) := by decide +kernel
theorem d_X6_next_246 : decode prog_8_method_14_code 246 = .ok (.getfield 105, 3) := by decide +kernel
theorem d_X6_next_249 : decode prog_8_method_14_code 249 = .ok (.iaload, 1) := by decide +kernel
theorem d_X6_next_250 : decode prog_8_method_14_code 250 = .ok (.bipush 48, 2) := by decide +kernel
theorem d_X6_next_252 : decode prog_8_method_14_code 252 = .ok (.bipush 57, 2) := by decide +kernel
theorem d_X6_next_254 : decode prog_8_method_14_code 254 = .ok (.invokestatic 78, 3) := by decide +kernel
theorem d_X6_next_257 : decode prog_8_method_14_code 257 = .ok (.ifCond .eq 52, 3) := by decide +kernel
theorem d_X6_next_260 : decode prog_8_method_14_code 260 = .ok (.aload_n 0, 1) := by decide +kernel
theorem d_X6_next_261 : decode prog_8_method_14_code 261 = .ok (.iload_n 2, 1) := by decide +kernel
theorem d_X6_next_262 : decode prog_8_method_14_code 262 = .ok (.iconst 4, 1) := by decide +kernel
theorem d_X6_next_263 : decode prog_8_method_14_code 263 = .ok (.if_icmp .ge 26, 3) := by decide +kernel
theorem d_X6_next_266 : decode prog_8_method_14_code 266 = .ok (.bipush 10, 2) := by decide +kernel
theorem d_X6_next_268 : decode prog_8_method_14_code 268 = .ok (.aload_n 0, 1) := by decide +kernel
theorem d_X6_next_269 : decode prog_8_method_14_code 269 = .ok (.getfield 114, 3) := by decide +kernel
theorem d_X6_next_272 : decode prog_8_method_14_code 272 = .ok (.imul, 1) := by decide +kernel
theorem d_X6_next_273 : decode prog_8_method_14_code 273 = .ok (.aload_n 0, 1) := by decide +kernel
theorem d_X6_next_274 : decode prog_8_method_14_code 274 = .ok (.getfield 22, 3) := by decide +kernel
theorem d_X6_next_277 : decode prog_8_method_14_code 277 = .ok (.aload_n 0, 1) := by decide +kernel
theorem d_X6_next_278 : decode prog_8_method_14_code 278 = .ok (.getfield 105, 3) := by decide +kernel
theorem d_X6_next_281 : decode prog_8_method_14_code 281 = .ok (.iaload, 1) := by decide +kernel
theorem d_X6_next_282 : decode prog_8_method_14_code 282 = .ok (.iadd, 1) := by decide +kernel
theorem d_X6_next_283 : decode prog_8_method_14_code 283 = .ok (.bipush 48, 2) := by decide +kernel
theorem d_X6_next_285 : decode prog_8_method_14_code 285 = .ok (.isub, 1) := by decide +kernel
theorem d_X6_next_286 : decode prog_8_method_14_code 286 = .ok (.goto 4, 3) := by decide +kernel
theorem d_X6_next_289 : decode prog_8_method_14_code 289 = .ok (.iconst 0, 1) := by decide +kernel
theorem d_X6_next_290 : decode prog_8_method_14_code 290 = .ok (.putfield 114, 3) := by decide +kernel
theorem d_X6_next_293 : decode prog_8_method_14_code 293 = .ok (.iinc 2 1, 3) := by decide +kernel
theorem d_X6_next_296 : decode prog_8_method_14_code 296 = .ok (.aload_n 0, 1) := by decide +kernel
theorem d_X6_next_297 : decode prog_8_method_14_code 297 = .ok (.dup, 1) := by decide +kernel
theorem d_X6_next_298 : decode prog_8_method_14_code 298 = .ok (.getfield 105, 3) := by decide +kernel
theorem d_X6_next_301 : decode prog_8_method_14_code 301 = .ok (.iconst 1, 1) := by decide +kernel
theorem d_X6_next_302 : decode prog_8_method_14_code 302 = .ok (.iadd, 1) := by decide +kernel
theorem d_X6_next_303 : decode prog_8_method_14_code 303 = .ok (.putfield 105, 3) := by decide +kernel
theorem d_X6_next_306 : decode prog_8_method_14_code 306 = .ok (.goto (-76), 3) := by decide +kernel
theorem d_X6_next_309 : decode prog_8_method_14_code 309 = .ok (.aload_n 0, 1) := by decide +kernel
theorem d_X6_next_310 : decode prog_8_method_14_code 310 = .ok (.iload_n 2, 1) := by decide +kernel
theorem d_X6_next_311 : decode prog_8_method_14_code 311 = .ok (.iconst 4, 1) := by decide +kernel
theorem d_X6_next_312 : decode prog_8_method_14_code 312 = .ok (.if_icmp .le 7, 3) := by decide +kernel
theorem d_X6_next_315 : decode prog_8_method_14_code 315 = .ok (.iconst (-1), 1) := by decide +kernel
theorem d_X6_next_316 : decode prog_8_method_14_code 316 = .ok (.goto 4, 3) := by decide +kernel
theorem d_X6_next_319 : decode prog_8_method_14_code 319 = .ok (.iconst 1, 1) := by decide +kernel
theorem d_X6_next_320 : decode prog_8_method_14_code 320 = .ok (.putfield 111, 3) := by decide +kernel
theorem d_X6_next_323 : decode prog_8_method_14_code 323 = .ok (.goto 80, 3) := by decide +kernel
theorem d_X6_next_326 : decode prog_8_method_14_code 326 = .ok (.iload_n 1, 1) := by decide +kernel
theorem d_X6_next_327 : decode prog_8_method_14_code 327 = .ok (.bipush 40, 2) := by decide +kernel
theorem d_X6_next_329 : decode prog_8_method_14_code 329 = .ok (.if_icmp .eq 45, 3) := by decide +kernel
theorem d_X6_next_332 : decode prog_8_method_14_code 332 = .ok (.iload_n 1, 1) := by decide +kernel
theorem d_X6_next_333 : decode prog_8_method_14_code 333 = .ok (.bipush 41, 2) := by decide +kernel
theorem d_X6_next_335 : decode prog_8_method_14_code 335 = .ok (.if_icmp .eq 39, 3) := by decide +kernel
theorem d_X6_next_338 : decode prog_8_method_14_code 338 = .ok (.iload_n 1, 1) := by decide +kernel
theorem d_X6_next_339 : decode prog_8_method_14_code 339 = .ok (.bipush 59, 2) := by decide +kernel
theorem d_X6_next_341 : decode prog_8_method_14_code 341 = .ok (.if_icmp .eq 33, 3) := by decide +kernel
theorem d_X6_next_344 : decode prog_8_method_14_code 344 = .ok (.iload_n 1, 1) := by decide +kernel
theorem d_X6_next_345 : decode prog_8_method_14_code 345 = .ok (.bipush 43, 2) := by decide +kernel
theorem d_X6_next_347 : decode prog_8_method_14_code 347 = .ok (.if_icmp .eq 27, 3) := by decide +kernel
theorem d_X6_next_350 : decode prog_8_method_14_code 350 = .ok (.iload_n 1, 1) := by decide +kernel
theorem d_X6_next_351 : decode prog_8_method_14_code 351 = .ok (.bipush 45, 2) := by decide +kernel
theorem d_X6_next_353 : decode prog_8_method_14_code 353 = .ok (.if_icmp .eq 21, 3) := by decide +kernel
theorem d_X6_next_356 : decode prog_8_method_14_code 356 = .ok (.iload_n 1, 1) := by decide +kernel
theorem d_X6_next_357 : decode prog_8_method_14_code 357 = .ok (.bipush 42, 2) := by decide +kernel
theorem d_X6_next_359 : decode prog_8_method_14_code 359 = .ok (.if_icmp .eq 15, 3) := by decide +kernel
theorem d_X6_next_362 : decode prog_8_method_14_code 362 = .ok (.iload_n 1, 1) := by decide +kernel
theorem d_X6_next_363 : decode prog_8_method_14_code 363 = .ok (.bipush 60, 2) := by decide +kernel
theorem d_X6_next_365 : decode prog_8_method_14_code 365 = .ok (.if_icmp .eq 9, 3) := by decide +kernel
theorem d_X6_next_368 : decode prog_8_method_14_code 368 = .ok (.iload_n 1, 1) := by decide +kernel
theorem d_X6_next_369 : decode prog_8_method_14_code 369 = .ok (.bipush 61, 2) := by decide +kernel
theorem d_X6_next_371 : decode prog_8_method_14_code 371 = .ok (.if_icmp .ne 7, 3) := by decide +kernel
theorem d_X6_next_374 : decode prog_8_method_14_code 374 = .ok (.iconst 1, 1) := by decide +kernel
theorem d_X6_next_375 : decode prog_8_method_14_code 375 = .ok (.goto 4, 3) := by decide +kernel
theorem d_X6_next_378 : decode prog_8_method_14_code 378 = .ok (.iconst 0, 1) := by decide +kernel
theorem d_X6_next_379 : decode prog_8_method_14_code 379 = .ok (.istore_n 2, 1) := by decide +kernel
theorem d_X6_next_380 : decode prog_8_method_14_code 380 = .ok (.aload_n 0, 1) := by decide +kernel
theorem d_X6_next_381 : decode prog_8_method_14_code 381 = .ok (.iload_n 2, 1) := by decide +kernel
theorem d_X6_next_382 : decode prog_8_method_14_code 382 = .ok (.ifCond .eq 7, 3) := by decide +kernel
theorem d_X6_next_385 : decode prog_8_method_14_code 385 = .ok (.iload_n 1, 1) := by decide +kernel
theorem d_X6_next_386 : decode prog_8_method_14_code 386 = .ok (.goto 4, 3) := by decide +kernel
theorem d_X6_next_389 : decode prog_8_method_14_code 389 = .ok (.iconst (-1), 1) := by decide +kernel
theorem d_X6_next_390 : decode prog_8_method_14_code 390 = .ok (.putfield 111, 3) := by decide +kernel
theorem d_X6_next_393 : decode prog_8_method_14_code 393 = .ok (.aload_n 0, 1) := by decide +kernel
theorem d_X6_next_394 : decode prog_8_method_14_code 394 = .ok (.dup, 1) := by decide +kernel
theorem d_X6_next_395 : decode prog_8_method_14_code 395 = .ok (.getfield 105, 3) := by decide +kernel
theorem d_X6_next_398 : decode prog_8_method_14_code 398 = .ok (.iconst 1, 1) := by decide +kernel
theorem d_X6_next_399 : decode prog_8_method_14_code 399 = .ok (.iadd, 1) := by decide +kernel
theorem d_X6_next_400 : decode prog_8_method_14_code 400 = .ok (.putfield 105, 3) := by decide +kernel
theorem d_X6_next_403 : decode prog_8_method_14_code 403 = .ok (.return_, 1) := by decide +kernel
def lp_X6_next_0 (κ : it_KK)  (k0 : (it_SS → Option (Unit × it_SS))) : Nat → it_SS → Option (Unit × it_SS)
  | 0, _ => none
  | n0 + 1, S => if (S 45 7) ≤ (S 45 19) then
k0  S
else
if it_bd (S 45 19) 160 = true then
if (S 50 ((S 45 19) : Int32).toNatClampNeg) = 32 then
lp_X6_next_0 κ  k0 n0  (it_up S 45 19 ((S 45 19) + 1))
else
if (S 50 ((S 45 19) : Int32).toNatClampNeg) = 10 then
lp_X6_next_0 κ  k0 n0  (it_up S 45 19 ((S 45 19) + 1))
else
k0  S
else none
def lp_X6_next_230 (κ : it_KK)  (k230 : (Int32 → it_SS → Option (Unit × it_SS))) : Nat → Int32 → it_SS → Option (Unit × it_SS)
  | 0, _, _ => none
  | n230 + 1, v2, S => if (S 45 7) ≤ (S 45 19) then
k230 v2 S
else
if it_bd (S 45 19) 160 = true then
it_bi (f_X6_in κ (S 50 ((S 45 19) : Int32).toNatClampNeg) 48 57 S) (fun r25 S24 =>
if r25 = 0 then
k230 v2 S24
else
if 4 ≤ v2 then
lp_X6_next_230 κ  k230 n230 (v2 + 1) (it_up (it_up S24 45 22 0) 45 19 (((it_up S24 45 22 0) 45 19) + 1))
else
if it_bd (S24 45 19) 160 = true then
lp_X6_next_230 κ  k230 n230 (v2 + 1) (it_up (it_up S24 45 22 (((10 * (S24 45 22)) + (S24 50 ((S24 45 19) : Int32).toNatClampNeg)) - 48)) 45 19 (((it_up S24 45 22 (((10 * (S24 45 22)) + (S24 50 ((S24 45 19) : Int32).toNatClampNeg)) - 48)) 45 19) + 1))
else none)
else none
def lp_X6_next_103 (κ : it_KK)  (k103 : (it_SS → Option (Unit × it_SS))) : Nat → it_SS → Option (Unit × it_SS)
  | 0, _ => none
  | n103 + 1, S => if (S 45 7) ≤ (S 45 19) then
k103  S
else
if it_bd (S 45 19) 160 = true then
it_bi (f_X6_in κ (S 50 ((S 45 19) : Int32).toNatClampNeg) 97 122 S) (fun r35 S34 =>
if r35 = 0 then
k103  S34
else
lp_X6_next_103 κ  k103 n103  (it_up S34 45 19 ((S34 45 19) + 1)))
else none
def f_X6_next (κ : it_KK)  (S : it_SS) : Option (Unit × it_SS) :=
lp_X6_next_0 κ  (fun  S5 =>
if ((it_up (it_up (it_up S5 45 20 (S5 45 19)) 45 21 0) 45 22 0) 45 19) = ((it_up (it_up (it_up S5 45 20 (S5 45 19)) 45 21 0) 45 22 0) 45 7) then
some ((), it_up (it_up (it_up S5 45 20 (S5 45 19)) 45 21 0) 45 22 0)
else
if it_bd ((it_up (it_up (it_up S5 45 20 (S5 45 19)) 45 21 0) 45 22 0) 45 19) 160 = true then
it_bi (f_X6_in κ ((it_up (it_up (it_up S5 45 20 (S5 45 19)) 45 21 0) 45 22 0) 50 (((it_up (it_up (it_up S5 45 20 (S5 45 19)) 45 21 0) 45 22 0) 45 19) : Int32).toNatClampNeg) 97 122 (it_up (it_up (it_up S5 45 20 (S5 45 19)) 45 21 0) 45 22 0)) (fun r9 S8 =>
if r9 = 0 then
it_bi (f_X6_in κ ((it_up (it_up (it_up S5 45 20 (S5 45 19)) 45 21 0) 45 22 0) 50 (((it_up (it_up (it_up S5 45 20 (S5 45 19)) 45 21 0) 45 22 0) 45 19) : Int32).toNatClampNeg) 48 57 S8) (fun r12 S11 =>
if r12 = 0 then
if ((it_up (it_up (it_up S5 45 20 (S5 45 19)) 45 21 0) 45 22 0) 50 (((it_up (it_up (it_up S5 45 20 (S5 45 19)) 45 21 0) 45 22 0) 45 19) : Int32).toNatClampNeg) = 40 then
some ((), it_up (it_up S11 45 21 ((it_up (it_up (it_up S5 45 20 (S5 45 19)) 45 21 0) 45 22 0) 50 (((it_up (it_up (it_up S5 45 20 (S5 45 19)) 45 21 0) 45 22 0) 45 19) : Int32).toNatClampNeg)) 45 19 (((it_up S11 45 21 ((it_up (it_up (it_up S5 45 20 (S5 45 19)) 45 21 0) 45 22 0) 50 (((it_up (it_up (it_up S5 45 20 (S5 45 19)) 45 21 0) 45 22 0) 45 19) : Int32).toNatClampNeg)) 45 19) + 1))
else
if ((it_up (it_up (it_up S5 45 20 (S5 45 19)) 45 21 0) 45 22 0) 50 (((it_up (it_up (it_up S5 45 20 (S5 45 19)) 45 21 0) 45 22 0) 45 19) : Int32).toNatClampNeg) = 41 then
some ((), it_up (it_up S11 45 21 ((it_up (it_up (it_up S5 45 20 (S5 45 19)) 45 21 0) 45 22 0) 50 (((it_up (it_up (it_up S5 45 20 (S5 45 19)) 45 21 0) 45 22 0) 45 19) : Int32).toNatClampNeg)) 45 19 (((it_up S11 45 21 ((it_up (it_up (it_up S5 45 20 (S5 45 19)) 45 21 0) 45 22 0) 50 (((it_up (it_up (it_up S5 45 20 (S5 45 19)) 45 21 0) 45 22 0) 45 19) : Int32).toNatClampNeg)) 45 19) + 1))
else
if ((it_up (it_up (it_up S5 45 20 (S5 45 19)) 45 21 0) 45 22 0) 50 (((it_up (it_up (it_up S5 45 20 (S5 45 19)) 45 21 0) 45 22 0) 45 19) : Int32).toNatClampNeg) = 59 then
some ((), it_up (it_up S11 45 21 ((it_up (it_up (it_up S5 45 20 (S5 45 19)) 45 21 0) 45 22 0) 50 (((it_up (it_up (it_up S5 45 20 (S5 45 19)) 45 21 0) 45 22 0) 45 19) : Int32).toNatClampNeg)) 45 19 (((it_up S11 45 21 ((it_up (it_up (it_up S5 45 20 (S5 45 19)) 45 21 0) 45 22 0) 50 (((it_up (it_up (it_up S5 45 20 (S5 45 19)) 45 21 0) 45 22 0) 45 19) : Int32).toNatClampNeg)) 45 19) + 1))
else
if ((it_up (it_up (it_up S5 45 20 (S5 45 19)) 45 21 0) 45 22 0) 50 (((it_up (it_up (it_up S5 45 20 (S5 45 19)) 45 21 0) 45 22 0) 45 19) : Int32).toNatClampNeg) = 43 then
some ((), it_up (it_up S11 45 21 ((it_up (it_up (it_up S5 45 20 (S5 45 19)) 45 21 0) 45 22 0) 50 (((it_up (it_up (it_up S5 45 20 (S5 45 19)) 45 21 0) 45 22 0) 45 19) : Int32).toNatClampNeg)) 45 19 (((it_up S11 45 21 ((it_up (it_up (it_up S5 45 20 (S5 45 19)) 45 21 0) 45 22 0) 50 (((it_up (it_up (it_up S5 45 20 (S5 45 19)) 45 21 0) 45 22 0) 45 19) : Int32).toNatClampNeg)) 45 19) + 1))
else
if ((it_up (it_up (it_up S5 45 20 (S5 45 19)) 45 21 0) 45 22 0) 50 (((it_up (it_up (it_up S5 45 20 (S5 45 19)) 45 21 0) 45 22 0) 45 19) : Int32).toNatClampNeg) = 45 then
some ((), it_up (it_up S11 45 21 ((it_up (it_up (it_up S5 45 20 (S5 45 19)) 45 21 0) 45 22 0) 50 (((it_up (it_up (it_up S5 45 20 (S5 45 19)) 45 21 0) 45 22 0) 45 19) : Int32).toNatClampNeg)) 45 19 (((it_up S11 45 21 ((it_up (it_up (it_up S5 45 20 (S5 45 19)) 45 21 0) 45 22 0) 50 (((it_up (it_up (it_up S5 45 20 (S5 45 19)) 45 21 0) 45 22 0) 45 19) : Int32).toNatClampNeg)) 45 19) + 1))
else
if ((it_up (it_up (it_up S5 45 20 (S5 45 19)) 45 21 0) 45 22 0) 50 (((it_up (it_up (it_up S5 45 20 (S5 45 19)) 45 21 0) 45 22 0) 45 19) : Int32).toNatClampNeg) = 42 then
some ((), it_up (it_up S11 45 21 ((it_up (it_up (it_up S5 45 20 (S5 45 19)) 45 21 0) 45 22 0) 50 (((it_up (it_up (it_up S5 45 20 (S5 45 19)) 45 21 0) 45 22 0) 45 19) : Int32).toNatClampNeg)) 45 19 (((it_up S11 45 21 ((it_up (it_up (it_up S5 45 20 (S5 45 19)) 45 21 0) 45 22 0) 50 (((it_up (it_up (it_up S5 45 20 (S5 45 19)) 45 21 0) 45 22 0) 45 19) : Int32).toNatClampNeg)) 45 19) + 1))
else
if ((it_up (it_up (it_up S5 45 20 (S5 45 19)) 45 21 0) 45 22 0) 50 (((it_up (it_up (it_up S5 45 20 (S5 45 19)) 45 21 0) 45 22 0) 45 19) : Int32).toNatClampNeg) = 60 then
some ((), it_up (it_up S11 45 21 ((it_up (it_up (it_up S5 45 20 (S5 45 19)) 45 21 0) 45 22 0) 50 (((it_up (it_up (it_up S5 45 20 (S5 45 19)) 45 21 0) 45 22 0) 45 19) : Int32).toNatClampNeg)) 45 19 (((it_up S11 45 21 ((it_up (it_up (it_up S5 45 20 (S5 45 19)) 45 21 0) 45 22 0) 50 (((it_up (it_up (it_up S5 45 20 (S5 45 19)) 45 21 0) 45 22 0) 45 19) : Int32).toNatClampNeg)) 45 19) + 1))
else
if ((it_up (it_up (it_up S5 45 20 (S5 45 19)) 45 21 0) 45 22 0) 50 (((it_up (it_up (it_up S5 45 20 (S5 45 19)) 45 21 0) 45 22 0) 45 19) : Int32).toNatClampNeg) = 61 then
some ((), it_up (it_up S11 45 21 ((it_up (it_up (it_up S5 45 20 (S5 45 19)) 45 21 0) 45 22 0) 50 (((it_up (it_up (it_up S5 45 20 (S5 45 19)) 45 21 0) 45 22 0) 45 19) : Int32).toNatClampNeg)) 45 19 (((it_up S11 45 21 ((it_up (it_up (it_up S5 45 20 (S5 45 19)) 45 21 0) 45 22 0) 50 (((it_up (it_up (it_up S5 45 20 (S5 45 19)) 45 21 0) 45 22 0) 45 19) : Int32).toNatClampNeg)) 45 19) + 1))
else
some ((), it_up (it_up S11 45 21 (-1)) 45 19 (((it_up S11 45 21 (-1)) 45 19) + 1))
else
lp_X6_next_230 κ  (fun v29 S30 =>
if v29 ≤ 4 then
some ((), it_up S30 45 21 1)
else
some ((), it_up S30 45 21 (-1))) it_FU 0 S11)
else
lp_X6_next_103 κ  (fun  S37 =>
it_bi (f_X6_wordFrom κ (S37 45 20) (S37 45 19) S37) (fun r39 S38 =>
if 3 ≤ r39 then
if 9 ≤ r39 then
if r39 = 12 then
if 3 ≤ r39 then
some ((), it_up (it_up S38 45 21 (-1)) 45 22 (r39 - 3))
else
some ((), it_up (it_up S38 45 21 (-1)) 45 22 r39)
else
if 3 ≤ r39 then
some ((), it_up (it_up S38 45 21 ((4 + r39) - 9)) 45 22 (r39 - 3))
else
some ((), it_up (it_up S38 45 21 ((4 + r39) - 9)) 45 22 r39)
else
if 3 ≤ r39 then
some ((), it_up (it_up S38 45 21 2) 45 22 (r39 - 3))
else
some ((), it_up (it_up S38 45 21 2) 45 22 r39)
else
if 3 ≤ r39 then
some ((), it_up (it_up S38 45 21 3) 45 22 (r39 - 3))
else
some ((), it_up (it_up S38 45 21 3) 45 22 r39))) it_FU  S8)
else none) it_FU  S
set_option maxHeartbeats 4000000 in
set_option maxRecDepth 100000 in
theorem Llp_X6_next_0 {g : it_G} {l : Launch} {κ : it_KK} (hm : it_wm κ) {P : Unit → it_SS → Prop} {k0 : (it_SS → Option (Unit × it_SS))} (hk0 : ∀  (S : it_SS), it_ok (k0  S) P → it_Ev g l 2 it_m_X6_next 0 0 52 [some (.ref 45), none, none] [] κ S (it_pv κ P)) : ∀ (n : Nat)  (S : it_SS), it_ok (lp_X6_next_0 κ  k0 n  S) P → it_Ev g l 2 it_m_X6_next 0 0 0 [some (.ref 45), none, none] [] κ S (it_pv κ P) := by
  intro n
  induction n with
  | zero =>
    intro  _ h
    exact (it_ok_n h).elim
  | succ n0 ih0 =>
    intro  S h
    rw [lp_X6_next_0] at h
    refine ev_aload_n d_X6_next_0 rfl ?_
    refine ev_getI d_X6_next_1 fl_IcedTooSoonModel_105 hm.1 rfl ?_
    refine ev_aload_n d_X6_next_4 rfl ?_
    refine ev_getI d_X6_next_5 fl_IcedTooSoonModel_67 hm.1 rfl ?_
    refine ev_icmp_ge (tgt := 52) d_X6_next_8 (by decide) (fun hc1 => ?_) (fun hc1 => ?_)
    · have h := it_ok_t h hc1
      refine ev_keep [true, false, false] ?_
      exact hk0  _ h
    · have h := it_ok_f h hc1
      refine ev_aload_n d_X6_next_11 rfl ?_
      refine ev_getRr (r := 50) rfl d_X6_next_12 fl_IcedTooSoonModel_22 hm.1 rfl ?_
      refine ev_aload_n d_X6_next_15 rfl ?_
      refine ev_getI d_X6_next_16 fl_IcedTooSoonModel_105 hm.1 rfl ?_
      obtain ⟨hb2, h⟩ := it_ok_g h
      refine ev_iald d_X6_next_19 (hm).2.2.2.2.2.1 (it_bd_in hb2) ?_
      refine ev_bipush d_X6_next_20 kv_bipush_32 ?_
      refine ev_icmp_eq (tgt := 39) d_X6_next_22 (by decide) (fun hc3 => ?_) (fun hc3 => ?_)
      · have h := it_ok_t h hc3
        refine ev_aload_n d_X6_next_39 rfl ?_
        refine ev_dup d_X6_next_40 rfl ?_
        refine ev_getI d_X6_next_41 fl_IcedTooSoonModel_105 hm.1 rfl ?_
        refine ev_iconst d_X6_next_44 kv_iconst_1 ?_
        refine ev_iadd d_X6_next_45 ?_
        refine ev_putI d_X6_next_46 (by decide) fl_IcedTooSoonModel_105 fw_6_19 hm.1 rfl ?_
        refine ev_goto (tgt := 0) d_X6_next_49 (by decide) ?_
        refine ev_keep [true, false, false] ?_
        exact ih0  _ h
      · have h := it_ok_f h hc3
        refine ev_aload_n d_X6_next_25 rfl ?_
        refine ev_getRr (r := 50) rfl d_X6_next_26 fl_IcedTooSoonModel_22 hm.1 rfl ?_
        refine ev_aload_n d_X6_next_29 rfl ?_
        refine ev_getI d_X6_next_30 fl_IcedTooSoonModel_105 hm.1 rfl ?_
        refine ev_iald d_X6_next_33 (hm).2.2.2.2.2.1 (it_bd_in hb2) ?_
        refine ev_bipush d_X6_next_34 kv_bipush_10 ?_
        refine ev_icmp_ne (tgt := 52) d_X6_next_36 (by decide) (fun hc4 => ?_) (fun hc4 => ?_)
        · have h := it_ok_f h hc4
          refine ev_keep [true, false, false] ?_
          exact hk0  _ h
        · have h := it_ok_t h hc4
          refine ev_aload_n d_X6_next_39 rfl ?_
          refine ev_dup d_X6_next_40 rfl ?_
          refine ev_getI d_X6_next_41 fl_IcedTooSoonModel_105 hm.1 rfl ?_
          refine ev_iconst d_X6_next_44 kv_iconst_1 ?_
          refine ev_iadd d_X6_next_45 ?_
          refine ev_putI d_X6_next_46 (by decide) fl_IcedTooSoonModel_105 fw_6_19 hm.1 rfl ?_
          refine ev_goto (tgt := 0) d_X6_next_49 (by decide) ?_
          refine ev_keep [true, false, false] ?_
          exact ih0  _ h
set_option maxHeartbeats 4000000 in
set_option maxRecDepth 100000 in
theorem Llp_X6_next_230 {g : it_G} {l : Launch} {κ : it_KK} (hm : it_wm κ) {P : Unit → it_SS → Prop} {k230 : (Int32 → it_SS → Option (Unit × it_SS))} (hk230 : ∀ (v2 : Int32) (S : it_SS), it_ok (k230 v2 S) P → it_Ev g l 2 it_m_X6_next 0 0 309 [some (.ref 45), none, some (.int v2)] [] κ S (it_pv κ P)) : ∀ (n : Nat) (v2 : Int32) (S : it_SS), it_ok (lp_X6_next_230 κ  k230 n v2 S) P → it_Ev g l 2 it_m_X6_next 0 0 230 [some (.ref 45), none, some (.int v2)] [] κ S (it_pv κ P) := by
  intro n
  induction n with
  | zero =>
    intro _ _ h
    exact (it_ok_n h).elim
  | succ n230 ih230 =>
    intro v2 S h
    rw [lp_X6_next_230] at h
    refine ev_aload_n d_X6_next_230 rfl ?_
    refine ev_getI d_X6_next_231 fl_IcedTooSoonModel_105 hm.1 rfl ?_
    refine ev_aload_n d_X6_next_234 rfl ?_
    refine ev_getI d_X6_next_235 fl_IcedTooSoonModel_67 hm.1 rfl ?_
    refine ev_icmp_ge (tgt := 309) d_X6_next_238 (by decide) (fun hc22 => ?_) (fun hc22 => ?_)
    · have h := it_ok_t h hc22
      refine ev_keep [true, false, true] ?_
      exact hk230 _ _ h
    · have h := it_ok_f h hc22
      refine ev_aload_n d_X6_next_241 rfl ?_
      refine ev_getRr (r := 50) rfl d_X6_next_242 fl_IcedTooSoonModel_22 hm.1 rfl ?_
      refine ev_aload_n d_X6_next_245 rfl ?_
      refine ev_getI d_X6_next_246 fl_IcedTooSoonModel_105 hm.1 rfl ?_
      obtain ⟨hb23, h⟩ := it_ok_g h
      refine ev_iald d_X6_next_249 (hm).2.2.2.2.2.1 (it_bd_in hb23) ?_
      refine ev_bipush d_X6_next_250 kv_bipush_48 ?_
      refine ev_bipush d_X6_next_252 kv_bipush_57 ?_
      refine ev_callS (M' := it_m_X6_in) (d' := 1) (As := [.int (S 50 ((S 45 19) : Int32).toNatClampNeg), .int 48, .int 57]) d_X6_next_254 ml_IcedTooSoonModel_78 rfl rfl (Nat.le_of_ble_eq_true rfl) (by decide) (by decide) (by decide) (L_X6_in  (it_ok_b h)) (fun _ _ _ _ q => by cases q.1; rfl) ?_
      rintro _ _ S24 ⟨rfl, r25, rfl, h⟩
      show it_Ev g l 2 it_m_X6_next 0 0 257 [some (.ref 45), none, some (.int v2)] [.int r25] κ S24 (it_pv κ P)
      refine ev_if_eq (tgt := 309) d_X6_next_257 (by decide) (fun hc26 => ?_) (fun hc26 => ?_)
      · have h := it_ok_t h hc26
        refine ev_keep [true, false, true] ?_
        exact hk230 _ _ h
      · have h := it_ok_f h hc26
        refine ev_aload_n d_X6_next_260 rfl ?_
        refine ev_iload_n d_X6_next_261 rfl ?_
        refine ev_iconst d_X6_next_262 kv_iconst_4 ?_
        refine ev_icmp_ge (tgt := 289) d_X6_next_263 (by decide) (fun hc27 => ?_) (fun hc27 => ?_)
        · have h := it_ok_t h hc27
          refine ev_iconst d_X6_next_289 kv_iconst_0 ?_
          refine ev_putI d_X6_next_290 (by decide) fl_IcedTooSoonModel_114 fw_6_22 hm.1 rfl ?_
          refine ev_iinc d_X6_next_293 kv_iconst_1 rfl (by decide) ?_
          show it_Ev g l 2 it_m_X6_next 0 0 296 [some (.ref 45), none, some (.int (v2 + 1))] [] κ (it_up S24 45 22 0) (it_pv κ P)
          refine ev_aload_n d_X6_next_296 rfl ?_
          refine ev_dup d_X6_next_297 rfl ?_
          refine ev_getI d_X6_next_298 fl_IcedTooSoonModel_105 hm.1 rfl ?_
          refine ev_iconst d_X6_next_301 kv_iconst_1 ?_
          refine ev_iadd d_X6_next_302 ?_
          refine ev_putI d_X6_next_303 (by decide) fl_IcedTooSoonModel_105 fw_6_19 hm.1 rfl ?_
          refine ev_goto (tgt := 230) d_X6_next_306 (by decide) ?_
          refine ev_keep [true, false, true] ?_
          exact ih230 _ _ h
        · have h := it_ok_f h hc27
          refine ev_bipush d_X6_next_266 kv_bipush_10 ?_
          refine ev_aload_n d_X6_next_268 rfl ?_
          refine ev_getI d_X6_next_269 fl_IcedTooSoonModel_114 hm.1 rfl ?_
          refine ev_imul d_X6_next_272 ?_
          refine ev_aload_n d_X6_next_273 rfl ?_
          refine ev_getRr (r := 50) rfl d_X6_next_274 fl_IcedTooSoonModel_22 hm.1 rfl ?_
          refine ev_aload_n d_X6_next_277 rfl ?_
          refine ev_getI d_X6_next_278 fl_IcedTooSoonModel_105 hm.1 rfl ?_
          obtain ⟨hb28, h⟩ := it_ok_g h
          refine ev_iald d_X6_next_281 (hm).2.2.2.2.2.1 (it_bd_in hb28) ?_
          refine ev_iadd d_X6_next_282 ?_
          refine ev_bipush d_X6_next_283 kv_bipush_48 ?_
          refine ev_isub d_X6_next_285 ?_
          refine ev_goto (tgt := 290) d_X6_next_286 (by decide) ?_
          refine ev_putI d_X6_next_290 (by decide) fl_IcedTooSoonModel_114 fw_6_22 hm.1 rfl ?_
          refine ev_iinc d_X6_next_293 kv_iconst_1 rfl (by decide) ?_
          show it_Ev g l 2 it_m_X6_next 0 0 296 [some (.ref 45), none, some (.int (v2 + 1))] [] κ (it_up S24 45 22 (((10 * (S24 45 22)) + (S24 50 ((S24 45 19) : Int32).toNatClampNeg)) - 48)) (it_pv κ P)
          refine ev_aload_n d_X6_next_296 rfl ?_
          refine ev_dup d_X6_next_297 rfl ?_
          refine ev_getI d_X6_next_298 fl_IcedTooSoonModel_105 hm.1 rfl ?_
          refine ev_iconst d_X6_next_301 kv_iconst_1 ?_
          refine ev_iadd d_X6_next_302 ?_
          refine ev_putI d_X6_next_303 (by decide) fl_IcedTooSoonModel_105 fw_6_19 hm.1 rfl ?_
          refine ev_goto (tgt := 230) d_X6_next_306 (by decide) ?_
          refine ev_keep [true, false, true] ?_
          exact ih230 _ _ h
set_option maxHeartbeats 4000000 in
set_option maxRecDepth 100000 in
theorem Llp_X6_next_103 {g : it_G} {l : Launch} {κ : it_KK} (hm : it_wm κ) {P : Unit → it_SS → Prop} {k103 : (it_SS → Option (Unit × it_SS))} (hk103 : ∀  (S : it_SS), it_ok (k103  S) P → it_Ev g l 2 it_m_X6_next 0 0 146 [some (.ref 45), none, none] [] κ S (it_pv κ P)) : ∀ (n : Nat)  (S : it_SS), it_ok (lp_X6_next_103 κ  k103 n  S) P → it_Ev g l 2 it_m_X6_next 0 0 103 [some (.ref 45), none, none] [] κ S (it_pv κ P) := by
  intro n
  induction n with
  | zero =>
    intro  _ h
    exact (it_ok_n h).elim
  | succ n103 ih103 =>
    intro  S h
    rw [lp_X6_next_103] at h
    refine ev_aload_n d_X6_next_103 rfl ?_
    refine ev_getI d_X6_next_104 fl_IcedTooSoonModel_105 hm.1 rfl ?_
    refine ev_aload_n d_X6_next_107 rfl ?_
    refine ev_getI d_X6_next_108 fl_IcedTooSoonModel_67 hm.1 rfl ?_
    refine ev_icmp_ge (tgt := 146) d_X6_next_111 (by decide) (fun hc32 => ?_) (fun hc32 => ?_)
    · have h := it_ok_t h hc32
      refine ev_keep [true, false, false] ?_
      exact hk103  _ h
    · have h := it_ok_f h hc32
      refine ev_aload_n d_X6_next_114 rfl ?_
      refine ev_getRr (r := 50) rfl d_X6_next_115 fl_IcedTooSoonModel_22 hm.1 rfl ?_
      refine ev_aload_n d_X6_next_118 rfl ?_
      refine ev_getI d_X6_next_119 fl_IcedTooSoonModel_105 hm.1 rfl ?_
      obtain ⟨hb33, h⟩ := it_ok_g h
      refine ev_iald d_X6_next_122 (hm).2.2.2.2.2.1 (it_bd_in hb33) ?_
      refine ev_bipush d_X6_next_123 kv_bipush_97 ?_
      refine ev_bipush d_X6_next_125 kv_bipush_122 ?_
      refine ev_callS (M' := it_m_X6_in) (d' := 1) (As := [.int (S 50 ((S 45 19) : Int32).toNatClampNeg), .int 97, .int 122]) d_X6_next_127 ml_IcedTooSoonModel_78 rfl rfl (Nat.le_of_ble_eq_true rfl) (by decide) (by decide) (by decide) (L_X6_in  (it_ok_b h)) (fun _ _ _ _ q => by cases q.1; rfl) ?_
      rintro _ _ S34 ⟨rfl, r35, rfl, h⟩
      show it_Ev g l 2 it_m_X6_next 0 0 130 [some (.ref 45), none, none] [.int r35] κ S34 (it_pv κ P)
      refine ev_if_eq (tgt := 146) d_X6_next_130 (by decide) (fun hc36 => ?_) (fun hc36 => ?_)
      · have h := it_ok_t h hc36
        refine ev_keep [true, false, false] ?_
        exact hk103  _ h
      · have h := it_ok_f h hc36
        refine ev_aload_n d_X6_next_133 rfl ?_
        refine ev_dup d_X6_next_134 rfl ?_
        refine ev_getI d_X6_next_135 fl_IcedTooSoonModel_105 hm.1 rfl ?_
        refine ev_iconst d_X6_next_138 kv_iconst_1 ?_
        refine ev_iadd d_X6_next_139 ?_
        refine ev_putI d_X6_next_140 (by decide) fl_IcedTooSoonModel_105 fw_6_19 hm.1 rfl ?_
        refine ev_goto (tgt := 103) d_X6_next_143 (by decide) ?_
        refine ev_keep [true, false, false] ?_
        exact ih103  _ h
set_option maxHeartbeats 4000000 in
set_option maxRecDepth 100000 in
theorem L_X6_next {g : it_G} {l : Launch} {κ : it_KK} (hm : it_wm κ) {S : it_SS} {P : Unit → it_SS → Prop} (h : it_ok (f_X6_next κ  S) P) : it_Cn g l 2 it_m_X6_next [.ref 45] κ S (it_pv κ P) := by
  refine it_Cn.of (by decide +kernel) (Nat.le_of_ble_eq_true rfl) ?_
  rw [f_X6_next] at h
  show it_Ev g l 2 it_m_X6_next 0 0 0 [some (.ref 45), none, none] [] κ S (it_pv κ P)
  refine ev_keep [true, false, false] ?_
  refine Llp_X6_next_0 hm (fun  S5 h => ?_) _  _ h
  show it_Ev g l 2 it_m_X6_next 0 0 52 [some (.ref 45), none, none] [] κ S5 (it_pv κ P)
  refine ev_aload_n d_X6_next_52 rfl ?_
  refine ev_aload_n d_X6_next_53 rfl ?_
  refine ev_getI d_X6_next_54 fl_IcedTooSoonModel_105 hm.1 rfl ?_
  refine ev_putI d_X6_next_57 (by decide) fl_IcedTooSoonModel_108 fw_6_20 hm.1 rfl ?_
  refine ev_aload_n d_X6_next_60 rfl ?_
  refine ev_iconst d_X6_next_61 kv_iconst_0 ?_
  refine ev_putI d_X6_next_62 (by decide) fl_IcedTooSoonModel_111 fw_6_21 hm.1 rfl ?_
  refine ev_aload_n d_X6_next_65 rfl ?_
  refine ev_iconst d_X6_next_66 kv_iconst_0 ?_
  refine ev_putI d_X6_next_67 (by decide) fl_IcedTooSoonModel_114 fw_6_22 hm.1 rfl ?_
  refine ev_aload_n d_X6_next_70 rfl ?_
  refine ev_getI d_X6_next_71 fl_IcedTooSoonModel_105 hm.1 rfl ?_
  refine ev_aload_n d_X6_next_74 rfl ?_
  refine ev_getI d_X6_next_75 fl_IcedTooSoonModel_67 hm.1 rfl ?_
  refine ev_icmp_ne (tgt := 82) d_X6_next_78 (by decide) (fun hc6 => ?_) (fun hc6 => ?_)
  · have h := it_ok_f h hc6
    refine ev_aload_n d_X6_next_82 rfl ?_
    refine ev_getRr (r := 50) rfl d_X6_next_83 fl_IcedTooSoonModel_22 hm.1 rfl ?_
    refine ev_aload_n d_X6_next_86 rfl ?_
    refine ev_getI d_X6_next_87 fl_IcedTooSoonModel_105 hm.1 rfl ?_
    obtain ⟨hb7, h⟩ := it_ok_g h
    refine ev_iald d_X6_next_90 (hm).2.2.2.2.2.1 (it_bd_in hb7) ?_
    refine ev_istore_n d_X6_next_91 (by decide) ?_
    show it_Ev g l 2 it_m_X6_next 0 0 92 [some (.ref 45), some (.int ((it_up (it_up (it_up S5 45 20 (S5 45 19)) 45 21 0) 45 22 0) 50 (((it_up (it_up (it_up S5 45 20 (S5 45 19)) 45 21 0) 45 22 0) 45 19) : Int32).toNatClampNeg)), none] [] κ (it_up (it_up (it_up S5 45 20 (S5 45 19)) 45 21 0) 45 22 0) (it_pv κ P)
    refine ev_iload_n d_X6_next_92 rfl ?_
    refine ev_bipush d_X6_next_93 kv_bipush_97 ?_
    refine ev_bipush d_X6_next_95 kv_bipush_122 ?_
    refine ev_callS (M' := it_m_X6_in) (d' := 1) (As := [.int ((it_up (it_up (it_up S5 45 20 (S5 45 19)) 45 21 0) 45 22 0) 50 (((it_up (it_up (it_up S5 45 20 (S5 45 19)) 45 21 0) 45 22 0) 45 19) : Int32).toNatClampNeg), .int 97, .int 122]) d_X6_next_97 ml_IcedTooSoonModel_78 rfl rfl (Nat.le_of_ble_eq_true rfl) (by decide) (by decide) (by decide) (L_X6_in  (it_ok_b h)) (fun _ _ _ _ q => by cases q.1; rfl) ?_
    rintro _ _ S8 ⟨rfl, r9, rfl, h⟩
    show it_Ev g l 2 it_m_X6_next 0 0 100 [some (.ref 45), some (.int ((it_up (it_up (it_up S5 45 20 (S5 45 19)) 45 21 0) 45 22 0) 50 (((it_up (it_up (it_up S5 45 20 (S5 45 19)) 45 21 0) 45 22 0) 45 19) : Int32).toNatClampNeg)), none] [.int r9] κ S8 (it_pv κ P)
    refine ev_if_eq (tgt := 217) d_X6_next_100 (by decide) (fun hc10 => ?_) (fun hc10 => ?_)
    · have h := it_ok_t h hc10
      refine ev_iload_n d_X6_next_217 rfl ?_
      refine ev_bipush d_X6_next_218 kv_bipush_48 ?_
      refine ev_bipush d_X6_next_220 kv_bipush_57 ?_
      refine ev_callS (M' := it_m_X6_in) (d' := 1) (As := [.int ((it_up (it_up (it_up S5 45 20 (S5 45 19)) 45 21 0) 45 22 0) 50 (((it_up (it_up (it_up S5 45 20 (S5 45 19)) 45 21 0) 45 22 0) 45 19) : Int32).toNatClampNeg), .int 48, .int 57]) d_X6_next_222 ml_IcedTooSoonModel_78 rfl rfl (Nat.le_of_ble_eq_true rfl) (by decide) (by decide) (by decide) (L_X6_in  (it_ok_b h)) (fun _ _ _ _ q => by cases q.1; rfl) ?_
      rintro _ _ S11 ⟨rfl, r12, rfl, h⟩
      show it_Ev g l 2 it_m_X6_next 0 0 225 [some (.ref 45), some (.int ((it_up (it_up (it_up S5 45 20 (S5 45 19)) 45 21 0) 45 22 0) 50 (((it_up (it_up (it_up S5 45 20 (S5 45 19)) 45 21 0) 45 22 0) 45 19) : Int32).toNatClampNeg)), none] [.int r12] κ S11 (it_pv κ P)
      refine ev_if_eq (tgt := 326) d_X6_next_225 (by decide) (fun hc13 => ?_) (fun hc13 => ?_)
      · have h := it_ok_t h hc13
        refine ev_iload_n d_X6_next_326 rfl ?_
        refine ev_bipush d_X6_next_327 kv_bipush_40 ?_
        refine ev_icmp_eq (tgt := 374) d_X6_next_329 (by decide) (fun hc14 => ?_) (fun hc14 => ?_)
        · have h := it_ok_t h hc14
          refine ev_iconst d_X6_next_374 kv_iconst_1 ?_
          refine ev_goto (tgt := 379) d_X6_next_375 (by decide) ?_
          refine ev_istore_n d_X6_next_379 (by decide) ?_
          show it_Ev g l 2 it_m_X6_next 0 0 380 [some (.ref 45), some (.int ((it_up (it_up (it_up S5 45 20 (S5 45 19)) 45 21 0) 45 22 0) 50 (((it_up (it_up (it_up S5 45 20 (S5 45 19)) 45 21 0) 45 22 0) 45 19) : Int32).toNatClampNeg)), some (.int 1)] [] κ S11 (it_pv κ P)
          refine ev_aload_n d_X6_next_380 rfl ?_
          refine ev_iload_n d_X6_next_381 rfl ?_
          refine ev_if_eq (tgt := 389) d_X6_next_382 (by decide) (fun hc => absurd hc (by decide)) (fun _ => ?_)
          refine ev_iload_n d_X6_next_385 rfl ?_
          refine ev_goto (tgt := 390) d_X6_next_386 (by decide) ?_
          refine ev_putI d_X6_next_390 (by decide) fl_IcedTooSoonModel_111 fw_6_21 hm.1 rfl ?_
          refine ev_aload_n d_X6_next_393 rfl ?_
          refine ev_dup d_X6_next_394 rfl ?_
          refine ev_getI d_X6_next_395 fl_IcedTooSoonModel_105 hm.1 rfl ?_
          refine ev_iconst d_X6_next_398 kv_iconst_1 ?_
          refine ev_iadd d_X6_next_399 ?_
          refine ev_putI d_X6_next_400 (by decide) fl_IcedTooSoonModel_105 fw_6_19 hm.1 rfl ?_
          exact ev_ret (v := none) ⟨d_X6_next_403, rfl⟩ (by decide) (by decide) ⟨rfl, rfl, it_ok_r h⟩
        · have h := it_ok_f h hc14
          refine ev_iload_n d_X6_next_332 rfl ?_
          refine ev_bipush d_X6_next_333 kv_bipush_41 ?_
          refine ev_icmp_eq (tgt := 374) d_X6_next_335 (by decide) (fun hc15 => ?_) (fun hc15 => ?_)
          · have h := it_ok_t h hc15
            refine ev_iconst d_X6_next_374 kv_iconst_1 ?_
            refine ev_goto (tgt := 379) d_X6_next_375 (by decide) ?_
            refine ev_istore_n d_X6_next_379 (by decide) ?_
            show it_Ev g l 2 it_m_X6_next 0 0 380 [some (.ref 45), some (.int ((it_up (it_up (it_up S5 45 20 (S5 45 19)) 45 21 0) 45 22 0) 50 (((it_up (it_up (it_up S5 45 20 (S5 45 19)) 45 21 0) 45 22 0) 45 19) : Int32).toNatClampNeg)), some (.int 1)] [] κ S11 (it_pv κ P)
            refine ev_aload_n d_X6_next_380 rfl ?_
            refine ev_iload_n d_X6_next_381 rfl ?_
            refine ev_if_eq (tgt := 389) d_X6_next_382 (by decide) (fun hc => absurd hc (by decide)) (fun _ => ?_)
            refine ev_iload_n d_X6_next_385 rfl ?_
            refine ev_goto (tgt := 390) d_X6_next_386 (by decide) ?_
            refine ev_putI d_X6_next_390 (by decide) fl_IcedTooSoonModel_111 fw_6_21 hm.1 rfl ?_
            refine ev_aload_n d_X6_next_393 rfl ?_
            refine ev_dup d_X6_next_394 rfl ?_
            refine ev_getI d_X6_next_395 fl_IcedTooSoonModel_105 hm.1 rfl ?_
            refine ev_iconst d_X6_next_398 kv_iconst_1 ?_
            refine ev_iadd d_X6_next_399 ?_
            refine ev_putI d_X6_next_400 (by decide) fl_IcedTooSoonModel_105 fw_6_19 hm.1 rfl ?_
            exact ev_ret (v := none) ⟨d_X6_next_403, rfl⟩ (by decide) (by decide) ⟨rfl, rfl, it_ok_r h⟩
          · have h := it_ok_f h hc15
            refine ev_iload_n d_X6_next_338 rfl ?_
            refine ev_bipush d_X6_next_339 kv_bipush_59 ?_
            refine ev_icmp_eq (tgt := 374) d_X6_next_341 (by decide) (fun hc16 => ?_) (fun hc16 => ?_)
            · have h := it_ok_t h hc16
              refine ev_iconst d_X6_next_374 kv_iconst_1 ?_
              refine ev_goto (tgt := 379) d_X6_next_375 (by decide) ?_
              refine ev_istore_n d_X6_next_379 (by decide) ?_
              show it_Ev g l 2 it_m_X6_next 0 0 380 [some (.ref 45), some (.int ((it_up (it_up (it_up S5 45 20 (S5 45 19)) 45 21 0) 45 22 0) 50 (((it_up (it_up (it_up S5 45 20 (S5 45 19)) 45 21 0) 45 22 0) 45 19) : Int32).toNatClampNeg)), some (.int 1)] [] κ S11 (it_pv κ P)
              refine ev_aload_n d_X6_next_380 rfl ?_
              refine ev_iload_n d_X6_next_381 rfl ?_
              refine ev_if_eq (tgt := 389) d_X6_next_382 (by decide) (fun hc => absurd hc (by decide)) (fun _ => ?_)
              refine ev_iload_n d_X6_next_385 rfl ?_
              refine ev_goto (tgt := 390) d_X6_next_386 (by decide) ?_
              refine ev_putI d_X6_next_390 (by decide) fl_IcedTooSoonModel_111 fw_6_21 hm.1 rfl ?_
              refine ev_aload_n d_X6_next_393 rfl ?_
              refine ev_dup d_X6_next_394 rfl ?_
              refine ev_getI d_X6_next_395 fl_IcedTooSoonModel_105 hm.1 rfl ?_
              refine ev_iconst d_X6_next_398 kv_iconst_1 ?_
              refine ev_iadd d_X6_next_399 ?_
              refine ev_putI d_X6_next_400 (by decide) fl_IcedTooSoonModel_105 fw_6_19 hm.1 rfl ?_
              exact ev_ret (v := none) ⟨d_X6_next_403, rfl⟩ (by decide) (by decide) ⟨rfl, rfl, it_ok_r h⟩
            · have h := it_ok_f h hc16
              refine ev_iload_n d_X6_next_344 rfl ?_
              refine ev_bipush d_X6_next_345 kv_bipush_43 ?_
              refine ev_icmp_eq (tgt := 374) d_X6_next_347 (by decide) (fun hc17 => ?_) (fun hc17 => ?_)
              · have h := it_ok_t h hc17
                refine ev_iconst d_X6_next_374 kv_iconst_1 ?_
                refine ev_goto (tgt := 379) d_X6_next_375 (by decide) ?_
                refine ev_istore_n d_X6_next_379 (by decide) ?_
                show it_Ev g l 2 it_m_X6_next 0 0 380 [some (.ref 45), some (.int ((it_up (it_up (it_up S5 45 20 (S5 45 19)) 45 21 0) 45 22 0) 50 (((it_up (it_up (it_up S5 45 20 (S5 45 19)) 45 21 0) 45 22 0) 45 19) : Int32).toNatClampNeg)), some (.int 1)] [] κ S11 (it_pv κ P)
                refine ev_aload_n d_X6_next_380 rfl ?_
                refine ev_iload_n d_X6_next_381 rfl ?_
                refine ev_if_eq (tgt := 389) d_X6_next_382 (by decide) (fun hc => absurd hc (by decide)) (fun _ => ?_)
                refine ev_iload_n d_X6_next_385 rfl ?_
                refine ev_goto (tgt := 390) d_X6_next_386 (by decide) ?_
                refine ev_putI d_X6_next_390 (by decide) fl_IcedTooSoonModel_111 fw_6_21 hm.1 rfl ?_
                refine ev_aload_n d_X6_next_393 rfl ?_
                refine ev_dup d_X6_next_394 rfl ?_
                refine ev_getI d_X6_next_395 fl_IcedTooSoonModel_105 hm.1 rfl ?_
                refine ev_iconst d_X6_next_398 kv_iconst_1 ?_
                refine ev_iadd d_X6_next_399 ?_
                refine ev_putI d_X6_next_400 (by decide) fl_IcedTooSoonModel_105 fw_6_19 hm.1 rfl ?_
                exact ev_ret (v := none) ⟨d_X6_next_403, rfl⟩ (by decide) (by decide) ⟨rfl, rfl, it_ok_r h⟩
              · have h := it_ok_f h hc17
                refine ev_iload_n d_X6_next_350 rfl ?_
                refine ev_bipush d_X6_next_351 kv_bipush_45 ?_
                refine ev_icmp_eq (tgt := 374) d_X6_next_353 (by decide) (fun hc18 => ?_) (fun hc18 => ?_)
                · have h := it_ok_t h hc18
                  refine ev_iconst d_X6_next_374 kv_iconst_1 ?_
                  refine ev_goto (tgt := 379) d_X6_next_375 (by decide) ?_
                  refine ev_istore_n d_X6_next_379 (by decide) ?_
                  show it_Ev g l 2 it_m_X6_next 0 0 380 [some (.ref 45), some (.int ((it_up (it_up (it_up S5 45 20 (S5 45 19)) 45 21 0) 45 22 0) 50 (((it_up (it_up (it_up S5 45 20 (S5 45 19)) 45 21 0) 45 22 0) 45 19) : Int32).toNatClampNeg)), some (.int 1)] [] κ S11 (it_pv κ P)
                  refine ev_aload_n d_X6_next_380 rfl ?_
                  refine ev_iload_n d_X6_next_381 rfl ?_
                  refine ev_if_eq (tgt := 389) d_X6_next_382 (by decide) (fun hc => absurd hc (by decide)) (fun _ => ?_)
                  refine ev_iload_n d_X6_next_385 rfl ?_
                  refine ev_goto (tgt := 390) d_X6_next_386 (by decide) ?_
                  refine ev_putI d_X6_next_390 (by decide) fl_IcedTooSoonModel_111 fw_6_21 hm.1 rfl ?_
                  refine ev_aload_n d_X6_next_393 rfl ?_
                  refine ev_dup d_X6_next_394 rfl ?_
                  refine ev_getI d_X6_next_395 fl_IcedTooSoonModel_105 hm.1 rfl ?_
                  refine ev_iconst d_X6_next_398 kv_iconst_1 ?_
                  refine ev_iadd d_X6_next_399 ?_
                  refine ev_putI d_X6_next_400 (by decide) fl_IcedTooSoonModel_105 fw_6_19 hm.1 rfl ?_
                  exact ev_ret (v := none) ⟨d_X6_next_403, rfl⟩ (by decide) (by decide) ⟨rfl, rfl, it_ok_r h⟩
                · have h := it_ok_f h hc18
                  refine ev_iload_n d_X6_next_356 rfl ?_
                  refine ev_bipush d_X6_next_357 kv_bipush_42 ?_
                  refine ev_icmp_eq (tgt := 374) d_X6_next_359 (by decide) (fun hc19 => ?_) (fun hc19 => ?_)
                  · have h := it_ok_t h hc19
                    refine ev_iconst d_X6_next_374 kv_iconst_1 ?_
                    refine ev_goto (tgt := 379) d_X6_next_375 (by decide) ?_
                    refine ev_istore_n d_X6_next_379 (by decide) ?_
                    show it_Ev g l 2 it_m_X6_next 0 0 380 [some (.ref 45), some (.int ((it_up (it_up (it_up S5 45 20 (S5 45 19)) 45 21 0) 45 22 0) 50 (((it_up (it_up (it_up S5 45 20 (S5 45 19)) 45 21 0) 45 22 0) 45 19) : Int32).toNatClampNeg)), some (.int 1)] [] κ S11 (it_pv κ P)
                    refine ev_aload_n d_X6_next_380 rfl ?_
                    refine ev_iload_n d_X6_next_381 rfl ?_
                    refine ev_if_eq (tgt := 389) d_X6_next_382 (by decide) (fun hc => absurd hc (by decide)) (fun _ => ?_)
                    refine ev_iload_n d_X6_next_385 rfl ?_
                    refine ev_goto (tgt := 390) d_X6_next_386 (by decide) ?_
                    refine ev_putI d_X6_next_390 (by decide) fl_IcedTooSoonModel_111 fw_6_21 hm.1 rfl ?_
                    refine ev_aload_n d_X6_next_393 rfl ?_
                    refine ev_dup d_X6_next_394 rfl ?_
                    refine ev_getI d_X6_next_395 fl_IcedTooSoonModel_105 hm.1 rfl ?_
                    refine ev_iconst d_X6_next_398 kv_iconst_1 ?_
                    refine ev_iadd d_X6_next_399 ?_
                    refine ev_putI d_X6_next_400 (by decide) fl_IcedTooSoonModel_105 fw_6_19 hm.1 rfl ?_
                    exact ev_ret (v := none) ⟨d_X6_next_403, rfl⟩ (by decide) (by decide) ⟨rfl, rfl, it_ok_r h⟩
                  · have h := it_ok_f h hc19
                    refine ev_iload_n d_X6_next_362 rfl ?_
                    refine ev_bipush d_X6_next_363 kv_bipush_60 ?_
                    refine ev_icmp_eq (tgt := 374) d_X6_next_365 (by decide) (fun hc20 => ?_) (fun hc20 => ?_)
                    · have h := it_ok_t h hc20
                      refine ev_iconst d_X6_next_374 kv_iconst_1 ?_
                      refine ev_goto (tgt := 379) d_X6_next_375 (by decide) ?_
                      refine ev_istore_n d_X6_next_379 (by decide) ?_
                      show it_Ev g l 2 it_m_X6_next 0 0 380 [some (.ref 45), some (.int ((it_up (it_up (it_up S5 45 20 (S5 45 19)) 45 21 0) 45 22 0) 50 (((it_up (it_up (it_up S5 45 20 (S5 45 19)) 45 21 0) 45 22 0) 45 19) : Int32).toNatClampNeg)), some (.int 1)] [] κ S11 (it_pv κ P)
                      refine ev_aload_n d_X6_next_380 rfl ?_
                      refine ev_iload_n d_X6_next_381 rfl ?_
                      refine ev_if_eq (tgt := 389) d_X6_next_382 (by decide) (fun hc => absurd hc (by decide)) (fun _ => ?_)
                      refine ev_iload_n d_X6_next_385 rfl ?_
                      refine ev_goto (tgt := 390) d_X6_next_386 (by decide) ?_
                      refine ev_putI d_X6_next_390 (by decide) fl_IcedTooSoonModel_111 fw_6_21 hm.1 rfl ?_
                      refine ev_aload_n d_X6_next_393 rfl ?_
                      refine ev_dup d_X6_next_394 rfl ?_
                      refine ev_getI d_X6_next_395 fl_IcedTooSoonModel_105 hm.1 rfl ?_
                      refine ev_iconst d_X6_next_398 kv_iconst_1 ?_
                      refine ev_iadd d_X6_next_399 ?_
                      refine ev_putI d_X6_next_400 (by decide) fl_IcedTooSoonModel_105 fw_6_19 hm.1 rfl ?_
                      exact ev_ret (v := none) ⟨d_X6_next_403, rfl⟩ (by decide) (by decide) ⟨rfl, rfl, it_ok_r h⟩
                    · have h := it_ok_f h hc20
                      refine ev_iload_n d_X6_next_368 rfl ?_
                      refine ev_bipush d_X6_next_369 kv_bipush_61 ?_
                      refine ev_icmp_ne (tgt := 378) d_X6_next_371 (by decide) (fun hc21 => ?_) (fun hc21 => ?_)
                      · have h := it_ok_f h hc21
                        refine ev_iconst d_X6_next_378 kv_iconst_0 ?_
                        refine ev_istore_n d_X6_next_379 (by decide) ?_
                        show it_Ev g l 2 it_m_X6_next 0 0 380 [some (.ref 45), some (.int ((it_up (it_up (it_up S5 45 20 (S5 45 19)) 45 21 0) 45 22 0) 50 (((it_up (it_up (it_up S5 45 20 (S5 45 19)) 45 21 0) 45 22 0) 45 19) : Int32).toNatClampNeg)), some (.int 0)] [] κ S11 (it_pv κ P)
                        refine ev_aload_n d_X6_next_380 rfl ?_
                        refine ev_iload_n d_X6_next_381 rfl ?_
                        refine ev_if_eq (tgt := 389) d_X6_next_382 (by decide) (fun _ => ?_) (fun hc => absurd (by decide) hc)
                        refine ev_iconst d_X6_next_389 kv_iconst_m1 ?_
                        refine ev_putI d_X6_next_390 (by decide) fl_IcedTooSoonModel_111 fw_6_21 hm.1 rfl ?_
                        refine ev_aload_n d_X6_next_393 rfl ?_
                        refine ev_dup d_X6_next_394 rfl ?_
                        refine ev_getI d_X6_next_395 fl_IcedTooSoonModel_105 hm.1 rfl ?_
                        refine ev_iconst d_X6_next_398 kv_iconst_1 ?_
                        refine ev_iadd d_X6_next_399 ?_
                        refine ev_putI d_X6_next_400 (by decide) fl_IcedTooSoonModel_105 fw_6_19 hm.1 rfl ?_
                        exact ev_ret (v := none) ⟨d_X6_next_403, rfl⟩ (by decide) (by decide) ⟨rfl, rfl, it_ok_r h⟩
                      · have h := it_ok_t h hc21
                        refine ev_iconst d_X6_next_374 kv_iconst_1 ?_
                        refine ev_goto (tgt := 379) d_X6_next_375 (by decide) ?_
                        refine ev_istore_n d_X6_next_379 (by decide) ?_
                        show it_Ev g l 2 it_m_X6_next 0 0 380 [some (.ref 45), some (.int ((it_up (it_up (it_up S5 45 20 (S5 45 19)) 45 21 0) 45 22 0) 50 (((it_up (it_up (it_up S5 45 20 (S5 45 19)) 45 21 0) 45 22 0) 45 19) : Int32).toNatClampNeg)), some (.int 1)] [] κ S11 (it_pv κ P)
                        refine ev_aload_n d_X6_next_380 rfl ?_
                        refine ev_iload_n d_X6_next_381 rfl ?_
                        refine ev_if_eq (tgt := 389) d_X6_next_382 (by decide) (fun hc => absurd hc (by decide)) (fun _ => ?_)
                        refine ev_iload_n d_X6_next_385 rfl ?_
                        refine ev_goto (tgt := 390) d_X6_next_386 (by decide) ?_
                        refine ev_putI d_X6_next_390 (by decide) fl_IcedTooSoonModel_111 fw_6_21 hm.1 rfl ?_
                        refine ev_aload_n d_X6_next_393 rfl ?_
                        refine ev_dup d_X6_next_394 rfl ?_
                        refine ev_getI d_X6_next_395 fl_IcedTooSoonModel_105 hm.1 rfl ?_
                        refine ev_iconst d_X6_next_398 kv_iconst_1 ?_
                        refine ev_iadd d_X6_next_399 ?_
                        refine ev_putI d_X6_next_400 (by decide) fl_IcedTooSoonModel_105 fw_6_19 hm.1 rfl ?_
                        exact ev_ret (v := none) ⟨d_X6_next_403, rfl⟩ (by decide) (by decide) ⟨rfl, rfl, it_ok_r h⟩
      · have h := it_ok_f h hc13
        refine ev_iconst d_X6_next_228 kv_iconst_0 ?_
        refine ev_istore_n d_X6_next_229 (by decide) ?_
        show it_Ev g l 2 it_m_X6_next 0 0 230 [some (.ref 45), some (.int ((it_up (it_up (it_up S5 45 20 (S5 45 19)) 45 21 0) 45 22 0) 50 (((it_up (it_up (it_up S5 45 20 (S5 45 19)) 45 21 0) 45 22 0) 45 19) : Int32).toNatClampNeg)), some (.int 0)] [] κ S11 (it_pv κ P)
        refine ev_keep [true, false, true] ?_
        refine Llp_X6_next_230 hm (fun v29 S30 h => ?_) _ _ _ h
        show it_Ev g l 2 it_m_X6_next 0 0 309 [some (.ref 45), none, some (.int v29)] [] κ S30 (it_pv κ P)
        refine ev_aload_n d_X6_next_309 rfl ?_
        refine ev_iload_n d_X6_next_310 rfl ?_
        refine ev_iconst d_X6_next_311 kv_iconst_4 ?_
        refine ev_icmp_le (tgt := 319) d_X6_next_312 (by decide) (fun hc31 => ?_) (fun hc31 => ?_)
        · have h := it_ok_t h hc31
          refine ev_iconst d_X6_next_319 kv_iconst_1 ?_
          refine ev_putI d_X6_next_320 (by decide) fl_IcedTooSoonModel_111 fw_6_21 hm.1 rfl ?_
          refine ev_goto (tgt := 403) d_X6_next_323 (by decide) ?_
          exact ev_ret (v := none) ⟨d_X6_next_403, rfl⟩ (by decide) (by decide) ⟨rfl, rfl, it_ok_r h⟩
        · have h := it_ok_f h hc31
          refine ev_iconst d_X6_next_315 kv_iconst_m1 ?_
          refine ev_goto (tgt := 320) d_X6_next_316 (by decide) ?_
          refine ev_putI d_X6_next_320 (by decide) fl_IcedTooSoonModel_111 fw_6_21 hm.1 rfl ?_
          refine ev_goto (tgt := 403) d_X6_next_323 (by decide) ?_
          exact ev_ret (v := none) ⟨d_X6_next_403, rfl⟩ (by decide) (by decide) ⟨rfl, rfl, it_ok_r h⟩
    · have h := it_ok_f h hc10
      refine ev_keep [true, false, false] ?_
      refine Llp_X6_next_103 hm (fun  S37 h => ?_) _  _ h
      show it_Ev g l 2 it_m_X6_next 0 0 146 [some (.ref 45), none, none] [] κ S37 (it_pv κ P)
      refine ev_aload_n d_X6_next_146 rfl ?_
      refine ev_aload_n d_X6_next_147 rfl ?_
      refine ev_getI d_X6_next_148 fl_IcedTooSoonModel_108 hm.1 rfl ?_
      refine ev_aload_n d_X6_next_151 rfl ?_
      refine ev_getI d_X6_next_152 fl_IcedTooSoonModel_105 hm.1 rfl ?_
      refine ev_callV (ci := 6) (b := 45) (M' := it_m_X6_wordFrom) (d' := 1) (As := [.int (S37 45 20), .int (S37 45 19)]) d_X6_next_155 ml_IcedTooSoonModel_117 hm.1.1 hm.1.2.1 ⟨_, rfl, rfl⟩ rfl rfl (Nat.le_of_ble_eq_true rfl) (by decide) (by decide) (by decide) (L_X6_wordFrom hm (it_ok_b h)) (fun _ _ _ _ q => by cases q.1; rfl) ?_
      rintro _ _ S38 ⟨rfl, r39, rfl, h⟩
      show it_Ev g l 2 it_m_X6_next 0 0 158 [some (.ref 45), none, none] [.int r39] κ S38 (it_pv κ P)
      refine ev_istore_n d_X6_next_158 (by decide) ?_
      show it_Ev g l 2 it_m_X6_next 0 0 159 [some (.ref 45), none, some (.int r39)] [] κ S38 (it_pv κ P)
      refine ev_aload_n d_X6_next_159 rfl ?_
      refine ev_iload_n d_X6_next_160 rfl ?_
      refine ev_iconst d_X6_next_161 kv_iconst_3 ?_
      refine ev_icmp_ge (tgt := 169) d_X6_next_162 (by decide) (fun hc40 => ?_) (fun hc40 => ?_)
      · have h := it_ok_t h hc40
        refine ev_iload_n d_X6_next_169 rfl ?_
        refine ev_bipush d_X6_next_170 kv_bipush_9 ?_
        refine ev_icmp_ge (tgt := 179) d_X6_next_172 (by decide) (fun hc41 => ?_) (fun hc41 => ?_)
        · have h := it_ok_t h hc41
          refine ev_iload_n d_X6_next_179 rfl ?_
          refine ev_bipush d_X6_next_180 kv_bipush_12 ?_
          refine ev_icmp_ne (tgt := 189) d_X6_next_182 (by decide) (fun hc42 => ?_) (fun hc42 => ?_)
          · have h := it_ok_f h hc42
            refine ev_iconst d_X6_next_189 kv_iconst_4 ?_
            refine ev_iload_n d_X6_next_190 rfl ?_
            refine ev_iadd d_X6_next_191 ?_
            refine ev_bipush d_X6_next_192 kv_bipush_9 ?_
            refine ev_isub d_X6_next_194 ?_
            refine ev_putI d_X6_next_195 (by decide) fl_IcedTooSoonModel_111 fw_6_21 hm.1 rfl ?_
            refine ev_aload_n d_X6_next_198 rfl ?_
            refine ev_iload_n d_X6_next_199 rfl ?_
            refine ev_iconst d_X6_next_200 kv_iconst_3 ?_
            refine ev_icmp_ge (tgt := 208) d_X6_next_201 (by decide) (fun hc43 => ?_) (fun hc43 => ?_)
            · have h := it_ok_t h hc43
              refine ev_iload_n d_X6_next_208 rfl ?_
              refine ev_iconst d_X6_next_209 kv_iconst_3 ?_
              refine ev_isub d_X6_next_210 ?_
              refine ev_putI d_X6_next_211 (by decide) fl_IcedTooSoonModel_114 fw_6_22 hm.1 rfl ?_
              refine ev_goto (tgt := 403) d_X6_next_214 (by decide) ?_
              exact ev_ret (v := none) ⟨d_X6_next_403, rfl⟩ (by decide) (by decide) ⟨rfl, rfl, it_ok_r h⟩
            · have h := it_ok_f h hc43
              refine ev_iload_n d_X6_next_204 rfl ?_
              refine ev_goto (tgt := 211) d_X6_next_205 (by decide) ?_
              refine ev_putI d_X6_next_211 (by decide) fl_IcedTooSoonModel_114 fw_6_22 hm.1 rfl ?_
              refine ev_goto (tgt := 403) d_X6_next_214 (by decide) ?_
              exact ev_ret (v := none) ⟨d_X6_next_403, rfl⟩ (by decide) (by decide) ⟨rfl, rfl, it_ok_r h⟩
          · have h := it_ok_t h hc42
            refine ev_iconst d_X6_next_185 kv_iconst_m1 ?_
            refine ev_goto (tgt := 195) d_X6_next_186 (by decide) ?_
            refine ev_putI d_X6_next_195 (by decide) fl_IcedTooSoonModel_111 fw_6_21 hm.1 rfl ?_
            refine ev_aload_n d_X6_next_198 rfl ?_
            refine ev_iload_n d_X6_next_199 rfl ?_
            refine ev_iconst d_X6_next_200 kv_iconst_3 ?_
            refine ev_icmp_ge (tgt := 208) d_X6_next_201 (by decide) (fun hc44 => ?_) (fun hc44 => ?_)
            · have h := it_ok_t h hc44
              refine ev_iload_n d_X6_next_208 rfl ?_
              refine ev_iconst d_X6_next_209 kv_iconst_3 ?_
              refine ev_isub d_X6_next_210 ?_
              refine ev_putI d_X6_next_211 (by decide) fl_IcedTooSoonModel_114 fw_6_22 hm.1 rfl ?_
              refine ev_goto (tgt := 403) d_X6_next_214 (by decide) ?_
              exact ev_ret (v := none) ⟨d_X6_next_403, rfl⟩ (by decide) (by decide) ⟨rfl, rfl, it_ok_r h⟩
            · have h := it_ok_f h hc44
              refine ev_iload_n d_X6_next_204 rfl ?_
              refine ev_goto (tgt := 211) d_X6_next_205 (by decide) ?_
              refine ev_putI d_X6_next_211 (by decide) fl_IcedTooSoonModel_114 fw_6_22 hm.1 rfl ?_
              refine ev_goto (tgt := 403) d_X6_next_214 (by decide) ?_
              exact ev_ret (v := none) ⟨d_X6_next_403, rfl⟩ (by decide) (by decide) ⟨rfl, rfl, it_ok_r h⟩
        · have h := it_ok_f h hc41
          refine ev_iconst d_X6_next_175 kv_iconst_2 ?_
          refine ev_goto (tgt := 195) d_X6_next_176 (by decide) ?_
          refine ev_putI d_X6_next_195 (by decide) fl_IcedTooSoonModel_111 fw_6_21 hm.1 rfl ?_
          refine ev_aload_n d_X6_next_198 rfl ?_
          refine ev_iload_n d_X6_next_199 rfl ?_
          refine ev_iconst d_X6_next_200 kv_iconst_3 ?_
          refine ev_icmp_ge (tgt := 208) d_X6_next_201 (by decide) (fun hc45 => ?_) (fun hc45 => ?_)
          · have h := it_ok_t h hc45
            refine ev_iload_n d_X6_next_208 rfl ?_
            refine ev_iconst d_X6_next_209 kv_iconst_3 ?_
            refine ev_isub d_X6_next_210 ?_
            refine ev_putI d_X6_next_211 (by decide) fl_IcedTooSoonModel_114 fw_6_22 hm.1 rfl ?_
            refine ev_goto (tgt := 403) d_X6_next_214 (by decide) ?_
            exact ev_ret (v := none) ⟨d_X6_next_403, rfl⟩ (by decide) (by decide) ⟨rfl, rfl, it_ok_r h⟩
          · have h := it_ok_f h hc45
            refine ev_iload_n d_X6_next_204 rfl ?_
            refine ev_goto (tgt := 211) d_X6_next_205 (by decide) ?_
            refine ev_putI d_X6_next_211 (by decide) fl_IcedTooSoonModel_114 fw_6_22 hm.1 rfl ?_
            refine ev_goto (tgt := 403) d_X6_next_214 (by decide) ?_
            exact ev_ret (v := none) ⟨d_X6_next_403, rfl⟩ (by decide) (by decide) ⟨rfl, rfl, it_ok_r h⟩
      · have h := it_ok_f h hc40
        refine ev_iconst d_X6_next_165 kv_iconst_3 ?_
        refine ev_goto (tgt := 195) d_X6_next_166 (by decide) ?_
        refine ev_putI d_X6_next_195 (by decide) fl_IcedTooSoonModel_111 fw_6_21 hm.1 rfl ?_
        refine ev_aload_n d_X6_next_198 rfl ?_
        refine ev_iload_n d_X6_next_199 rfl ?_
        refine ev_iconst d_X6_next_200 kv_iconst_3 ?_
        refine ev_icmp_ge (tgt := 208) d_X6_next_201 (by decide) (fun hc46 => ?_) (fun hc46 => ?_)
        · have h := it_ok_t h hc46
          refine ev_iload_n d_X6_next_208 rfl ?_
          refine ev_iconst d_X6_next_209 kv_iconst_3 ?_
          refine ev_isub d_X6_next_210 ?_
          refine ev_putI d_X6_next_211 (by decide) fl_IcedTooSoonModel_114 fw_6_22 hm.1 rfl ?_
          refine ev_goto (tgt := 403) d_X6_next_214 (by decide) ?_
          exact ev_ret (v := none) ⟨d_X6_next_403, rfl⟩ (by decide) (by decide) ⟨rfl, rfl, it_ok_r h⟩
        · have h := it_ok_f h hc46
          refine ev_iload_n d_X6_next_204 rfl ?_
          refine ev_goto (tgt := 211) d_X6_next_205 (by decide) ?_
          refine ev_putI d_X6_next_211 (by decide) fl_IcedTooSoonModel_114 fw_6_22 hm.1 rfl ?_
          refine ev_goto (tgt := 403) d_X6_next_214 (by decide) ?_
          exact ev_ret (v := none) ⟨d_X6_next_403, rfl⟩ (by decide) (by decide) ⟨rfl, rfl, it_ok_r h⟩
  · have h := it_ok_t h hc6
    exact ev_ret (v := none) ⟨d_X6_next_81, rfl⟩ (by decide) (by decide) ⟨rfl, rfl, it_ok_r h⟩
theorem d_X6_puts_0 : decode prog_8_method_16_code 0 = .ok (.aload_n 0, 1) := by decide +kernel
theorem d_X6_puts_1 : decode prog_8_method_16_code 1 = .ok (.getfield 25, 3) := by decide +kernel
theorem d_X6_puts_4 : decode prog_8_method_16_code 4 = .ok (.sipush 200, 3) := by decide +kernel
theorem d_X6_puts_7 : decode prog_8_method_16_code 7 = .ok (.aload_n 0, 1) := by decide +kernel
theorem d_X6_puts_8 : decode prog_8_method_16_code 8 = .ok (.getfield 96, 3) := by decide +kernel
theorem d_X6_puts_11 : decode prog_8_method_16_code 11 = .ok (.imul, 1) := by decide +kernel
theorem d_X6_puts_12 : decode prog_8_method_16_code 12 = .ok (.aload_n 0, 1) := by decide +kernel
theorem d_X6_puts_13 : decode prog_8_method_16_code 13 = .ok (.getfield 121, 3) := by decide +kernel
theorem d_X6_puts_16 : decode prog_8_method_16_code 16 = .ok (.iadd, 1) := by decide +kernel
theorem d_X6_puts_17 : decode prog_8_method_16_code 17 = .ok (.iload_n 1, 1) := by decide +kernel
theorem d_X6_puts_18 : decode prog_8_method_16_code 18 = .ok (.iastore, 1) := by decide +kernel
theorem d_X6_puts_19 : decode prog_8_method_16_code 19 = .ok (.aload_n 0, 1) := by decide +kernel
theorem d_X6_puts_20 : decode prog_8_method_16_code 20 = .ok (.dup, 1) := by decide +kernel
theorem d_X6_puts_21 : decode prog_8_method_16_code 21 = .ok (.getfield 121, 3) := by decide +kernel
theorem d_X6_puts_24 : decode prog_8_method_16_code 24 = .ok (.iconst 1, 1) := by decide +kernel
theorem d_X6_puts_25 : decode prog_8_method_16_code 25 = .ok (.iadd, 1) := by decide +kernel
theorem d_X6_puts_26 : decode prog_8_method_16_code 26 = .ok (.putfield 121, 3) := by decide +kernel
theorem d_X6_puts_29 : decode prog_8_method_16_code 29 = .ok (.return_, 1) := by decide +kernel
def f_X6_puts (κ : it_KK) (x1 : Int32) (S : it_SS) : Option (Unit × it_SS) :=
if it_bd ((200 * (S 45 10)) + (S 45 27)) 1200 = true then
some ((), it_up (it_up S 51 (((200 * (S 45 10)) + (S 45 27)) : Int32).toNatClampNeg x1) 45 27 (((it_up S 51 (((200 * (S 45 10)) + (S 45 27)) : Int32).toNatClampNeg x1) 45 27) + 1))
else none
set_option maxHeartbeats 4000000 in
set_option maxRecDepth 100000 in
theorem L_X6_puts {g : it_G} {l : Launch} {κ : it_KK} {x1 : Int32} (hm : it_wm κ) {S : it_SS} {P : Unit → it_SS → Prop} (h : it_ok (f_X6_puts κ x1 S) P) : it_Cn g l 1 it_m_X6_puts [.ref 45, .int x1] κ S (it_pv κ P) := by
  refine it_Cn.of (by decide +kernel) (Nat.le_of_ble_eq_true rfl) ?_
  rw [f_X6_puts] at h
  show it_Ev g l 1 it_m_X6_puts 0 0 0 [some (.ref 45), some (.int x1)] [] κ S (it_pv κ P)
  refine ev_aload_n d_X6_puts_0 rfl ?_
  refine ev_getRr (r := 51) rfl d_X6_puts_1 fl_IcedTooSoonModel_25 hm.1 rfl ?_
  refine ev_sipush d_X6_puts_4 kv_sipush_200 ?_
  refine ev_aload_n d_X6_puts_7 rfl ?_
  refine ev_getI d_X6_puts_8 fl_IcedTooSoonModel_96 hm.1 rfl ?_
  refine ev_imul d_X6_puts_11 ?_
  refine ev_aload_n d_X6_puts_12 rfl ?_
  refine ev_getI d_X6_puts_13 fl_IcedTooSoonModel_121 hm.1 rfl ?_
  refine ev_iadd d_X6_puts_16 ?_
  refine ev_iload_n d_X6_puts_17 rfl ?_
  obtain ⟨hb1, h⟩ := it_ok_g h
  refine ev_iast d_X6_puts_18 (by decide) (hm).2.2.2.2.2.2.1 (it_bd_in hb1) ?_
  refine ev_aload_n d_X6_puts_19 rfl ?_
  refine ev_dup d_X6_puts_20 rfl ?_
  refine ev_getI d_X6_puts_21 fl_IcedTooSoonModel_121 hm.1 rfl ?_
  refine ev_iconst d_X6_puts_24 kv_iconst_1 ?_
  refine ev_iadd d_X6_puts_25 ?_
  refine ev_putI d_X6_puts_26 (by decide) fl_IcedTooSoonModel_121 fw_6_27 hm.1 rfl ?_
  exact ev_ret (v := none) ⟨d_X6_puts_29, rfl⟩ (by decide) (by decide) ⟨rfl, rfl, it_ok_r h⟩
theorem d_X6_unwinds_0 : decode prog_8_method_17_code 0 = .ok (.aload_n 0, 1) := by decide +kernel
theorem d_X6_unwinds_1 : decode prog_8_method_17_code 1 = .ok (.getfield 124, 3) := by decide +kernel
theorem d_X6_unwinds_4 : decode prog_8_method_17_code 4 = .ok (.ifCond .le 75, 3) := by decide +kernel
theorem d_X6_unwinds_7 : decode prog_8_method_17_code 7 = .ok (.aload_n 0, 1) := by decide +kernel
theorem d_X6_unwinds_8 : decode prog_8_method_17_code 8 = .ok (.getfield 52, 3) := by decide +kernel
theorem d_X6_unwinds_11 : decode prog_8_method_17_code 11 = .ok (.aload_n 0, 1) := by decide +kernel
theorem d_X6_unwinds_12 : decode prog_8_method_17_code 12 = .ok (.getfield 124, 3) := by decide +kernel
theorem d_X6_unwinds_15 : decode prog_8_method_17_code 15 = .ok (.iconst 1, 1) := by decide +kernel
theorem d_X6_unwinds_16 : decode prog_8_method_17_code 16 = .ok (.isub, 1) := by decide +kernel
theorem d_X6_unwinds_17 : decode prog_8_method_17_code 17 = .ok (.iaload, 1) := by decide +kernel
theorem d_X6_unwinds_18 : decode prog_8_method_17_code 18 = .ok (.invokestatic 127, 3) := by decide +kernel
theorem d_X6_unwinds_21 : decode prog_8_method_17_code 21 = .ok (.iload_n 1, 1) := by decide +kernel
theorem d_X6_unwinds_22 : decode prog_8_method_17_code 22 = .ok (.if_icmp .lt 57, 3) := by decide +kernel
theorem d_X6_unwinds_25 : decode prog_8_method_17_code 25 = .ok (.aload_n 0, 1) := by decide +kernel
theorem d_X6_unwinds_26 : decode prog_8_method_17_code 26 = .ok (.dup, 1) := by decide +kernel
theorem d_X6_unwinds_27 : decode prog_8_method_17_code 27 = .ok (.getfield 124, 3) := by decide +kernel
theorem d_X6_unwinds_30 : decode prog_8_method_17_code 30 = .ok (.iconst 1, 1) := by decide +kernel
theorem d_X6_unwinds_31 : decode prog_8_method_17_code 31 = .ok (.isub, 1) := by decide +kernel
theorem d_X6_unwinds_32 : decode prog_8_method_17_code 32 = .ok (.putfield 124, 3) := by decide +kernel
theorem d_X6_unwinds_35 : decode prog_8_method_17_code 35 = .ok (.aload_n 0, 1) := by decide +kernel
theorem d_X6_unwinds_36 : decode prog_8_method_17_code 36 = .ok (.getfield 52, 3) := by decide +kernel
theorem d_X6_unwinds_39 : decode prog_8_method_17_code 39 = .ok (.aload_n 0, 1) := by decide +kernel
theorem d_X6_unwinds_40 : decode prog_8_method_17_code 40 = .ok (.getfield 124, 3) := by decide +kernel
theorem d_X6_unwinds_43 : decode prog_8_method_17_code 43 = .ok (.iaload, 1) := by decide +kernel
theorem d_X6_unwinds_44 : decode prog_8_method_17_code 44 = .ok (.istore_n 2, 1) := by decide +kernel
theorem d_X6_unwinds_45 : decode prog_8_method_17_code 45 = .ok (.aload_n 0, 1) := by decide +kernel
theorem d_X6_unwinds_46 : decode prog_8_method_17_code 46 = .ok (.dup, 1) := by decide +kernel
theorem d_X6_unwinds_47 : decode prog_8_method_17_code 47 = .ok (.getfield 131, 3) := by decide +kernel
theorem d_X6_unwinds_50 : decode prog_8_method_17_code 50 = .ok (.iload_n 2, 1) := by decide +kernel
theorem d_X6_unwinds_51 : decode prog_8_method_17_code 51 = .ok (.bipush 13, 2) := by decide +kernel
theorem d_X6_unwinds_53 : decode prog_8_method_17_code 53 = .ok (.if_icmp .eq 9, 3) := by decide +kernel
theorem d_X6_unwinds_56 : decode prog_8_method_17_code 56 = .ok (.iload_n 2, 1) := by decide +kernel
theorem d_X6_unwinds_57 : decode prog_8_method_17_code 57 = .ok (.bipush 19, 2) := by decide +kernel
theorem d_X6_unwinds_59 : decode prog_8_method_17_code 59 = .ok (.if_icmp .ne 7, 3) := by decide +kernel
theorem d_X6_unwinds_62 : decode prog_8_method_17_code 62 = .ok (.iconst 1, 1) := by decide +kernel
theorem d_X6_unwinds_63 : decode prog_8_method_17_code 63 = .ok (.goto 4, 3) := by decide +kernel
theorem d_X6_unwinds_66 : decode prog_8_method_17_code 66 = .ok (.iconst 0, 1) := by decide +kernel
theorem d_X6_unwinds_67 : decode prog_8_method_17_code 67 = .ok (.isub, 1) := by decide +kernel
theorem d_X6_unwinds_68 : decode prog_8_method_17_code 68 = .ok (.putfield 131, 3) := by decide +kernel
theorem d_X6_unwinds_71 : decode prog_8_method_17_code 71 = .ok (.aload_n 0, 1) := by decide +kernel
theorem d_X6_unwinds_72 : decode prog_8_method_17_code 72 = .ok (.iload_n 2, 1) := by decide +kernel
theorem d_X6_unwinds_73 : decode prog_8_method_17_code 73 = .ok (.invokevirtual 134, 3) := by decide +kernel
theorem d_X6_unwinds_76 : decode prog_8_method_17_code 76 = .ok (.goto (-76), 3) := by decide +kernel
theorem d_X6_unwinds_79 : decode prog_8_method_17_code 79 = .ok (.return_, 1) := by decide +kernel
def lp_X6_unwinds_0 (κ : it_KK) (x1 : Int32) (k0 : (it_SS → Option (Unit × it_SS))) : Nat → it_SS → Option (Unit × it_SS)
  | 0, _ => none
  | n0 + 1, S => if (S 45 25) ≤ 0 then
k0  S
else
if it_bd ((S 45 25) - 1) 200 = true then
it_bi (f_X6_rank κ (S 60 (((S 45 25) - 1) : Int32).toNatClampNeg) S) (fun r4 S3 =>
if r4 < x1 then
k0  S3
else
if it_bd ((it_up S3 45 25 ((S3 45 25) - 1)) 45 25) 200 = true then
if ((it_up S3 45 25 ((S3 45 25) - 1)) 60 (((it_up S3 45 25 ((S3 45 25) - 1)) 45 25) : Int32).toNatClampNeg) = 13 then
it_bi (f_X6_puts κ ((it_up S3 45 25 ((S3 45 25) - 1)) 60 (((it_up S3 45 25 ((S3 45 25) - 1)) 45 25) : Int32).toNatClampNeg) (it_up (it_up S3 45 25 ((S3 45 25) - 1)) 45 26 (((it_up S3 45 25 ((S3 45 25) - 1)) 45 26) - 1))) (fun _ S8 =>
lp_X6_unwinds_0 κ x1 k0 n0  S8)
else
if ((it_up S3 45 25 ((S3 45 25) - 1)) 60 (((it_up S3 45 25 ((S3 45 25) - 1)) 45 25) : Int32).toNatClampNeg) = 19 then
it_bi (f_X6_puts κ ((it_up S3 45 25 ((S3 45 25) - 1)) 60 (((it_up S3 45 25 ((S3 45 25) - 1)) 45 25) : Int32).toNatClampNeg) (it_up (it_up S3 45 25 ((S3 45 25) - 1)) 45 26 (((it_up S3 45 25 ((S3 45 25) - 1)) 45 26) - 1))) (fun _ S13 =>
lp_X6_unwinds_0 κ x1 k0 n0  S13)
else
it_bi (f_X6_puts κ ((it_up S3 45 25 ((S3 45 25) - 1)) 60 (((it_up S3 45 25 ((S3 45 25) - 1)) 45 25) : Int32).toNatClampNeg) (it_up (it_up S3 45 25 ((S3 45 25) - 1)) 45 26 (((it_up S3 45 25 ((S3 45 25) - 1)) 45 26) - 0))) (fun _ S11 =>
lp_X6_unwinds_0 κ x1 k0 n0  S11)
else none)
else none
def f_X6_unwinds (κ : it_KK) (x1 : Int32) (S : it_SS) : Option (Unit × it_SS) :=
lp_X6_unwinds_0 κ x1 (fun  S15 =>
some ((), S15)) it_FU  S
set_option maxHeartbeats 4000000 in
set_option maxRecDepth 100000 in
theorem Llp_X6_unwinds_0 {g : it_G} {l : Launch} {κ : it_KK} {x1 : Int32} (hm : it_wm κ) {P : Unit → it_SS → Prop} {k0 : (it_SS → Option (Unit × it_SS))} (hk0 : ∀  (S : it_SS), it_ok (k0  S) P → it_Ev g l 2 it_m_X6_unwinds 0 0 79 [none, none, none] [] κ S (it_pv κ P)) : ∀ (n : Nat)  (S : it_SS), it_ok (lp_X6_unwinds_0 κ x1 k0 n  S) P → it_Ev g l 2 it_m_X6_unwinds 0 0 0 [some (.ref 45), some (.int x1), none] [] κ S (it_pv κ P) := by
  intro n
  induction n with
  | zero =>
    intro  _ h
    exact (it_ok_n h).elim
  | succ n0 ih0 =>
    intro  S h
    rw [lp_X6_unwinds_0] at h
    refine ev_aload_n d_X6_unwinds_0 rfl ?_
    refine ev_getI d_X6_unwinds_1 fl_IcedTooSoonModel_124 hm.1 rfl ?_
    refine ev_if_le (tgt := 79) d_X6_unwinds_4 (by decide) (fun hc1 => ?_) (fun hc1 => ?_)
    · have h := it_ok_t h hc1
      refine ev_keep [false, false, false] ?_
      exact hk0  _ h
    · have h := it_ok_f h hc1
      refine ev_aload_n d_X6_unwinds_7 rfl ?_
      refine ev_getRr (r := 60) rfl d_X6_unwinds_8 fl_IcedTooSoonModel_52 hm.1 rfl ?_
      refine ev_aload_n d_X6_unwinds_11 rfl ?_
      refine ev_getI d_X6_unwinds_12 fl_IcedTooSoonModel_124 hm.1 rfl ?_
      refine ev_iconst d_X6_unwinds_15 kv_iconst_1 ?_
      refine ev_isub d_X6_unwinds_16 ?_
      obtain ⟨hb2, h⟩ := it_ok_g h
      refine ev_iald d_X6_unwinds_17 (hm).2.2.2.2.2.2.2.2.2.2.2.2.2.2.2.1 (it_bd_in hb2) ?_
      refine ev_callS (M' := it_m_X6_rank) (d' := 1) (As := [.int (S 60 (((S 45 25) - 1) : Int32).toNatClampNeg)]) d_X6_unwinds_18 ml_IcedTooSoonModel_127 rfl rfl (Nat.le_of_ble_eq_true rfl) (by decide) (by decide) (by decide) (L_X6_rank  (it_ok_b h)) (fun _ _ _ _ q => by cases q.1; rfl) ?_
      rintro _ _ S3 ⟨rfl, r4, rfl, h⟩
      show it_Ev g l 2 it_m_X6_unwinds 0 0 21 [some (.ref 45), some (.int x1), none] [.int r4] κ S3 (it_pv κ P)
      refine ev_iload_n d_X6_unwinds_21 rfl ?_
      refine ev_icmp_lt (tgt := 79) d_X6_unwinds_22 (by decide) (fun hc5 => ?_) (fun hc5 => ?_)
      · have h := it_ok_t h hc5
        refine ev_keep [false, false, false] ?_
        exact hk0  _ h
      · have h := it_ok_f h hc5
        refine ev_aload_n d_X6_unwinds_25 rfl ?_
        refine ev_dup d_X6_unwinds_26 rfl ?_
        refine ev_getI d_X6_unwinds_27 fl_IcedTooSoonModel_124 hm.1 rfl ?_
        refine ev_iconst d_X6_unwinds_30 kv_iconst_1 ?_
        refine ev_isub d_X6_unwinds_31 ?_
        refine ev_putI d_X6_unwinds_32 (by decide) fl_IcedTooSoonModel_124 fw_6_25 hm.1 rfl ?_
        refine ev_aload_n d_X6_unwinds_35 rfl ?_
        refine ev_getRr (r := 60) rfl d_X6_unwinds_36 fl_IcedTooSoonModel_52 hm.1 rfl ?_
        refine ev_aload_n d_X6_unwinds_39 rfl ?_
        refine ev_getI d_X6_unwinds_40 fl_IcedTooSoonModel_124 hm.1 rfl ?_
        obtain ⟨hb6, h⟩ := it_ok_g h
        refine ev_iald d_X6_unwinds_43 (hm).2.2.2.2.2.2.2.2.2.2.2.2.2.2.2.1 (it_bd_in hb6) ?_
        refine ev_istore_n d_X6_unwinds_44 (by decide) ?_
        show it_Ev g l 2 it_m_X6_unwinds 0 0 45 [some (.ref 45), some (.int x1), some (.int ((it_up S3 45 25 ((S3 45 25) - 1)) 60 (((it_up S3 45 25 ((S3 45 25) - 1)) 45 25) : Int32).toNatClampNeg))] [] κ (it_up S3 45 25 ((S3 45 25) - 1)) (it_pv κ P)
        refine ev_aload_n d_X6_unwinds_45 rfl ?_
        refine ev_dup d_X6_unwinds_46 rfl ?_
        refine ev_getI d_X6_unwinds_47 fl_IcedTooSoonModel_131 hm.1 rfl ?_
        refine ev_iload_n d_X6_unwinds_50 rfl ?_
        refine ev_bipush d_X6_unwinds_51 kv_bipush_13 ?_
        refine ev_icmp_eq (tgt := 62) d_X6_unwinds_53 (by decide) (fun hc7 => ?_) (fun hc7 => ?_)
        · have h := it_ok_t h hc7
          refine ev_iconst d_X6_unwinds_62 kv_iconst_1 ?_
          refine ev_goto (tgt := 67) d_X6_unwinds_63 (by decide) ?_
          refine ev_isub d_X6_unwinds_67 ?_
          refine ev_putI d_X6_unwinds_68 (by decide) fl_IcedTooSoonModel_131 fw_6_26 hm.1 rfl ?_
          refine ev_aload_n d_X6_unwinds_71 rfl ?_
          refine ev_iload_n d_X6_unwinds_72 rfl ?_
          refine ev_callV (ci := 6) (b := 45) (M' := it_m_X6_puts) (d' := 1) (As := [.int ((it_up S3 45 25 ((S3 45 25) - 1)) 60 (((it_up S3 45 25 ((S3 45 25) - 1)) 45 25) : Int32).toNatClampNeg)]) d_X6_unwinds_73 ml_IcedTooSoonModel_134 hm.1.1 hm.1.2.1 ⟨_, rfl, rfl⟩ rfl rfl (Nat.le_of_ble_eq_true rfl) (by decide) (by decide) (by decide) (L_X6_puts hm (it_ok_b h)) (fun _ _ _ _ q => by cases q.1; rfl) ?_
          rintro _ _ S8 ⟨rfl, rfl, h⟩
          show it_Ev g l 2 it_m_X6_unwinds 0 0 76 [some (.ref 45), some (.int x1), some (.int ((it_up S3 45 25 ((S3 45 25) - 1)) 60 (((it_up S3 45 25 ((S3 45 25) - 1)) 45 25) : Int32).toNatClampNeg))] [] κ S8 (it_pv κ P)
          refine ev_goto (tgt := 0) d_X6_unwinds_76 (by decide) ?_
          refine ev_keep [true, true, false] ?_
          exact ih0  _ h
        · have h := it_ok_f h hc7
          refine ev_iload_n d_X6_unwinds_56 rfl ?_
          refine ev_bipush d_X6_unwinds_57 kv_bipush_19 ?_
          refine ev_icmp_ne (tgt := 66) d_X6_unwinds_59 (by decide) (fun hc10 => ?_) (fun hc10 => ?_)
          · have h := it_ok_f h hc10
            refine ev_iconst d_X6_unwinds_66 kv_iconst_0 ?_
            refine ev_isub d_X6_unwinds_67 ?_
            refine ev_putI d_X6_unwinds_68 (by decide) fl_IcedTooSoonModel_131 fw_6_26 hm.1 rfl ?_
            refine ev_aload_n d_X6_unwinds_71 rfl ?_
            refine ev_iload_n d_X6_unwinds_72 rfl ?_
            refine ev_callV (ci := 6) (b := 45) (M' := it_m_X6_puts) (d' := 1) (As := [.int ((it_up S3 45 25 ((S3 45 25) - 1)) 60 (((it_up S3 45 25 ((S3 45 25) - 1)) 45 25) : Int32).toNatClampNeg)]) d_X6_unwinds_73 ml_IcedTooSoonModel_134 hm.1.1 hm.1.2.1 ⟨_, rfl, rfl⟩ rfl rfl (Nat.le_of_ble_eq_true rfl) (by decide) (by decide) (by decide) (L_X6_puts hm (it_ok_b h)) (fun _ _ _ _ q => by cases q.1; rfl) ?_
            rintro _ _ S11 ⟨rfl, rfl, h⟩
            show it_Ev g l 2 it_m_X6_unwinds 0 0 76 [some (.ref 45), some (.int x1), some (.int ((it_up S3 45 25 ((S3 45 25) - 1)) 60 (((it_up S3 45 25 ((S3 45 25) - 1)) 45 25) : Int32).toNatClampNeg))] [] κ S11 (it_pv κ P)
            refine ev_goto (tgt := 0) d_X6_unwinds_76 (by decide) ?_
            refine ev_keep [true, true, false] ?_
            exact ih0  _ h
          · have h := it_ok_t h hc10
            refine ev_iconst d_X6_unwinds_62 kv_iconst_1 ?_
            refine ev_goto (tgt := 67) d_X6_unwinds_63 (by decide) ?_
            refine ev_isub d_X6_unwinds_67 ?_
            refine ev_putI d_X6_unwinds_68 (by decide) fl_IcedTooSoonModel_131 fw_6_26 hm.1 rfl ?_
            refine ev_aload_n d_X6_unwinds_71 rfl ?_
            refine ev_iload_n d_X6_unwinds_72 rfl ?_
            refine ev_callV (ci := 6) (b := 45) (M' := it_m_X6_puts) (d' := 1) (As := [.int ((it_up S3 45 25 ((S3 45 25) - 1)) 60 (((it_up S3 45 25 ((S3 45 25) - 1)) 45 25) : Int32).toNatClampNeg)]) d_X6_unwinds_73 ml_IcedTooSoonModel_134 hm.1.1 hm.1.2.1 ⟨_, rfl, rfl⟩ rfl rfl (Nat.le_of_ble_eq_true rfl) (by decide) (by decide) (by decide) (L_X6_puts hm (it_ok_b h)) (fun _ _ _ _ q => by cases q.1; rfl) ?_
            rintro _ _ S13 ⟨rfl, rfl, h⟩
            show it_Ev g l 2 it_m_X6_unwinds 0 0 76 [some (.ref 45), some (.int x1), some (.int ((it_up S3 45 25 ((S3 45 25) - 1)) 60 (((it_up S3 45 25 ((S3 45 25) - 1)) 45 25) : Int32).toNatClampNeg))] [] κ S13 (it_pv κ P)
            refine ev_goto (tgt := 0) d_X6_unwinds_76 (by decide) ?_
            refine ev_keep [true, true, false] ?_
            exact ih0  _ h
set_option maxHeartbeats 4000000 in
set_option maxRecDepth 100000 in
theorem L_X6_unwinds {g : it_G} {l : Launch} {κ : it_KK} {x1 : Int32} (hm : it_wm κ) {S : it_SS} {P : Unit → it_SS → Prop} (h : it_ok (f_X6_unwinds κ x1 S) P) : it_Cn g l 2 it_m_X6_unwinds [.ref 45, .int x1] κ S (it_pv κ P) := by
  refine it_Cn.of (by decide +kernel) (Nat.le_of_ble_eq_true rfl) ?_
  rw [f_X6_unwinds] at h
  show it_Ev g l 2 it_m_X6_unwinds 0 0 0 [some (.ref 45), some (.int x1), none] [] κ S (it_pv κ P)
  refine ev_keep [true, true, false] ?_
  refine Llp_X6_unwinds_0 hm (fun  S15 h => ?_) _  _ h
  show it_Ev g l 2 it_m_X6_unwinds 0 0 79 [none, none, none] [] κ S15 (it_pv κ P)
  exact ev_ret (v := none) ⟨d_X6_unwinds_79, rfl⟩ (by decide) (by decide) ⟨rfl, rfl, it_ok_r h⟩
theorem d_X6_holds_0 : decode prog_8_method_18_code 0 = .ok (.aload_n 0, 1) := by decide +kernel
theorem d_X6_holds_1 : decode prog_8_method_18_code 1 = .ok (.getfield 52, 3) := by decide +kernel
theorem d_X6_holds_4 : decode prog_8_method_18_code 4 = .ok (.aload_n 0, 1) := by decide +kernel
theorem d_X6_holds_5 : decode prog_8_method_18_code 5 = .ok (.getfield 124, 3) := by decide +kernel
theorem d_X6_holds_8 : decode prog_8_method_18_code 8 = .ok (.iload_n 1, 1) := by decide +kernel
theorem d_X6_holds_9 : decode prog_8_method_18_code 9 = .ok (.iastore, 1) := by decide +kernel
theorem d_X6_holds_10 : decode prog_8_method_18_code 10 = .ok (.aload_n 0, 1) := by decide +kernel
theorem d_X6_holds_11 : decode prog_8_method_18_code 11 = .ok (.dup, 1) := by decide +kernel
theorem d_X6_holds_12 : decode prog_8_method_18_code 12 = .ok (.getfield 124, 3) := by decide +kernel
theorem d_X6_holds_15 : decode prog_8_method_18_code 15 = .ok (.iconst 1, 1) := by decide +kernel
theorem d_X6_holds_16 : decode prog_8_method_18_code 16 = .ok (.iadd, 1) := by decide +kernel
theorem d_X6_holds_17 : decode prog_8_method_18_code 17 = .ok (.putfield 124, 3) := by decide +kernel
theorem d_X6_holds_20 : decode prog_8_method_18_code 20 = .ok (.return_, 1) := by decide +kernel
def f_X6_holds (κ : it_KK) (x1 : Int32) (S : it_SS) : Option (Unit × it_SS) :=
if it_bd (S 45 25) 200 = true then
some ((), it_up (it_up S 60 ((S 45 25) : Int32).toNatClampNeg x1) 45 25 (((it_up S 60 ((S 45 25) : Int32).toNatClampNeg x1) 45 25) + 1))
else none
set_option maxHeartbeats 4000000 in
set_option maxRecDepth 100000 in
theorem L_X6_holds {g : it_G} {l : Launch} {κ : it_KK} {x1 : Int32} (hm : it_wm κ) {S : it_SS} {P : Unit → it_SS → Prop} (h : it_ok (f_X6_holds κ x1 S) P) : it_Cn g l 1 it_m_X6_holds [.ref 45, .int x1] κ S (it_pv κ P) := by
  refine it_Cn.of (by decide +kernel) (Nat.le_of_ble_eq_true rfl) ?_
  rw [f_X6_holds] at h
  show it_Ev g l 1 it_m_X6_holds 0 0 0 [some (.ref 45), some (.int x1)] [] κ S (it_pv κ P)
  refine ev_aload_n d_X6_holds_0 rfl ?_
  refine ev_getRr (r := 60) rfl d_X6_holds_1 fl_IcedTooSoonModel_52 hm.1 rfl ?_
  refine ev_aload_n d_X6_holds_4 rfl ?_
  refine ev_getI d_X6_holds_5 fl_IcedTooSoonModel_124 hm.1 rfl ?_
  refine ev_iload_n d_X6_holds_8 rfl ?_
  obtain ⟨hb1, h⟩ := it_ok_g h
  refine ev_iast d_X6_holds_9 (by decide) (hm).2.2.2.2.2.2.2.2.2.2.2.2.2.2.2.1 (it_bd_in hb1) ?_
  refine ev_aload_n d_X6_holds_10 rfl ?_
  refine ev_dup d_X6_holds_11 rfl ?_
  refine ev_getI d_X6_holds_12 fl_IcedTooSoonModel_124 hm.1 rfl ?_
  refine ev_iconst d_X6_holds_15 kv_iconst_1 ?_
  refine ev_iadd d_X6_holds_16 ?_
  refine ev_putI d_X6_holds_17 (by decide) fl_IcedTooSoonModel_124 fw_6_25 hm.1 rfl ?_
  exact ev_ret (v := none) ⟨d_X6_holds_20, rfl⟩ (by decide) (by decide) ⟨rfl, rfl, it_ok_r h⟩
theorem d_X6_opensOne_0 : decode prog_8_method_19_code 0 = .ok (.aload_n 0, 1) := by decide +kernel
theorem d_X6_opensOne_1 : decode prog_8_method_19_code 1 = .ok (.getfield 131, 3) := by decide +kernel
theorem d_X6_opensOne_4 : decode prog_8_method_19_code 4 = .ok (.iconst 5, 1) := by decide +kernel
theorem d_X6_opensOne_5 : decode prog_8_method_19_code 5 = .ok (.if_icmp .ne 5, 3) := by decide +kernel
theorem d_X6_opensOne_8 : decode prog_8_method_19_code 8 = .ok (.iconst 0, 1) := by decide +kernel
theorem d_X6_opensOne_9 : decode prog_8_method_19_code 9 = .ok (.ireturn, 1) := by decide +kernel
theorem d_X6_opensOne_10 : decode prog_8_method_19_code 10 = .ok (.aload_n 0, 1) := by decide +kernel
theorem d_X6_opensOne_11 : decode prog_8_method_19_code 11 = .ok (.dup, 1) := by decide +kernel
theorem d_X6_opensOne_12 : decode prog_8_method_19_code 12 = .ok (.getfield 131, 3) := by decide +kernel
theorem d_X6_opensOne_15 : decode prog_8_method_19_code 15 = .ok (.iconst 1, 1) := by decide +kernel
theorem d_X6_opensOne_16 : decode prog_8_method_19_code 16 = .ok (.iadd, 1) := by decide +kernel
theorem d_X6_opensOne_17 : decode prog_8_method_19_code 17 = .ok (.putfield 131, 3) := by decide +kernel
theorem d_X6_opensOne_20 : decode prog_8_method_19_code 20 = .ok (.aload_n 0, 1) := by decide +kernel
theorem d_X6_opensOne_21 : decode prog_8_method_19_code 21 = .ok (.iload_n 1, 1) := by decide +kernel
theorem d_X6_opensOne_22 : decode prog_8_method_19_code 22 = .ok (.invokevirtual 138, 3) := by decide +kernel
theorem d_X6_opensOne_25 : decode prog_8_method_19_code 25 = .ok (.iconst 1, 1) := by decide +kernel
theorem d_X6_opensOne_26 : decode prog_8_method_19_code 26 = .ok (.ireturn, 1) := by decide +kernel
def f_X6_opensOne (κ : it_KK) (x1 : Int32) (S : it_SS) : Option (Int32 × it_SS) :=
if (S 45 26) = 5 then
some (0, S)
else
it_bi (f_X6_holds κ x1 (it_up S 45 26 ((S 45 26) + 1))) (fun _ S2 =>
some (1, S2))
set_option maxHeartbeats 4000000 in
set_option maxRecDepth 100000 in
theorem L_X6_opensOne {g : it_G} {l : Launch} {κ : it_KK} {x1 : Int32} (hm : it_wm κ) {S : it_SS} {P : Int32 → it_SS → Prop} (h : it_ok (f_X6_opensOne κ x1 S) P) : it_Cn g l 2 it_m_X6_opensOne [.ref 45, .int x1] κ S (it_pi κ P) := by
  refine it_Cn.of (by decide +kernel) (Nat.le_of_ble_eq_true rfl) ?_
  rw [f_X6_opensOne] at h
  show it_Ev g l 2 it_m_X6_opensOne 0 0 0 [some (.ref 45), some (.int x1)] [] κ S (it_pi κ P)
  refine ev_aload_n d_X6_opensOne_0 rfl ?_
  refine ev_getI d_X6_opensOne_1 fl_IcedTooSoonModel_131 hm.1 rfl ?_
  refine ev_iconst d_X6_opensOne_4 kv_iconst_5 ?_
  refine ev_icmp_ne (tgt := 10) d_X6_opensOne_5 (by decide) (fun hc1 => ?_) (fun hc1 => ?_)
  · have h := it_ok_f h hc1
    refine ev_aload_n d_X6_opensOne_10 rfl ?_
    refine ev_dup d_X6_opensOne_11 rfl ?_
    refine ev_getI d_X6_opensOne_12 fl_IcedTooSoonModel_131 hm.1 rfl ?_
    refine ev_iconst d_X6_opensOne_15 kv_iconst_1 ?_
    refine ev_iadd d_X6_opensOne_16 ?_
    refine ev_putI d_X6_opensOne_17 (by decide) fl_IcedTooSoonModel_131 fw_6_26 hm.1 rfl ?_
    refine ev_aload_n d_X6_opensOne_20 rfl ?_
    refine ev_iload_n d_X6_opensOne_21 rfl ?_
    refine ev_callV (ci := 6) (b := 45) (M' := it_m_X6_holds) (d' := 1) (As := [.int x1]) d_X6_opensOne_22 ml_IcedTooSoonModel_138 hm.1.1 hm.1.2.1 ⟨_, rfl, rfl⟩ rfl rfl (Nat.le_of_ble_eq_true rfl) (by decide) (by decide) (by decide) (L_X6_holds hm (it_ok_b h)) (fun _ _ _ _ q => by cases q.1; rfl) ?_
    rintro _ _ S2 ⟨rfl, rfl, h⟩
    show it_Ev g l 2 it_m_X6_opensOne 0 0 25 [some (.ref 45), some (.int x1)] [] κ S2 (it_pi κ P)
    refine ev_iconst d_X6_opensOne_25 kv_iconst_1 ?_
    exact ev_ret (v := some (.int _)) ⟨d_X6_opensOne_26, _, rfl, rfl⟩ (by decide) (by decide) ⟨rfl, _, rfl, it_ok_r h⟩
  · have h := it_ok_t h hc1
    refine ev_iconst d_X6_opensOne_8 kv_iconst_0 ?_
    exact ev_ret (v := some (.int _)) ⟨d_X6_opensOne_9, _, rfl, rfl⟩ (by decide) (by decide) ⟨rfl, _, rfl, it_ok_r h⟩
theorem d_X6_between_0 : decode prog_8_method_20_code 0 = .ok (.aload_n 0, 1) := by decide +kernel
theorem d_X6_between_1 : decode prog_8_method_20_code 1 = .ok (.iload_n 1, 1) := by decide +kernel
theorem d_X6_between_2 : decode prog_8_method_20_code 2 = .ok (.invokestatic 127, 3) := by decide +kernel
theorem d_X6_between_5 : decode prog_8_method_20_code 5 = .ok (.iconst 4, 1) := by decide +kernel
theorem d_X6_between_6 : decode prog_8_method_20_code 6 = .ok (.if_icmp .ne 7, 3) := by decide +kernel
theorem d_X6_between_9 : decode prog_8_method_20_code 9 = .ok (.iconst 5, 1) := by decide +kernel
theorem d_X6_between_10 : decode prog_8_method_20_code 10 = .ok (.goto 7, 3) := by decide +kernel
theorem d_X6_between_13 : decode prog_8_method_20_code 13 = .ok (.iload_n 1, 1) := by decide +kernel
theorem d_X6_between_14 : decode prog_8_method_20_code 14 = .ok (.invokestatic 127, 3) := by decide +kernel
theorem d_X6_between_17 : decode prog_8_method_20_code 17 = .ok (.invokevirtual 141, 3) := by decide +kernel
theorem d_X6_between_20 : decode prog_8_method_20_code 20 = .ok (.iload_n 1, 1) := by decide +kernel
theorem d_X6_between_21 : decode prog_8_method_20_code 21 = .ok (.invokestatic 127, 3) := by decide +kernel
theorem d_X6_between_24 : decode prog_8_method_20_code 24 = .ok (.iconst 4, 1) := by decide +kernel
theorem d_X6_between_25 : decode prog_8_method_20_code 25 = .ok (.if_icmp .ne 30, 3) := by decide +kernel
theorem d_X6_between_28 : decode prog_8_method_20_code 28 = .ok (.aload_n 0, 1) := by decide +kernel
theorem d_X6_between_29 : decode prog_8_method_20_code 29 = .ok (.getfield 124, 3) := by decide +kernel
theorem d_X6_between_32 : decode prog_8_method_20_code 32 = .ok (.ifCond .le 23, 3) := by decide +kernel
theorem d_X6_between_35 : decode prog_8_method_20_code 35 = .ok (.aload_n 0, 1) := by decide +kernel
theorem d_X6_between_36 : decode prog_8_method_20_code 36 = .ok (.getfield 52, 3) := by decide +kernel
theorem d_X6_between_39 : decode prog_8_method_20_code 39 = .ok (.aload_n 0, 1) := by decide +kernel
theorem d_X6_between_40 : decode prog_8_method_20_code 40 = .ok (.getfield 124, 3) := by decide +kernel
theorem d_X6_between_43 : decode prog_8_method_20_code 43 = .ok (.iconst 1, 1) := by decide +kernel
theorem d_X6_between_44 : decode prog_8_method_20_code 44 = .ok (.isub, 1) := by decide +kernel
theorem d_X6_between_45 : decode prog_8_method_20_code 45 = .ok (.iaload, 1) := by decide +kernel
theorem d_X6_between_46 : decode prog_8_method_20_code 46 = .ok (.invokestatic 127, 3) := by decide +kernel
theorem d_X6_between_49 : decode prog_8_method_20_code 49 = .ok (.iconst 4, 1) := by decide +kernel
theorem d_X6_between_50 : decode prog_8_method_20_code 50 = .ok (.if_icmp .ne 5, 3) := by decide +kernel
theorem d_X6_between_53 : decode prog_8_method_20_code 53 = .ok (.iconst 0, 1) := by decide +kernel
theorem d_X6_between_54 : decode prog_8_method_20_code 54 = .ok (.ireturn, 1) := by decide +kernel
theorem d_X6_between_55 : decode prog_8_method_20_code 55 = .ok (.aload_n 0, 1) := by decide +kernel
theorem d_X6_between_56 : decode prog_8_method_20_code 56 = .ok (.iload_n 1, 1) := by decide +kernel
theorem d_X6_between_57 : decode prog_8_method_20_code 57 = .ok (.invokevirtual 138, 3) := by decide +kernel
theorem d_X6_between_60 : decode prog_8_method_20_code 60 = .ok (.iconst 1, 1) := by decide +kernel
theorem d_X6_between_61 : decode prog_8_method_20_code 61 = .ok (.ireturn, 1) := by decide +kernel
def f_X6_between (κ : it_KK) (x1 : Int32) (S : it_SS) : Option (Int32 × it_SS) :=
it_bi (f_X6_rank κ x1 S) (fun r2 S1 =>
if r2 = 4 then
it_bi (f_X6_unwinds κ 5 S1) (fun _ S22 =>
it_bi (f_X6_rank κ x1 S22) (fun r25 S24 =>
if r25 = 4 then
if (S24 45 25) ≤ 0 then
it_bi (f_X6_holds κ x1 S24) (fun _ S30 =>
some (1, S30))
else
if it_bd ((S24 45 25) - 1) 200 = true then
it_bi (f_X6_rank κ (S24 60 (((S24 45 25) - 1) : Int32).toNatClampNeg) S24) (fun r34 S33 =>
if r34 = 4 then
some (0, S33)
else
it_bi (f_X6_holds κ x1 S33) (fun _ S36 =>
some (1, S36)))
else none
else
it_bi (f_X6_holds κ x1 S24) (fun _ S27 =>
some (1, S27))))
else
it_bi (f_X6_rank κ x1 S1) (fun r5 S4 =>
it_bi (f_X6_unwinds κ r5 S4) (fun _ S6 =>
it_bi (f_X6_rank κ x1 S6) (fun r9 S8 =>
if r9 = 4 then
if (S8 45 25) ≤ 0 then
it_bi (f_X6_holds κ x1 S8) (fun _ S14 =>
some (1, S14))
else
if it_bd ((S8 45 25) - 1) 200 = true then
it_bi (f_X6_rank κ (S8 60 (((S8 45 25) - 1) : Int32).toNatClampNeg) S8) (fun r18 S17 =>
if r18 = 4 then
some (0, S17)
else
it_bi (f_X6_holds κ x1 S17) (fun _ S20 =>
some (1, S20)))
else none
else
it_bi (f_X6_holds κ x1 S8) (fun _ S11 =>
some (1, S11))))))
set_option maxHeartbeats 4000000 in
set_option maxRecDepth 100000 in
theorem L_X6_between {g : it_G} {l : Launch} {κ : it_KK} {x1 : Int32} (hm : it_wm κ) {S : it_SS} {P : Int32 → it_SS → Prop} (h : it_ok (f_X6_between κ x1 S) P) : it_Cn g l 3 it_m_X6_between [.ref 45, .int x1] κ S (it_pi κ P) := by
  refine it_Cn.of (by decide +kernel) (Nat.le_of_ble_eq_true rfl) ?_
  rw [f_X6_between] at h
  show it_Ev g l 3 it_m_X6_between 0 0 0 [some (.ref 45), some (.int x1)] [] κ S (it_pi κ P)
  refine ev_aload_n d_X6_between_0 rfl ?_
  refine ev_iload_n d_X6_between_1 rfl ?_
  refine ev_callS (M' := it_m_X6_rank) (d' := 1) (As := [.int x1]) d_X6_between_2 ml_IcedTooSoonModel_127 rfl rfl (Nat.le_of_ble_eq_true rfl) (by decide) (by decide) (by decide) (L_X6_rank  (it_ok_b h)) (fun _ _ _ _ q => by cases q.1; rfl) ?_
  rintro _ _ S1 ⟨rfl, r2, rfl, h⟩
  show it_Ev g l 3 it_m_X6_between 0 0 5 [some (.ref 45), some (.int x1)] [.int r2, .ref 45] κ S1 (it_pi κ P)
  refine ev_iconst d_X6_between_5 kv_iconst_4 ?_
  refine ev_icmp_ne (tgt := 13) d_X6_between_6 (by decide) (fun hc3 => ?_) (fun hc3 => ?_)
  · have h := it_ok_f h hc3
    refine ev_iload_n d_X6_between_13 rfl ?_
    refine ev_callS (M' := it_m_X6_rank) (d' := 1) (As := [.int x1]) d_X6_between_14 ml_IcedTooSoonModel_127 rfl rfl (Nat.le_of_ble_eq_true rfl) (by decide) (by decide) (by decide) (L_X6_rank  (it_ok_b h)) (fun _ _ _ _ q => by cases q.1; rfl) ?_
    rintro _ _ S4 ⟨rfl, r5, rfl, h⟩
    show it_Ev g l 3 it_m_X6_between 0 0 17 [some (.ref 45), some (.int x1)] [.int r5, .ref 45] κ S4 (it_pi κ P)
    refine ev_callV (ci := 6) (b := 45) (M' := it_m_X6_unwinds) (d' := 2) (As := [.int r5]) d_X6_between_17 ml_IcedTooSoonModel_141 hm.1.1 hm.1.2.1 ⟨_, rfl, rfl⟩ rfl rfl (Nat.le_of_ble_eq_true rfl) (by decide) (by decide) (by decide) (L_X6_unwinds hm (it_ok_b h)) (fun _ _ _ _ q => by cases q.1; rfl) ?_
    rintro _ _ S6 ⟨rfl, rfl, h⟩
    show it_Ev g l 3 it_m_X6_between 0 0 20 [some (.ref 45), some (.int x1)] [] κ S6 (it_pi κ P)
    refine ev_iload_n d_X6_between_20 rfl ?_
    refine ev_callS (M' := it_m_X6_rank) (d' := 1) (As := [.int x1]) d_X6_between_21 ml_IcedTooSoonModel_127 rfl rfl (Nat.le_of_ble_eq_true rfl) (by decide) (by decide) (by decide) (L_X6_rank  (it_ok_b h)) (fun _ _ _ _ q => by cases q.1; rfl) ?_
    rintro _ _ S8 ⟨rfl, r9, rfl, h⟩
    show it_Ev g l 3 it_m_X6_between 0 0 24 [some (.ref 45), some (.int x1)] [.int r9] κ S8 (it_pi κ P)
    refine ev_iconst d_X6_between_24 kv_iconst_4 ?_
    refine ev_icmp_ne (tgt := 55) d_X6_between_25 (by decide) (fun hc10 => ?_) (fun hc10 => ?_)
    · have h := it_ok_f h hc10
      refine ev_aload_n d_X6_between_55 rfl ?_
      refine ev_iload_n d_X6_between_56 rfl ?_
      refine ev_callV (ci := 6) (b := 45) (M' := it_m_X6_holds) (d' := 1) (As := [.int x1]) d_X6_between_57 ml_IcedTooSoonModel_138 hm.1.1 hm.1.2.1 ⟨_, rfl, rfl⟩ rfl rfl (Nat.le_of_ble_eq_true rfl) (by decide) (by decide) (by decide) (L_X6_holds hm (it_ok_b h)) (fun _ _ _ _ q => by cases q.1; rfl) ?_
      rintro _ _ S11 ⟨rfl, rfl, h⟩
      show it_Ev g l 3 it_m_X6_between 0 0 60 [some (.ref 45), some (.int x1)] [] κ S11 (it_pi κ P)
      refine ev_iconst d_X6_between_60 kv_iconst_1 ?_
      exact ev_ret (v := some (.int _)) ⟨d_X6_between_61, _, rfl, rfl⟩ (by decide) (by decide) ⟨rfl, _, rfl, it_ok_r h⟩
    · have h := it_ok_t h hc10
      refine ev_aload_n d_X6_between_28 rfl ?_
      refine ev_getI d_X6_between_29 fl_IcedTooSoonModel_124 hm.1 rfl ?_
      refine ev_if_le (tgt := 55) d_X6_between_32 (by decide) (fun hc13 => ?_) (fun hc13 => ?_)
      · have h := it_ok_t h hc13
        refine ev_aload_n d_X6_between_55 rfl ?_
        refine ev_iload_n d_X6_between_56 rfl ?_
        refine ev_callV (ci := 6) (b := 45) (M' := it_m_X6_holds) (d' := 1) (As := [.int x1]) d_X6_between_57 ml_IcedTooSoonModel_138 hm.1.1 hm.1.2.1 ⟨_, rfl, rfl⟩ rfl rfl (Nat.le_of_ble_eq_true rfl) (by decide) (by decide) (by decide) (L_X6_holds hm (it_ok_b h)) (fun _ _ _ _ q => by cases q.1; rfl) ?_
        rintro _ _ S14 ⟨rfl, rfl, h⟩
        show it_Ev g l 3 it_m_X6_between 0 0 60 [some (.ref 45), some (.int x1)] [] κ S14 (it_pi κ P)
        refine ev_iconst d_X6_between_60 kv_iconst_1 ?_
        exact ev_ret (v := some (.int _)) ⟨d_X6_between_61, _, rfl, rfl⟩ (by decide) (by decide) ⟨rfl, _, rfl, it_ok_r h⟩
      · have h := it_ok_f h hc13
        refine ev_aload_n d_X6_between_35 rfl ?_
        refine ev_getRr (r := 60) rfl d_X6_between_36 fl_IcedTooSoonModel_52 hm.1 rfl ?_
        refine ev_aload_n d_X6_between_39 rfl ?_
        refine ev_getI d_X6_between_40 fl_IcedTooSoonModel_124 hm.1 rfl ?_
        refine ev_iconst d_X6_between_43 kv_iconst_1 ?_
        refine ev_isub d_X6_between_44 ?_
        obtain ⟨hb16, h⟩ := it_ok_g h
        refine ev_iald d_X6_between_45 (hm).2.2.2.2.2.2.2.2.2.2.2.2.2.2.2.1 (it_bd_in hb16) ?_
        refine ev_callS (M' := it_m_X6_rank) (d' := 1) (As := [.int (S8 60 (((S8 45 25) - 1) : Int32).toNatClampNeg)]) d_X6_between_46 ml_IcedTooSoonModel_127 rfl rfl (Nat.le_of_ble_eq_true rfl) (by decide) (by decide) (by decide) (L_X6_rank  (it_ok_b h)) (fun _ _ _ _ q => by cases q.1; rfl) ?_
        rintro _ _ S17 ⟨rfl, r18, rfl, h⟩
        show it_Ev g l 3 it_m_X6_between 0 0 49 [some (.ref 45), some (.int x1)] [.int r18] κ S17 (it_pi κ P)
        refine ev_iconst d_X6_between_49 kv_iconst_4 ?_
        refine ev_icmp_ne (tgt := 55) d_X6_between_50 (by decide) (fun hc19 => ?_) (fun hc19 => ?_)
        · have h := it_ok_f h hc19
          refine ev_aload_n d_X6_between_55 rfl ?_
          refine ev_iload_n d_X6_between_56 rfl ?_
          refine ev_callV (ci := 6) (b := 45) (M' := it_m_X6_holds) (d' := 1) (As := [.int x1]) d_X6_between_57 ml_IcedTooSoonModel_138 hm.1.1 hm.1.2.1 ⟨_, rfl, rfl⟩ rfl rfl (Nat.le_of_ble_eq_true rfl) (by decide) (by decide) (by decide) (L_X6_holds hm (it_ok_b h)) (fun _ _ _ _ q => by cases q.1; rfl) ?_
          rintro _ _ S20 ⟨rfl, rfl, h⟩
          show it_Ev g l 3 it_m_X6_between 0 0 60 [some (.ref 45), some (.int x1)] [] κ S20 (it_pi κ P)
          refine ev_iconst d_X6_between_60 kv_iconst_1 ?_
          exact ev_ret (v := some (.int _)) ⟨d_X6_between_61, _, rfl, rfl⟩ (by decide) (by decide) ⟨rfl, _, rfl, it_ok_r h⟩
        · have h := it_ok_t h hc19
          refine ev_iconst d_X6_between_53 kv_iconst_0 ?_
          exact ev_ret (v := some (.int _)) ⟨d_X6_between_54, _, rfl, rfl⟩ (by decide) (by decide) ⟨rfl, _, rfl, it_ok_r h⟩
  · have h := it_ok_t h hc3
    refine ev_iconst d_X6_between_9 kv_iconst_5 ?_
    refine ev_goto (tgt := 17) d_X6_between_10 (by decide) ?_
    refine ev_callV (ci := 6) (b := 45) (M' := it_m_X6_unwinds) (d' := 2) (As := [.int 5]) d_X6_between_17 ml_IcedTooSoonModel_141 hm.1.1 hm.1.2.1 ⟨_, rfl, rfl⟩ rfl rfl (Nat.le_of_ble_eq_true rfl) (by decide) (by decide) (by decide) (L_X6_unwinds hm (it_ok_b h)) (fun _ _ _ _ q => by cases q.1; rfl) ?_
    rintro _ _ S22 ⟨rfl, rfl, h⟩
    show it_Ev g l 3 it_m_X6_between 0 0 20 [some (.ref 45), some (.int x1)] [] κ S22 (it_pi κ P)
    refine ev_iload_n d_X6_between_20 rfl ?_
    refine ev_callS (M' := it_m_X6_rank) (d' := 1) (As := [.int x1]) d_X6_between_21 ml_IcedTooSoonModel_127 rfl rfl (Nat.le_of_ble_eq_true rfl) (by decide) (by decide) (by decide) (L_X6_rank  (it_ok_b h)) (fun _ _ _ _ q => by cases q.1; rfl) ?_
    rintro _ _ S24 ⟨rfl, r25, rfl, h⟩
    show it_Ev g l 3 it_m_X6_between 0 0 24 [some (.ref 45), some (.int x1)] [.int r25] κ S24 (it_pi κ P)
    refine ev_iconst d_X6_between_24 kv_iconst_4 ?_
    refine ev_icmp_ne (tgt := 55) d_X6_between_25 (by decide) (fun hc26 => ?_) (fun hc26 => ?_)
    · have h := it_ok_f h hc26
      refine ev_aload_n d_X6_between_55 rfl ?_
      refine ev_iload_n d_X6_between_56 rfl ?_
      refine ev_callV (ci := 6) (b := 45) (M' := it_m_X6_holds) (d' := 1) (As := [.int x1]) d_X6_between_57 ml_IcedTooSoonModel_138 hm.1.1 hm.1.2.1 ⟨_, rfl, rfl⟩ rfl rfl (Nat.le_of_ble_eq_true rfl) (by decide) (by decide) (by decide) (L_X6_holds hm (it_ok_b h)) (fun _ _ _ _ q => by cases q.1; rfl) ?_
      rintro _ _ S27 ⟨rfl, rfl, h⟩
      show it_Ev g l 3 it_m_X6_between 0 0 60 [some (.ref 45), some (.int x1)] [] κ S27 (it_pi κ P)
      refine ev_iconst d_X6_between_60 kv_iconst_1 ?_
      exact ev_ret (v := some (.int _)) ⟨d_X6_between_61, _, rfl, rfl⟩ (by decide) (by decide) ⟨rfl, _, rfl, it_ok_r h⟩
    · have h := it_ok_t h hc26
      refine ev_aload_n d_X6_between_28 rfl ?_
      refine ev_getI d_X6_between_29 fl_IcedTooSoonModel_124 hm.1 rfl ?_
      refine ev_if_le (tgt := 55) d_X6_between_32 (by decide) (fun hc29 => ?_) (fun hc29 => ?_)
      · have h := it_ok_t h hc29
        refine ev_aload_n d_X6_between_55 rfl ?_
        refine ev_iload_n d_X6_between_56 rfl ?_
        refine ev_callV (ci := 6) (b := 45) (M' := it_m_X6_holds) (d' := 1) (As := [.int x1]) d_X6_between_57 ml_IcedTooSoonModel_138 hm.1.1 hm.1.2.1 ⟨_, rfl, rfl⟩ rfl rfl (Nat.le_of_ble_eq_true rfl) (by decide) (by decide) (by decide) (L_X6_holds hm (it_ok_b h)) (fun _ _ _ _ q => by cases q.1; rfl) ?_
        rintro _ _ S30 ⟨rfl, rfl, h⟩
        show it_Ev g l 3 it_m_X6_between 0 0 60 [some (.ref 45), some (.int x1)] [] κ S30 (it_pi κ P)
        refine ev_iconst d_X6_between_60 kv_iconst_1 ?_
        exact ev_ret (v := some (.int _)) ⟨d_X6_between_61, _, rfl, rfl⟩ (by decide) (by decide) ⟨rfl, _, rfl, it_ok_r h⟩
      · have h := it_ok_f h hc29
        refine ev_aload_n d_X6_between_35 rfl ?_
        refine ev_getRr (r := 60) rfl d_X6_between_36 fl_IcedTooSoonModel_52 hm.1 rfl ?_
        refine ev_aload_n d_X6_between_39 rfl ?_
        refine ev_getI d_X6_between_40 fl_IcedTooSoonModel_124 hm.1 rfl ?_
        refine ev_iconst d_X6_between_43 kv_iconst_1 ?_
        refine ev_isub d_X6_between_44 ?_
        obtain ⟨hb32, h⟩ := it_ok_g h
        refine ev_iald d_X6_between_45 (hm).2.2.2.2.2.2.2.2.2.2.2.2.2.2.2.1 (it_bd_in hb32) ?_
        refine ev_callS (M' := it_m_X6_rank) (d' := 1) (As := [.int (S24 60 (((S24 45 25) - 1) : Int32).toNatClampNeg)]) d_X6_between_46 ml_IcedTooSoonModel_127 rfl rfl (Nat.le_of_ble_eq_true rfl) (by decide) (by decide) (by decide) (L_X6_rank  (it_ok_b h)) (fun _ _ _ _ q => by cases q.1; rfl) ?_
        rintro _ _ S33 ⟨rfl, r34, rfl, h⟩
        show it_Ev g l 3 it_m_X6_between 0 0 49 [some (.ref 45), some (.int x1)] [.int r34] κ S33 (it_pi κ P)
        refine ev_iconst d_X6_between_49 kv_iconst_4 ?_
        refine ev_icmp_ne (tgt := 55) d_X6_between_50 (by decide) (fun hc35 => ?_) (fun hc35 => ?_)
        · have h := it_ok_f h hc35
          refine ev_aload_n d_X6_between_55 rfl ?_
          refine ev_iload_n d_X6_between_56 rfl ?_
          refine ev_callV (ci := 6) (b := 45) (M' := it_m_X6_holds) (d' := 1) (As := [.int x1]) d_X6_between_57 ml_IcedTooSoonModel_138 hm.1.1 hm.1.2.1 ⟨_, rfl, rfl⟩ rfl rfl (Nat.le_of_ble_eq_true rfl) (by decide) (by decide) (by decide) (L_X6_holds hm (it_ok_b h)) (fun _ _ _ _ q => by cases q.1; rfl) ?_
          rintro _ _ S36 ⟨rfl, rfl, h⟩
          show it_Ev g l 3 it_m_X6_between 0 0 60 [some (.ref 45), some (.int x1)] [] κ S36 (it_pi κ P)
          refine ev_iconst d_X6_between_60 kv_iconst_1 ?_
          exact ev_ret (v := some (.int _)) ⟨d_X6_between_61, _, rfl, rfl⟩ (by decide) (by decide) ⟨rfl, _, rfl, it_ok_r h⟩
        · have h := it_ok_t h hc35
          refine ev_iconst d_X6_between_53 kv_iconst_0 ?_
          exact ev_ret (v := some (.int _)) ⟨d_X6_between_54, _, rfl, rfl⟩ (by decide) (by decide) ⟨rfl, _, rfl, it_ok_r h⟩
theorem d_X6_signOf_0 : decode prog_8_method_21_code 0 = .ok (.aload_n 0, 1) := by decide +kernel
theorem d_X6_signOf_1 : decode prog_8_method_21_code 1 = .ok (.getfield 111, 3) := by decide +kernel
theorem d_X6_signOf_4 : decode prog_8_method_21_code 4 = .ok (.iconst 4, 1) := by decide +kernel
theorem d_X6_signOf_5 : decode prog_8_method_21_code 5 = .ok (.if_icmp .ne 8, 3) := by decide +kernel
theorem d_X6_signOf_8 : decode prog_8_method_21_code 8 = .ok (.bipush 11, 2) := by decide +kernel
theorem d_X6_signOf_10 : decode prog_8_method_21_code 10 = .ok (.goto 87, 3) := by decide +kernel
theorem d_X6_signOf_13 : decode prog_8_method_21_code 13 = .ok (.aload_n 0, 1) := by decide +kernel
theorem d_X6_signOf_14 : decode prog_8_method_21_code 14 = .ok (.getfield 111, 3) := by decide +kernel
theorem d_X6_signOf_17 : decode prog_8_method_21_code 17 = .ok (.iconst 5, 1) := by decide +kernel
theorem d_X6_signOf_18 : decode prog_8_method_21_code 18 = .ok (.if_icmp .ne 8, 3) := by decide +kernel
theorem d_X6_signOf_21 : decode prog_8_method_21_code 21 = .ok (.bipush 12, 2) := by decide +kernel
theorem d_X6_signOf_23 : decode prog_8_method_21_code 23 = .ok (.goto 74, 3) := by decide +kernel
theorem d_X6_signOf_26 : decode prog_8_method_21_code 26 = .ok (.aload_n 0, 1) := by decide +kernel
theorem d_X6_signOf_27 : decode prog_8_method_21_code 27 = .ok (.getfield 111, 3) := by decide +kernel
theorem d_X6_signOf_30 : decode prog_8_method_21_code 30 = .ok (.bipush 60, 2) := by decide +kernel
theorem d_X6_signOf_32 : decode prog_8_method_21_code 32 = .ok (.if_icmp .ne 8, 3) := by decide +kernel
theorem d_X6_signOf_35 : decode prog_8_method_21_code 35 = .ok (.bipush 14, 2) := by decide +kernel
theorem d_X6_signOf_37 : decode prog_8_method_21_code 37 = .ok (.goto 60, 3) := by decide +kernel
theorem d_X6_signOf_40 : decode prog_8_method_21_code 40 = .ok (.aload_n 0, 1) := by decide +kernel
theorem d_X6_signOf_41 : decode prog_8_method_21_code 41 = .ok (.getfield 111, 3) := by decide +kernel
theorem d_X6_signOf_44 : decode prog_8_method_21_code 44 = .ok (.bipush 61, 2) := by decide +kernel
theorem d_X6_signOf_46 : decode prog_8_method_21_code 46 = .ok (.if_icmp .ne 8, 3) := by decide +kernel
theorem d_X6_signOf_49 : decode prog_8_method_21_code 49 = .ok (.bipush 15, 2) := by decide +kernel
theorem d_X6_signOf_51 : decode prog_8_method_21_code 51 = .ok (.goto 46, 3) := by decide +kernel
theorem d_X6_signOf_54 : decode prog_8_method_21_code 54 = .ok (.aload_n 0, 1) := by decide +kernel
theorem d_X6_signOf_55 : decode prog_8_method_21_code 55 = .ok (.getfield 111, 3) := by decide +kernel
theorem d_X6_signOf_58 : decode prog_8_method_21_code 58 = .ok (.bipush 43, 2) := by decide +kernel
theorem d_X6_signOf_60 : decode prog_8_method_21_code 60 = .ok (.if_icmp .ne 8, 3) := by decide +kernel
theorem d_X6_signOf_63 : decode prog_8_method_21_code 63 = .ok (.bipush 16, 2) := by decide +kernel
theorem d_X6_signOf_65 : decode prog_8_method_21_code 65 = .ok (.goto 32, 3) := by decide +kernel
theorem d_X6_signOf_68 : decode prog_8_method_21_code 68 = .ok (.aload_n 0, 1) := by decide +kernel
theorem d_X6_signOf_69 : decode prog_8_method_21_code 69 = .ok (.getfield 111, 3) := by decide +kernel
theorem d_X6_signOf_72 : decode prog_8_method_21_code 72 = .ok (.bipush 45, 2) := by decide +kernel
theorem d_X6_signOf_74 : decode prog_8_method_21_code 74 = .ok (.if_icmp .ne 8, 3) := by decide +kernel
theorem d_X6_signOf_77 : decode prog_8_method_21_code 77 = .ok (.bipush 17, 2) := by decide +kernel
theorem d_X6_signOf_79 : decode prog_8_method_21_code 79 = .ok (.goto 18, 3) := by decide +kernel
theorem d_X6_signOf_82 : decode prog_8_method_21_code 82 = .ok (.aload_n 0, 1) := by decide +kernel
theorem d_X6_signOf_83 : decode prog_8_method_21_code 83 = .ok (.getfield 111, 3) := by decide +kernel
theorem d_X6_signOf_86 : decode prog_8_method_21_code 86 = .ok (.bipush 42, 2) := by decide +kernel
theorem d_X6_signOf_88 : decode prog_8_method_21_code 88 = .ok (.if_icmp .ne 8, 3) := by decide +kernel
theorem d_X6_signOf_91 : decode prog_8_method_21_code 91 = .ok (.bipush 18, 2) := by decide +kernel
theorem d_X6_signOf_93 : decode prog_8_method_21_code 93 = .ok (.goto 4, 3) := by decide +kernel
theorem d_X6_signOf_96 : decode prog_8_method_21_code 96 = .ok (.iconst (-1), 1) := by decide +kernel
theorem d_X6_signOf_97 : decode prog_8_method_21_code 97 = .ok (.ireturn, 1) := by decide +kernel
def f_X6_signOf (κ : it_KK)  (S : it_SS) : Option (Int32 × it_SS) :=
if (S 45 21) = 4 then
some (11, S)
else
if (S 45 21) = 5 then
some (12, S)
else
if (S 45 21) = 60 then
some (14, S)
else
if (S 45 21) = 61 then
some (15, S)
else
if (S 45 21) = 43 then
some (16, S)
else
if (S 45 21) = 45 then
some (17, S)
else
if (S 45 21) = 42 then
some (18, S)
else
some ((-1), S)
set_option maxHeartbeats 4000000 in
set_option maxRecDepth 100000 in
theorem L_X6_signOf {g : it_G} {l : Launch} {κ : it_KK} (hm : it_wm κ) {S : it_SS} {P : Int32 → it_SS → Prop} (h : it_ok (f_X6_signOf κ  S) P) : it_Cn g l 1 it_m_X6_signOf [.ref 45] κ S (it_pi κ P) := by
  refine it_Cn.of (by decide +kernel) (Nat.le_of_ble_eq_true rfl) ?_
  rw [f_X6_signOf] at h
  show it_Ev g l 1 it_m_X6_signOf 0 0 0 [some (.ref 45)] [] κ S (it_pi κ P)
  refine ev_aload_n d_X6_signOf_0 rfl ?_
  refine ev_getI d_X6_signOf_1 fl_IcedTooSoonModel_111 hm.1 rfl ?_
  refine ev_iconst d_X6_signOf_4 kv_iconst_4 ?_
  refine ev_icmp_ne (tgt := 13) d_X6_signOf_5 (by decide) (fun hc1 => ?_) (fun hc1 => ?_)
  · have h := it_ok_f h hc1
    refine ev_aload_n d_X6_signOf_13 rfl ?_
    refine ev_getI d_X6_signOf_14 fl_IcedTooSoonModel_111 hm.1 rfl ?_
    refine ev_iconst d_X6_signOf_17 kv_iconst_5 ?_
    refine ev_icmp_ne (tgt := 26) d_X6_signOf_18 (by decide) (fun hc2 => ?_) (fun hc2 => ?_)
    · have h := it_ok_f h hc2
      refine ev_aload_n d_X6_signOf_26 rfl ?_
      refine ev_getI d_X6_signOf_27 fl_IcedTooSoonModel_111 hm.1 rfl ?_
      refine ev_bipush d_X6_signOf_30 kv_bipush_60 ?_
      refine ev_icmp_ne (tgt := 40) d_X6_signOf_32 (by decide) (fun hc3 => ?_) (fun hc3 => ?_)
      · have h := it_ok_f h hc3
        refine ev_aload_n d_X6_signOf_40 rfl ?_
        refine ev_getI d_X6_signOf_41 fl_IcedTooSoonModel_111 hm.1 rfl ?_
        refine ev_bipush d_X6_signOf_44 kv_bipush_61 ?_
        refine ev_icmp_ne (tgt := 54) d_X6_signOf_46 (by decide) (fun hc4 => ?_) (fun hc4 => ?_)
        · have h := it_ok_f h hc4
          refine ev_aload_n d_X6_signOf_54 rfl ?_
          refine ev_getI d_X6_signOf_55 fl_IcedTooSoonModel_111 hm.1 rfl ?_
          refine ev_bipush d_X6_signOf_58 kv_bipush_43 ?_
          refine ev_icmp_ne (tgt := 68) d_X6_signOf_60 (by decide) (fun hc5 => ?_) (fun hc5 => ?_)
          · have h := it_ok_f h hc5
            refine ev_aload_n d_X6_signOf_68 rfl ?_
            refine ev_getI d_X6_signOf_69 fl_IcedTooSoonModel_111 hm.1 rfl ?_
            refine ev_bipush d_X6_signOf_72 kv_bipush_45 ?_
            refine ev_icmp_ne (tgt := 82) d_X6_signOf_74 (by decide) (fun hc6 => ?_) (fun hc6 => ?_)
            · have h := it_ok_f h hc6
              refine ev_aload_n d_X6_signOf_82 rfl ?_
              refine ev_getI d_X6_signOf_83 fl_IcedTooSoonModel_111 hm.1 rfl ?_
              refine ev_bipush d_X6_signOf_86 kv_bipush_42 ?_
              refine ev_icmp_ne (tgt := 96) d_X6_signOf_88 (by decide) (fun hc7 => ?_) (fun hc7 => ?_)
              · have h := it_ok_f h hc7
                refine ev_iconst d_X6_signOf_96 kv_iconst_m1 ?_
                exact ev_ret (v := some (.int _)) ⟨d_X6_signOf_97, _, rfl, rfl⟩ (by decide) (by decide) ⟨rfl, _, rfl, it_ok_r h⟩
              · have h := it_ok_t h hc7
                refine ev_bipush d_X6_signOf_91 kv_bipush_18 ?_
                refine ev_goto (tgt := 97) d_X6_signOf_93 (by decide) ?_
                exact ev_ret (v := some (.int _)) ⟨d_X6_signOf_97, _, rfl, rfl⟩ (by decide) (by decide) ⟨rfl, _, rfl, it_ok_r h⟩
            · have h := it_ok_t h hc6
              refine ev_bipush d_X6_signOf_77 kv_bipush_17 ?_
              refine ev_goto (tgt := 97) d_X6_signOf_79 (by decide) ?_
              exact ev_ret (v := some (.int _)) ⟨d_X6_signOf_97, _, rfl, rfl⟩ (by decide) (by decide) ⟨rfl, _, rfl, it_ok_r h⟩
          · have h := it_ok_t h hc5
            refine ev_bipush d_X6_signOf_63 kv_bipush_16 ?_
            refine ev_goto (tgt := 97) d_X6_signOf_65 (by decide) ?_
            exact ev_ret (v := some (.int _)) ⟨d_X6_signOf_97, _, rfl, rfl⟩ (by decide) (by decide) ⟨rfl, _, rfl, it_ok_r h⟩
        · have h := it_ok_t h hc4
          refine ev_bipush d_X6_signOf_49 kv_bipush_15 ?_
          refine ev_goto (tgt := 97) d_X6_signOf_51 (by decide) ?_
          exact ev_ret (v := some (.int _)) ⟨d_X6_signOf_97, _, rfl, rfl⟩ (by decide) (by decide) ⟨rfl, _, rfl, it_ok_r h⟩
      · have h := it_ok_t h hc3
        refine ev_bipush d_X6_signOf_35 kv_bipush_14 ?_
        refine ev_goto (tgt := 97) d_X6_signOf_37 (by decide) ?_
        exact ev_ret (v := some (.int _)) ⟨d_X6_signOf_97, _, rfl, rfl⟩ (by decide) (by decide) ⟨rfl, _, rfl, it_ok_r h⟩
    · have h := it_ok_t h hc2
      refine ev_bipush d_X6_signOf_21 kv_bipush_12 ?_
      refine ev_goto (tgt := 97) d_X6_signOf_23 (by decide) ?_
      exact ev_ret (v := some (.int _)) ⟨d_X6_signOf_97, _, rfl, rfl⟩ (by decide) (by decide) ⟨rfl, _, rfl, it_ok_r h⟩
  · have h := it_ok_t h hc1
    refine ev_bipush d_X6_signOf_8 kv_bipush_11 ?_
    refine ev_goto (tgt := 97) d_X6_signOf_10 (by decide) ?_
    exact ev_ret (v := some (.int _)) ⟨d_X6_signOf_97, _, rfl, rfl⟩ (by decide) (by decide) ⟨rfl, _, rfl, it_ok_r h⟩
theorem d_X6_eRead_0 : decode prog_8_method_22_code 0 = .ok (.aload_n 0, 1) := by decide +kernel
theorem d_X6_eRead_1 : decode prog_8_method_22_code 1 = .ok (.iconst 0, 1) := by decide +kernel
theorem d_X6_eRead_2 : decode prog_8_method_22_code 2 = .ok (.putfield 124, 3) := by decide +kernel
theorem d_X6_eRead_5 : decode prog_8_method_22_code 5 = .ok (.aload_n 0, 1) := by decide +kernel
theorem d_X6_eRead_6 : decode prog_8_method_22_code 6 = .ok (.iconst 0, 1) := by decide +kernel
theorem d_X6_eRead_7 : decode prog_8_method_22_code 7 = .ok (.putfield 131, 3) := by decide +kernel
theorem d_X6_eRead_10 : decode prog_8_method_22_code 10 = .ok (.iconst 1, 1) := by decide +kernel
theorem d_X6_eRead_11 : decode prog_8_method_22_code 11 = .ok (.istore_n 1, 1) := by decide +kernel
theorem d_X6_eRead_12 : decode prog_8_method_22_code 12 = .ok (.iconst 1, 1) := by decide +kernel
theorem d_X6_eRead_13 : decode prog_8_method_22_code 13 = .ok (.istore_n 2, 1) := by decide +kernel
theorem d_X6_eRead_14 : decode prog_8_method_22_code 14 = .ok (.aload_n 0, 1) := by decide +kernel
theorem d_X6_eRead_15 : decode prog_8_method_22_code 15 = .ok (.invokevirtual 144, 3) := by decide +kernel
theorem d_X6_eRead_18 : decode prog_8_method_22_code 18 = .ok (.iload_n 1, 1) := by decide +kernel
theorem d_X6_eRead_19 : decode prog_8_method_22_code 19 = .ok (.ifCond .eq 131, 3) := by decide +kernel
theorem d_X6_eRead_22 : decode prog_8_method_22_code 22 = .ok (.aload_n 0, 1) := by decide +kernel
theorem d_X6_eRead_23 : decode prog_8_method_22_code 23 = .ok (.getfield 111, 3) := by decide +kernel
theorem d_X6_eRead_26 : decode prog_8_method_22_code 26 = .ok (.iconst 1, 1) := by decide +kernel
theorem d_X6_eRead_27 : decode prog_8_method_22_code 27 = .ok (.if_icmp .eq 11, 3) := by decide +kernel
theorem d_X6_eRead_30 : decode prog_8_method_22_code 30 = .ok (.aload_n 0, 1) := by decide +kernel
theorem d_X6_eRead_31 : decode prog_8_method_22_code 31 = .ok (.getfield 111, 3) := by decide +kernel
theorem d_X6_eRead_34 : decode prog_8_method_22_code 34 = .ok (.iconst 2, 1) := by decide +kernel
theorem d_X6_eRead_35 : decode prog_8_method_22_code 35 = .ok (.if_icmp .ne 40, 3) := by decide +kernel
theorem d_X6_eRead_38 : decode prog_8_method_22_code 38 = .ok (.aload_n 0, 1) := by decide +kernel
theorem d_X6_eRead_39 : decode prog_8_method_22_code 39 = .ok (.aload_n 0, 1) := by decide +kernel
theorem d_X6_eRead_40 : decode prog_8_method_22_code 40 = .ok (.getfield 111, 3) := by decide +kernel
theorem d_X6_eRead_43 : decode prog_8_method_22_code 43 = .ok (.iconst 1, 1) := by decide +kernel
theorem d_X6_eRead_44 : decode prog_8_method_22_code 44 = .ok (.if_icmp .ne 13, 3) := by decide +kernel
theorem d_X6_eRead_47 : decode prog_8_method_22_code 47 = .ok (.ldc 147, 2) := by decide +kernel
theorem d_X6_eRead_49 : decode prog_8_method_22_code 49 = .ok (.aload_n 0, 1) := by decide +kernel
theorem d_X6_eRead_50 : decode prog_8_method_22_code 50 = .ok (.getfield 114, 3) := by decide +kernel
theorem d_X6_eRead_53 : decode prog_8_method_22_code 53 = .ok (.iadd, 1) := by decide +kernel
theorem d_X6_eRead_54 : decode prog_8_method_22_code 54 = .ok (.goto 7, 3) := by decide +kernel
theorem d_X6_eRead_57 : decode prog_8_method_22_code 57 = .ok (.aload_n 0, 1) := by decide +kernel
theorem d_X6_eRead_58 : decode prog_8_method_22_code 58 = .ok (.getfield 114, 3) := by decide +kernel
theorem d_X6_eRead_61 : decode prog_8_method_22_code 61 = .ok (.invokevirtual 134, 3) := by decide +kernel
theorem d_X6_eRead_64 : decode prog_8_method_22_code 64 = .ok (.aload_n 0, 1) := by decide +kernel
theorem d_X6_eRead_65 : decode prog_8_method_22_code 65 = .ok (.bipush 7, 2) := by decide +kernel
theorem d_X6_eRead_67 : decode prog_8_method_22_code 67 = .ok (.invokevirtual 141, 3) := by decide +kernel
theorem d_X6_eRead_70 : decode prog_8_method_22_code 70 = .ok (.iconst 0, 1) := by decide +kernel
theorem d_X6_eRead_71 : decode prog_8_method_22_code 71 = .ok (.istore_n 1, 1) := by decide +kernel
theorem d_X6_eRead_72 : decode prog_8_method_22_code 72 = .ok (.goto (-58), 3) := by decide +kernel
theorem d_X6_eRead_75 : decode prog_8_method_22_code 75 = .ok (.aload_n 0, 1) := by decide +kernel
theorem d_X6_eRead_76 : decode prog_8_method_22_code 76 = .ok (.getfield 111, 3) := by decide +kernel
theorem d_X6_eRead_79 : decode prog_8_method_22_code 79 = .ok (.bipush 6, 2) := by decide +kernel
theorem d_X6_eRead_81 : decode prog_8_method_22_code 81 = .ok (.if_icmp .ne 18, 3) := by decide +kernel
theorem d_X6_eRead_84 : decode prog_8_method_22_code 84 = .ok (.iload_n 2, 1) := by decide +kernel
theorem d_X6_eRead_85 : decode prog_8_method_22_code 85 = .ok (.ifCond .eq 14, 3) := by decide +kernel
theorem d_X6_eRead_88 : decode prog_8_method_22_code 88 = .ok (.aload_n 0, 1) := by decide +kernel
theorem d_X6_eRead_89 : decode prog_8_method_22_code 89 = .ok (.bipush 13, 2) := by decide +kernel
theorem d_X6_eRead_91 : decode prog_8_method_22_code 91 = .ok (.invokevirtual 148, 3) := by decide +kernel
theorem d_X6_eRead_94 : decode prog_8_method_22_code 94 = .ok (.ifCond .ne (-80), 3) := by decide +kernel
theorem d_X6_eRead_97 : decode prog_8_method_22_code 97 = .ok (.iconst 0, 1) := by decide +kernel
theorem d_X6_eRead_98 : decode prog_8_method_22_code 98 = .ok (.ireturn, 1) := by decide +kernel
theorem d_X6_eRead_99 : decode prog_8_method_22_code 99 = .ok (.aload_n 0, 1) := by decide +kernel
theorem d_X6_eRead_100 : decode prog_8_method_22_code 100 = .ok (.getfield 111, 3) := by decide +kernel
theorem d_X6_eRead_103 : decode prog_8_method_22_code 103 = .ok (.bipush 45, 2) := by decide +kernel
theorem d_X6_eRead_105 : decode prog_8_method_22_code 105 = .ok (.if_icmp .ne 19, 3) := by decide +kernel
theorem d_X6_eRead_108 : decode prog_8_method_22_code 108 = .ok (.aload_n 0, 1) := by decide +kernel
theorem d_X6_eRead_109 : decode prog_8_method_22_code 109 = .ok (.bipush 19, 2) := by decide +kernel
theorem d_X6_eRead_111 : decode prog_8_method_22_code 111 = .ok (.invokevirtual 148, 3) := by decide +kernel
theorem d_X6_eRead_114 : decode prog_8_method_22_code 114 = .ok (.ifCond .ne 5, 3) := by decide +kernel
theorem d_X6_eRead_117 : decode prog_8_method_22_code 117 = .ok (.iconst 0, 1) := by decide +kernel
theorem d_X6_eRead_118 : decode prog_8_method_22_code 118 = .ok (.ireturn, 1) := by decide +kernel
theorem d_X6_eRead_119 : decode prog_8_method_22_code 119 = .ok (.iconst 0, 1) := by decide +kernel
theorem d_X6_eRead_120 : decode prog_8_method_22_code 120 = .ok (.istore_n 2, 1) := by decide +kernel
theorem d_X6_eRead_121 : decode prog_8_method_22_code 121 = .ok (.goto (-107), 3) := by decide +kernel
theorem d_X6_eRead_124 : decode prog_8_method_22_code 124 = .ok (.aload_n 0, 1) := by decide +kernel
theorem d_X6_eRead_125 : decode prog_8_method_22_code 125 = .ok (.getfield 111, 3) := by decide +kernel
theorem d_X6_eRead_128 : decode prog_8_method_22_code 128 = .ok (.bipush 40, 2) := by decide +kernel
theorem d_X6_eRead_130 : decode prog_8_method_22_code 130 = .ok (.if_icmp .ne 18, 3) := by decide +kernel
theorem d_X6_eRead_133 : decode prog_8_method_22_code 133 = .ok (.aload_n 0, 1) := by decide +kernel
theorem d_X6_eRead_134 : decode prog_8_method_22_code 134 = .ok (.iconst 0, 1) := by decide +kernel
theorem d_X6_eRead_135 : decode prog_8_method_22_code 135 = .ok (.invokevirtual 148, 3) := by decide +kernel
theorem d_X6_eRead_138 : decode prog_8_method_22_code 138 = .ok (.ifCond .ne 5, 3) := by decide +kernel
theorem d_X6_eRead_141 : decode prog_8_method_22_code 141 = .ok (.iconst 0, 1) := by decide +kernel
theorem d_X6_eRead_142 : decode prog_8_method_22_code 142 = .ok (.ireturn, 1) := by decide +kernel
theorem d_X6_eRead_143 : decode prog_8_method_22_code 143 = .ok (.iconst 1, 1) := by decide +kernel
theorem d_X6_eRead_144 : decode prog_8_method_22_code 144 = .ok (.istore_n 2, 1) := by decide +kernel
theorem d_X6_eRead_145 : decode prog_8_method_22_code 145 = .ok (.goto (-131), 3) := by decide +kernel
theorem d_X6_eRead_148 : decode prog_8_method_22_code 148 = .ok (.iconst 0, 1) := by decide +kernel
theorem d_X6_eRead_149 : decode prog_8_method_22_code 149 = .ok (.ireturn, 1) := by decide +kernel
theorem d_X6_eRead_150 : decode prog_8_method_22_code 150 = .ok (.aload_n 0, 1) := by decide +kernel
theorem d_X6_eRead_151 : decode prog_8_method_22_code 151 = .ok (.getfield 111, 3) := by decide +kernel
theorem d_X6_eRead_154 : decode prog_8_method_22_code 154 = .ok (.bipush 59, 2) := by decide +kernel
theorem d_X6_eRead_156 : decode prog_8_method_22_code 156 = .ok (.if_icmp .ne 21, 3) := by decide +kernel
theorem d_X6_eRead_159 : decode prog_8_method_22_code 159 = .ok (.aload_n 0, 1) := by decide +kernel
theorem d_X6_eRead_160 : decode prog_8_method_22_code 160 = .ok (.iconst 1, 1) := by decide +kernel
theorem d_X6_eRead_161 : decode prog_8_method_22_code 161 = .ok (.invokevirtual 141, 3) := by decide +kernel
theorem d_X6_eRead_164 : decode prog_8_method_22_code 164 = .ok (.aload_n 0, 1) := by decide +kernel
theorem d_X6_eRead_165 : decode prog_8_method_22_code 165 = .ok (.getfield 124, 3) := by decide +kernel
theorem d_X6_eRead_168 : decode prog_8_method_22_code 168 = .ok (.ifCond .ne 7, 3) := by decide +kernel
theorem d_X6_eRead_171 : decode prog_8_method_22_code 171 = .ok (.iconst 1, 1) := by decide +kernel
theorem d_X6_eRead_172 : decode prog_8_method_22_code 172 = .ok (.goto 4, 3) := by decide +kernel
theorem d_X6_eRead_175 : decode prog_8_method_22_code 175 = .ok (.iconst 0, 1) := by decide +kernel
theorem d_X6_eRead_176 : decode prog_8_method_22_code 176 = .ok (.ireturn, 1) := by decide +kernel
theorem d_X6_eRead_177 : decode prog_8_method_22_code 177 = .ok (.aload_n 0, 1) := by decide +kernel
theorem d_X6_eRead_178 : decode prog_8_method_22_code 178 = .ok (.getfield 111, 3) := by decide +kernel
theorem d_X6_eRead_181 : decode prog_8_method_22_code 181 = .ok (.bipush 41, 2) := by decide +kernel
theorem d_X6_eRead_183 : decode prog_8_method_22_code 183 = .ok (.if_icmp .ne 46, 3) := by decide +kernel
theorem d_X6_eRead_186 : decode prog_8_method_22_code 186 = .ok (.aload_n 0, 1) := by decide +kernel
theorem d_X6_eRead_187 : decode prog_8_method_22_code 187 = .ok (.iconst 1, 1) := by decide +kernel
theorem d_X6_eRead_188 : decode prog_8_method_22_code 188 = .ok (.invokevirtual 141, 3) := by decide +kernel
theorem d_X6_eRead_191 : decode prog_8_method_22_code 191 = .ok (.aload_n 0, 1) := by decide +kernel
theorem d_X6_eRead_192 : decode prog_8_method_22_code 192 = .ok (.getfield 124, 3) := by decide +kernel
theorem d_X6_eRead_195 : decode prog_8_method_22_code 195 = .ok (.ifCond .ne 5, 3) := by decide +kernel
theorem d_X6_eRead_198 : decode prog_8_method_22_code 198 = .ok (.iconst 0, 1) := by decide +kernel
theorem d_X6_eRead_199 : decode prog_8_method_22_code 199 = .ok (.ireturn, 1) := by decide +kernel
theorem d_X6_eRead_200 : decode prog_8_method_22_code 200 = .ok (.aload_n 0, 1) := by decide +kernel
theorem d_X6_eRead_201 : decode prog_8_method_22_code 201 = .ok (.dup, 1) := by decide +kernel
theorem d_X6_eRead_202 : decode prog_8_method_22_code 202 = .ok (.getfield 124, 3) := by decide +kernel
theorem d_X6_eRead_205 : decode prog_8_method_22_code 205 = .ok (.iconst 1, 1) := by decide +kernel
theorem d_X6_eRead_206 : decode prog_8_method_22_code 206 = .ok (.isub, 1) := by decide +kernel
theorem d_X6_eRead_207 : decode prog_8_method_22_code 207 = .ok (.putfield 124, 3) := by decide +kernel
theorem d_X6_eRead_210 : decode prog_8_method_22_code 210 = .ok (.aload_n 0, 1) := by decide +kernel
theorem d_X6_eRead_211 : decode prog_8_method_22_code 211 = .ok (.dup, 1) := by decide +kernel
theorem d_X6_eRead_212 : decode prog_8_method_22_code 212 = .ok (.getfield 131, 3) := by decide +kernel
theorem d_X6_eRead_215 : decode prog_8_method_22_code 215 = .ok (.iconst 1, 1) := by decide +kernel
theorem d_X6_eRead_216 : decode prog_8_method_22_code 216 = .ok (.isub, 1) := by decide +kernel
theorem d_X6_eRead_217 : decode prog_8_method_22_code 217 = .ok (.putfield 131, 3) := by decide +kernel
theorem d_X6_eRead_220 : decode prog_8_method_22_code 220 = .ok (.aload_n 0, 1) := by decide +kernel
theorem d_X6_eRead_221 : decode prog_8_method_22_code 221 = .ok (.bipush 7, 2) := by decide +kernel
theorem d_X6_eRead_223 : decode prog_8_method_22_code 223 = .ok (.invokevirtual 141, 3) := by decide +kernel
theorem d_X6_eRead_226 : decode prog_8_method_22_code 226 = .ok (.goto (-212), 3) := by decide +kernel
theorem d_X6_eRead_229 : decode prog_8_method_22_code 229 = .ok (.aload_n 0, 1) := by decide +kernel
theorem d_X6_eRead_230 : decode prog_8_method_22_code 230 = .ok (.invokevirtual 151, 3) := by decide +kernel
theorem d_X6_eRead_233 : decode prog_8_method_22_code 233 = .ok (.istore_n 3, 1) := by decide +kernel
theorem d_X6_eRead_234 : decode prog_8_method_22_code 234 = .ok (.iload_n 3, 1) := by decide +kernel
theorem d_X6_eRead_235 : decode prog_8_method_22_code 235 = .ok (.iconst (-1), 1) := by decide +kernel
theorem d_X6_eRead_236 : decode prog_8_method_22_code 236 = .ok (.if_icmp .eq 11, 3) := by decide +kernel
theorem d_X6_eRead_239 : decode prog_8_method_22_code 239 = .ok (.aload_n 0, 1) := by decide +kernel
theorem d_X6_eRead_240 : decode prog_8_method_22_code 240 = .ok (.iload_n 3, 1) := by decide +kernel
theorem d_X6_eRead_241 : decode prog_8_method_22_code 241 = .ok (.invokevirtual 154, 3) := by decide +kernel
theorem d_X6_eRead_244 : decode prog_8_method_22_code 244 = .ok (.ifCond .ne 5, 3) := by decide +kernel
theorem d_X6_eRead_247 : decode prog_8_method_22_code 247 = .ok (.iconst 0, 1) := by decide +kernel
theorem d_X6_eRead_248 : decode prog_8_method_22_code 248 = .ok (.ireturn, 1) := by decide +kernel
theorem d_X6_eRead_249 : decode prog_8_method_22_code 249 = .ok (.iconst 1, 1) := by decide +kernel
theorem d_X6_eRead_250 : decode prog_8_method_22_code 250 = .ok (.istore_n 1, 1) := by decide +kernel
theorem d_X6_eRead_251 : decode prog_8_method_22_code 251 = .ok (.iload_n 3, 1) := by decide +kernel
theorem d_X6_eRead_252 : decode prog_8_method_22_code 252 = .ok (.bipush 12, 2) := by decide +kernel
theorem d_X6_eRead_254 : decode prog_8_method_22_code 254 = .ok (.if_icmp .gt 7, 3) := by decide +kernel
theorem d_X6_eRead_257 : decode prog_8_method_22_code 257 = .ok (.iconst 1, 1) := by decide +kernel
theorem d_X6_eRead_258 : decode prog_8_method_22_code 258 = .ok (.goto 4, 3) := by decide +kernel
theorem d_X6_eRead_261 : decode prog_8_method_22_code 261 = .ok (.iconst 0, 1) := by decide +kernel
theorem d_X6_eRead_262 : decode prog_8_method_22_code 262 = .ok (.istore_n 2, 1) := by decide +kernel
theorem d_X6_eRead_263 : decode prog_8_method_22_code 263 = .ok (.goto (-249), 3) := by decide +kernel
def lp_X6_eRead_14 (κ : it_KK)  : Nat → Int32 → Int32 → it_SS → Option (Int32 × it_SS)
  | 0, _, _, _ => none
  | n14 + 1, v1, v2, S => it_bi (f_X6_next κ  S) (fun _ S1 =>
if v1 = 0 then
if (S1 45 21) = 59 then
it_bi (f_X6_unwinds κ 1 S1) (fun _ S18 =>
if (S18 45 25) = 0 then
some (1, S18)
else
some (0, S18))
else
if (S1 45 21) = 41 then
it_bi (f_X6_unwinds κ 1 S1) (fun _ S13 =>
if (S13 45 25) = 0 then
some (0, S13)
else
it_bi (f_X6_unwinds κ 7 (it_up (it_up S13 45 25 ((S13 45 25) - 1)) 45 26 (((it_up S13 45 25 ((S13 45 25) - 1)) 45 26) - 1))) (fun _ S16 =>
lp_X6_eRead_14 κ  n14 v1 v2 S16))
else
it_bi (f_X6_signOf κ  S1) (fun r7 S6 =>
if r7 = (-1) then
some (0, S6)
else
it_bi (f_X6_between κ r7 S6) (fun r10 S9 =>
if r10 = 0 then
some (0, S9)
else
if 12 < r7 then
lp_X6_eRead_14 κ  n14 1 0 S9
else
lp_X6_eRead_14 κ  n14 1 1 S9))
else
if (S1 45 21) = 1 then
if (S1 45 21) = 1 then
it_bi (f_X6_puts κ (100000 + (S1 45 22)) S1) (fun _ S27 =>
it_bi (f_X6_unwinds κ 7 S27) (fun _ S29 =>
lp_X6_eRead_14 κ  n14 0 v2 S29))
else
it_bi (f_X6_puts κ (S1 45 22) S1) (fun _ S23 =>
it_bi (f_X6_unwinds κ 7 S23) (fun _ S25 =>
lp_X6_eRead_14 κ  n14 0 v2 S25))
else
if (S1 45 21) = 2 then
if (S1 45 21) = 1 then
it_bi (f_X6_puts κ (100000 + (S1 45 22)) S1) (fun _ S58 =>
it_bi (f_X6_unwinds κ 7 S58) (fun _ S60 =>
lp_X6_eRead_14 κ  n14 0 v2 S60))
else
it_bi (f_X6_puts κ (S1 45 22) S1) (fun _ S54 =>
it_bi (f_X6_unwinds κ 7 S54) (fun _ S56 =>
lp_X6_eRead_14 κ  n14 0 v2 S56))
else
if (S1 45 21) = 6 then
if v2 = 0 then
if (S1 45 21) = 45 then
it_bi (f_X6_opensOne κ 19 S1) (fun r48 S47 =>
if r48 = 0 then
some (0, S47)
else
lp_X6_eRead_14 κ  n14 v1 0 S47)
else
if (S1 45 21) = 40 then
it_bi (f_X6_opensOne κ 0 S1) (fun r45 S44 =>
if r45 = 0 then
some (0, S44)
else
lp_X6_eRead_14 κ  n14 v1 1 S44)
else
some (0, S1)
else
it_bi (f_X6_opensOne κ 13 S1) (fun r51 S50 =>
if r51 = 0 then
some (0, S50)
else
lp_X6_eRead_14 κ  n14 v1 v2 S50)
else
if (S1 45 21) = 45 then
it_bi (f_X6_opensOne κ 19 S1) (fun r39 S38 =>
if r39 = 0 then
some (0, S38)
else
lp_X6_eRead_14 κ  n14 v1 0 S38)
else
if (S1 45 21) = 40 then
it_bi (f_X6_opensOne κ 0 S1) (fun r36 S35 =>
if r36 = 0 then
some (0, S35)
else
lp_X6_eRead_14 κ  n14 v1 1 S35)
else
some (0, S1))
def f_X6_eRead (κ : it_KK)  (S : it_SS) : Option (Int32 × it_SS) :=
lp_X6_eRead_14 κ  it_FU 1 1 (it_up (it_up S 45 25 0) 45 26 0)
set_option maxHeartbeats 4000000 in
set_option maxRecDepth 100000 in
theorem Llp_X6_eRead_14 {g : it_G} {l : Launch} {κ : it_KK} (hm : it_wm κ) {P : Int32 → it_SS → Prop} : ∀ (n : Nat) (v1 : Int32) (v2 : Int32) (S : it_SS), it_ok (lp_X6_eRead_14 κ  n v1 v2 S) P → it_Ev g l 4 it_m_X6_eRead 0 0 14 [some (.ref 45), some (.int v1), some (.int v2), none] [] κ S (it_pi κ P) := by
  intro n
  induction n with
  | zero =>
    intro _ _ _ h
    exact (it_ok_n h).elim
  | succ n14 ih14 =>
    intro v1 v2 S h
    rw [lp_X6_eRead_14] at h
    refine ev_aload_n d_X6_eRead_14 rfl ?_
    refine ev_callV (ci := 6) (b := 45) (M' := it_m_X6_next) (d' := 2) (As := []) d_X6_eRead_15 ml_IcedTooSoonModel_144 hm.1.1 hm.1.2.1 ⟨_, rfl, rfl⟩ rfl rfl (Nat.le_of_ble_eq_true rfl) (by decide) (by decide) (by decide) (L_X6_next hm (it_ok_b h)) (fun _ _ _ _ q => by cases q.1; rfl) ?_
    rintro _ _ S1 ⟨rfl, rfl, h⟩
    show it_Ev g l 4 it_m_X6_eRead 0 0 18 [some (.ref 45), some (.int v1), some (.int v2), none] [] κ S1 (it_pi κ P)
    refine ev_iload_n d_X6_eRead_18 rfl ?_
    refine ev_if_eq (tgt := 150) d_X6_eRead_19 (by decide) (fun hc3 => ?_) (fun hc3 => ?_)
    · have h := it_ok_t h hc3
      refine ev_aload_n d_X6_eRead_150 rfl ?_
      refine ev_getI d_X6_eRead_151 fl_IcedTooSoonModel_111 hm.1 rfl ?_
      refine ev_bipush d_X6_eRead_154 kv_bipush_59 ?_
      refine ev_icmp_ne (tgt := 177) d_X6_eRead_156 (by decide) (fun hc4 => ?_) (fun hc4 => ?_)
      · have h := it_ok_f h hc4
        refine ev_aload_n d_X6_eRead_177 rfl ?_
        refine ev_getI d_X6_eRead_178 fl_IcedTooSoonModel_111 hm.1 rfl ?_
        refine ev_bipush d_X6_eRead_181 kv_bipush_41 ?_
        refine ev_icmp_ne (tgt := 229) d_X6_eRead_183 (by decide) (fun hc5 => ?_) (fun hc5 => ?_)
        · have h := it_ok_f h hc5
          refine ev_aload_n d_X6_eRead_229 rfl ?_
          refine ev_callV (ci := 6) (b := 45) (M' := it_m_X6_signOf) (d' := 1) (As := []) d_X6_eRead_230 ml_IcedTooSoonModel_151 hm.1.1 hm.1.2.1 ⟨_, rfl, rfl⟩ rfl rfl (Nat.le_of_ble_eq_true rfl) (by decide) (by decide) (by decide) (L_X6_signOf hm (it_ok_b h)) (fun _ _ _ _ q => by cases q.1; rfl) ?_
          rintro _ _ S6 ⟨rfl, r7, rfl, h⟩
          show it_Ev g l 4 it_m_X6_eRead 0 0 233 [some (.ref 45), some (.int v1), some (.int v2), none] [.int r7] κ S6 (it_pi κ P)
          refine ev_istore_n d_X6_eRead_233 (by decide) ?_
          show it_Ev g l 4 it_m_X6_eRead 0 0 234 [some (.ref 45), some (.int v1), some (.int v2), some (.int r7)] [] κ S6 (it_pi κ P)
          refine ev_iload_n d_X6_eRead_234 rfl ?_
          refine ev_iconst d_X6_eRead_235 kv_iconst_m1 ?_
          refine ev_icmp_eq (tgt := 247) d_X6_eRead_236 (by decide) (fun hc8 => ?_) (fun hc8 => ?_)
          · have h := it_ok_t h hc8
            refine ev_iconst d_X6_eRead_247 kv_iconst_0 ?_
            exact ev_ret (v := some (.int _)) ⟨d_X6_eRead_248, _, rfl, rfl⟩ (by decide) (by decide) ⟨rfl, _, rfl, it_ok_r h⟩
          · have h := it_ok_f h hc8
            refine ev_aload_n d_X6_eRead_239 rfl ?_
            refine ev_iload_n d_X6_eRead_240 rfl ?_
            refine ev_callV (ci := 6) (b := 45) (M' := it_m_X6_between) (d' := 3) (As := [.int r7]) d_X6_eRead_241 ml_IcedTooSoonModel_154 hm.1.1 hm.1.2.1 ⟨_, rfl, rfl⟩ rfl rfl (Nat.le_of_ble_eq_true rfl) (by decide) (by decide) (by decide) (L_X6_between hm (it_ok_b h)) (fun _ _ _ _ q => by cases q.1; rfl) ?_
            rintro _ _ S9 ⟨rfl, r10, rfl, h⟩
            show it_Ev g l 4 it_m_X6_eRead 0 0 244 [some (.ref 45), some (.int v1), some (.int v2), some (.int r7)] [.int r10] κ S9 (it_pi κ P)
            refine ev_if_ne (tgt := 249) d_X6_eRead_244 (by decide) (fun hc11 => ?_) (fun hc11 => ?_)
            · have h := it_ok_f h hc11
              refine ev_iconst d_X6_eRead_249 kv_iconst_1 ?_
              refine ev_istore_n d_X6_eRead_250 (by decide) ?_
              show it_Ev g l 4 it_m_X6_eRead 0 0 251 [some (.ref 45), some (.int 1), some (.int v2), some (.int r7)] [] κ S9 (it_pi κ P)
              refine ev_iload_n d_X6_eRead_251 rfl ?_
              refine ev_bipush d_X6_eRead_252 kv_bipush_12 ?_
              refine ev_icmp_gt (tgt := 261) d_X6_eRead_254 (by decide) (fun hc12 => ?_) (fun hc12 => ?_)
              · have h := it_ok_t h hc12
                refine ev_iconst d_X6_eRead_261 kv_iconst_0 ?_
                refine ev_istore_n d_X6_eRead_262 (by decide) ?_
                show it_Ev g l 4 it_m_X6_eRead 0 0 263 [some (.ref 45), some (.int 1), some (.int 0), some (.int r7)] [] κ S9 (it_pi κ P)
                refine ev_goto (tgt := 14) d_X6_eRead_263 (by decide) ?_
                refine ev_keep [true, true, true, false] ?_
                exact ih14 _ _ _ h
              · have h := it_ok_f h hc12
                refine ev_iconst d_X6_eRead_257 kv_iconst_1 ?_
                refine ev_goto (tgt := 262) d_X6_eRead_258 (by decide) ?_
                refine ev_istore_n d_X6_eRead_262 (by decide) ?_
                show it_Ev g l 4 it_m_X6_eRead 0 0 263 [some (.ref 45), some (.int 1), some (.int 1), some (.int r7)] [] κ S9 (it_pi κ P)
                refine ev_goto (tgt := 14) d_X6_eRead_263 (by decide) ?_
                refine ev_keep [true, true, true, false] ?_
                exact ih14 _ _ _ h
            · have h := it_ok_t h hc11
              refine ev_iconst d_X6_eRead_247 kv_iconst_0 ?_
              exact ev_ret (v := some (.int _)) ⟨d_X6_eRead_248, _, rfl, rfl⟩ (by decide) (by decide) ⟨rfl, _, rfl, it_ok_r h⟩
        · have h := it_ok_t h hc5
          refine ev_aload_n d_X6_eRead_186 rfl ?_
          refine ev_iconst d_X6_eRead_187 kv_iconst_1 ?_
          refine ev_callV (ci := 6) (b := 45) (M' := it_m_X6_unwinds) (d' := 2) (As := [.int 1]) d_X6_eRead_188 ml_IcedTooSoonModel_141 hm.1.1 hm.1.2.1 ⟨_, rfl, rfl⟩ rfl rfl (Nat.le_of_ble_eq_true rfl) (by decide) (by decide) (by decide) (L_X6_unwinds hm (it_ok_b h)) (fun _ _ _ _ q => by cases q.1; rfl) ?_
          rintro _ _ S13 ⟨rfl, rfl, h⟩
          show it_Ev g l 4 it_m_X6_eRead 0 0 191 [some (.ref 45), some (.int v1), some (.int v2), none] [] κ S13 (it_pi κ P)
          refine ev_aload_n d_X6_eRead_191 rfl ?_
          refine ev_getI d_X6_eRead_192 fl_IcedTooSoonModel_124 hm.1 rfl ?_
          refine ev_if_ne (tgt := 200) d_X6_eRead_195 (by decide) (fun hc15 => ?_) (fun hc15 => ?_)
          · have h := it_ok_f h hc15
            refine ev_aload_n d_X6_eRead_200 rfl ?_
            refine ev_dup d_X6_eRead_201 rfl ?_
            refine ev_getI d_X6_eRead_202 fl_IcedTooSoonModel_124 hm.1 rfl ?_
            refine ev_iconst d_X6_eRead_205 kv_iconst_1 ?_
            refine ev_isub d_X6_eRead_206 ?_
            refine ev_putI d_X6_eRead_207 (by decide) fl_IcedTooSoonModel_124 fw_6_25 hm.1 rfl ?_
            refine ev_aload_n d_X6_eRead_210 rfl ?_
            refine ev_dup d_X6_eRead_211 rfl ?_
            refine ev_getI d_X6_eRead_212 fl_IcedTooSoonModel_131 hm.1 rfl ?_
            refine ev_iconst d_X6_eRead_215 kv_iconst_1 ?_
            refine ev_isub d_X6_eRead_216 ?_
            refine ev_putI d_X6_eRead_217 (by decide) fl_IcedTooSoonModel_131 fw_6_26 hm.1 rfl ?_
            refine ev_aload_n d_X6_eRead_220 rfl ?_
            refine ev_bipush d_X6_eRead_221 kv_bipush_7 ?_
            refine ev_callV (ci := 6) (b := 45) (M' := it_m_X6_unwinds) (d' := 2) (As := [.int 7]) d_X6_eRead_223 ml_IcedTooSoonModel_141 hm.1.1 hm.1.2.1 ⟨_, rfl, rfl⟩ rfl rfl (Nat.le_of_ble_eq_true rfl) (by decide) (by decide) (by decide) (L_X6_unwinds hm (it_ok_b h)) (fun _ _ _ _ q => by cases q.1; rfl) ?_
            rintro _ _ S16 ⟨rfl, rfl, h⟩
            show it_Ev g l 4 it_m_X6_eRead 0 0 226 [some (.ref 45), some (.int v1), some (.int v2), none] [] κ S16 (it_pi κ P)
            refine ev_goto (tgt := 14) d_X6_eRead_226 (by decide) ?_
            refine ev_keep [true, true, true, false] ?_
            exact ih14 _ _ _ h
          · have h := it_ok_t h hc15
            refine ev_iconst d_X6_eRead_198 kv_iconst_0 ?_
            exact ev_ret (v := some (.int _)) ⟨d_X6_eRead_199, _, rfl, rfl⟩ (by decide) (by decide) ⟨rfl, _, rfl, it_ok_r h⟩
      · have h := it_ok_t h hc4
        refine ev_aload_n d_X6_eRead_159 rfl ?_
        refine ev_iconst d_X6_eRead_160 kv_iconst_1 ?_
        refine ev_callV (ci := 6) (b := 45) (M' := it_m_X6_unwinds) (d' := 2) (As := [.int 1]) d_X6_eRead_161 ml_IcedTooSoonModel_141 hm.1.1 hm.1.2.1 ⟨_, rfl, rfl⟩ rfl rfl (Nat.le_of_ble_eq_true rfl) (by decide) (by decide) (by decide) (L_X6_unwinds hm (it_ok_b h)) (fun _ _ _ _ q => by cases q.1; rfl) ?_
        rintro _ _ S18 ⟨rfl, rfl, h⟩
        show it_Ev g l 4 it_m_X6_eRead 0 0 164 [some (.ref 45), some (.int v1), some (.int v2), none] [] κ S18 (it_pi κ P)
        refine ev_aload_n d_X6_eRead_164 rfl ?_
        refine ev_getI d_X6_eRead_165 fl_IcedTooSoonModel_124 hm.1 rfl ?_
        refine ev_if_ne (tgt := 175) d_X6_eRead_168 (by decide) (fun hc20 => ?_) (fun hc20 => ?_)
        · have h := it_ok_f h hc20
          refine ev_iconst d_X6_eRead_175 kv_iconst_0 ?_
          exact ev_ret (v := some (.int _)) ⟨d_X6_eRead_176, _, rfl, rfl⟩ (by decide) (by decide) ⟨rfl, _, rfl, it_ok_r h⟩
        · have h := it_ok_t h hc20
          refine ev_iconst d_X6_eRead_171 kv_iconst_1 ?_
          refine ev_goto (tgt := 176) d_X6_eRead_172 (by decide) ?_
          exact ev_ret (v := some (.int _)) ⟨d_X6_eRead_176, _, rfl, rfl⟩ (by decide) (by decide) ⟨rfl, _, rfl, it_ok_r h⟩
    · have h := it_ok_f h hc3
      refine ev_aload_n d_X6_eRead_22 rfl ?_
      refine ev_getI d_X6_eRead_23 fl_IcedTooSoonModel_111 hm.1 rfl ?_
      refine ev_iconst d_X6_eRead_26 kv_iconst_1 ?_
      refine ev_icmp_eq (tgt := 38) d_X6_eRead_27 (by decide) (fun hc21 => ?_) (fun hc21 => ?_)
      · have h := it_ok_t h hc21
        refine ev_aload_n d_X6_eRead_38 rfl ?_
        refine ev_aload_n d_X6_eRead_39 rfl ?_
        refine ev_getI d_X6_eRead_40 fl_IcedTooSoonModel_111 hm.1 rfl ?_
        refine ev_iconst d_X6_eRead_43 kv_iconst_1 ?_
        refine ev_icmp_ne (tgt := 57) d_X6_eRead_44 (by decide) (fun hc22 => ?_) (fun hc22 => ?_)
        · have h := it_ok_f h hc22
          refine ev_aload_n d_X6_eRead_57 rfl ?_
          refine ev_getI d_X6_eRead_58 fl_IcedTooSoonModel_114 hm.1 rfl ?_
          refine ev_callV (ci := 6) (b := 45) (M' := it_m_X6_puts) (d' := 1) (As := [.int (S1 45 22)]) d_X6_eRead_61 ml_IcedTooSoonModel_134 hm.1.1 hm.1.2.1 ⟨_, rfl, rfl⟩ rfl rfl (Nat.le_of_ble_eq_true rfl) (by decide) (by decide) (by decide) (L_X6_puts hm (it_ok_b h)) (fun _ _ _ _ q => by cases q.1; rfl) ?_
          rintro _ _ S23 ⟨rfl, rfl, h⟩
          show it_Ev g l 4 it_m_X6_eRead 0 0 64 [some (.ref 45), some (.int v1), some (.int v2), none] [] κ S23 (it_pi κ P)
          refine ev_aload_n d_X6_eRead_64 rfl ?_
          refine ev_bipush d_X6_eRead_65 kv_bipush_7 ?_
          refine ev_callV (ci := 6) (b := 45) (M' := it_m_X6_unwinds) (d' := 2) (As := [.int 7]) d_X6_eRead_67 ml_IcedTooSoonModel_141 hm.1.1 hm.1.2.1 ⟨_, rfl, rfl⟩ rfl rfl (Nat.le_of_ble_eq_true rfl) (by decide) (by decide) (by decide) (L_X6_unwinds hm (it_ok_b h)) (fun _ _ _ _ q => by cases q.1; rfl) ?_
          rintro _ _ S25 ⟨rfl, rfl, h⟩
          show it_Ev g l 4 it_m_X6_eRead 0 0 70 [some (.ref 45), some (.int v1), some (.int v2), none] [] κ S25 (it_pi κ P)
          refine ev_iconst d_X6_eRead_70 kv_iconst_0 ?_
          refine ev_istore_n d_X6_eRead_71 (by decide) ?_
          show it_Ev g l 4 it_m_X6_eRead 0 0 72 [some (.ref 45), some (.int 0), some (.int v2), none] [] κ S25 (it_pi κ P)
          refine ev_goto (tgt := 14) d_X6_eRead_72 (by decide) ?_
          refine ev_keep [true, true, true, false] ?_
          exact ih14 _ _ _ h
        · have h := it_ok_t h hc22
          refine ev_ldc d_X6_eRead_47 kn_IcedTooSoonModel_147 ?_
          refine ev_aload_n d_X6_eRead_49 rfl ?_
          refine ev_getI d_X6_eRead_50 fl_IcedTooSoonModel_114 hm.1 rfl ?_
          refine ev_iadd d_X6_eRead_53 ?_
          refine ev_goto (tgt := 61) d_X6_eRead_54 (by decide) ?_
          refine ev_callV (ci := 6) (b := 45) (M' := it_m_X6_puts) (d' := 1) (As := [.int (100000 + (S1 45 22))]) d_X6_eRead_61 ml_IcedTooSoonModel_134 hm.1.1 hm.1.2.1 ⟨_, rfl, rfl⟩ rfl rfl (Nat.le_of_ble_eq_true rfl) (by decide) (by decide) (by decide) (L_X6_puts hm (it_ok_b h)) (fun _ _ _ _ q => by cases q.1; rfl) ?_
          rintro _ _ S27 ⟨rfl, rfl, h⟩
          show it_Ev g l 4 it_m_X6_eRead 0 0 64 [some (.ref 45), some (.int v1), some (.int v2), none] [] κ S27 (it_pi κ P)
          refine ev_aload_n d_X6_eRead_64 rfl ?_
          refine ev_bipush d_X6_eRead_65 kv_bipush_7 ?_
          refine ev_callV (ci := 6) (b := 45) (M' := it_m_X6_unwinds) (d' := 2) (As := [.int 7]) d_X6_eRead_67 ml_IcedTooSoonModel_141 hm.1.1 hm.1.2.1 ⟨_, rfl, rfl⟩ rfl rfl (Nat.le_of_ble_eq_true rfl) (by decide) (by decide) (by decide) (L_X6_unwinds hm (it_ok_b h)) (fun _ _ _ _ q => by cases q.1; rfl) ?_
          rintro _ _ S29 ⟨rfl, rfl, h⟩
          show it_Ev g l 4 it_m_X6_eRead 0 0 70 [some (.ref 45), some (.int v1), some (.int v2), none] [] κ S29 (it_pi κ P)
          refine ev_iconst d_X6_eRead_70 kv_iconst_0 ?_
          refine ev_istore_n d_X6_eRead_71 (by decide) ?_
          show it_Ev g l 4 it_m_X6_eRead 0 0 72 [some (.ref 45), some (.int 0), some (.int v2), none] [] κ S29 (it_pi κ P)
          refine ev_goto (tgt := 14) d_X6_eRead_72 (by decide) ?_
          refine ev_keep [true, true, true, false] ?_
          exact ih14 _ _ _ h
      · have h := it_ok_f h hc21
        refine ev_aload_n d_X6_eRead_30 rfl ?_
        refine ev_getI d_X6_eRead_31 fl_IcedTooSoonModel_111 hm.1 rfl ?_
        refine ev_iconst d_X6_eRead_34 kv_iconst_2 ?_
        refine ev_icmp_ne (tgt := 75) d_X6_eRead_35 (by decide) (fun hc31 => ?_) (fun hc31 => ?_)
        · have h := it_ok_f h hc31
          refine ev_aload_n d_X6_eRead_75 rfl ?_
          refine ev_getI d_X6_eRead_76 fl_IcedTooSoonModel_111 hm.1 rfl ?_
          refine ev_bipush d_X6_eRead_79 kv_bipush_6 ?_
          refine ev_icmp_ne (tgt := 99) d_X6_eRead_81 (by decide) (fun hc32 => ?_) (fun hc32 => ?_)
          · have h := it_ok_f h hc32
            refine ev_aload_n d_X6_eRead_99 rfl ?_
            refine ev_getI d_X6_eRead_100 fl_IcedTooSoonModel_111 hm.1 rfl ?_
            refine ev_bipush d_X6_eRead_103 kv_bipush_45 ?_
            refine ev_icmp_ne (tgt := 124) d_X6_eRead_105 (by decide) (fun hc33 => ?_) (fun hc33 => ?_)
            · have h := it_ok_f h hc33
              refine ev_aload_n d_X6_eRead_124 rfl ?_
              refine ev_getI d_X6_eRead_125 fl_IcedTooSoonModel_111 hm.1 rfl ?_
              refine ev_bipush d_X6_eRead_128 kv_bipush_40 ?_
              refine ev_icmp_ne (tgt := 148) d_X6_eRead_130 (by decide) (fun hc34 => ?_) (fun hc34 => ?_)
              · have h := it_ok_f h hc34
                refine ev_iconst d_X6_eRead_148 kv_iconst_0 ?_
                exact ev_ret (v := some (.int _)) ⟨d_X6_eRead_149, _, rfl, rfl⟩ (by decide) (by decide) ⟨rfl, _, rfl, it_ok_r h⟩
              · have h := it_ok_t h hc34
                refine ev_aload_n d_X6_eRead_133 rfl ?_
                refine ev_iconst d_X6_eRead_134 kv_iconst_0 ?_
                refine ev_callV (ci := 6) (b := 45) (M' := it_m_X6_opensOne) (d' := 2) (As := [.int 0]) d_X6_eRead_135 ml_IcedTooSoonModel_148 hm.1.1 hm.1.2.1 ⟨_, rfl, rfl⟩ rfl rfl (Nat.le_of_ble_eq_true rfl) (by decide) (by decide) (by decide) (L_X6_opensOne hm (it_ok_b h)) (fun _ _ _ _ q => by cases q.1; rfl) ?_
                rintro _ _ S35 ⟨rfl, r36, rfl, h⟩
                show it_Ev g l 4 it_m_X6_eRead 0 0 138 [some (.ref 45), some (.int v1), some (.int v2), none] [.int r36] κ S35 (it_pi κ P)
                refine ev_if_ne (tgt := 143) d_X6_eRead_138 (by decide) (fun hc37 => ?_) (fun hc37 => ?_)
                · have h := it_ok_f h hc37
                  refine ev_iconst d_X6_eRead_143 kv_iconst_1 ?_
                  refine ev_istore_n d_X6_eRead_144 (by decide) ?_
                  show it_Ev g l 4 it_m_X6_eRead 0 0 145 [some (.ref 45), some (.int v1), some (.int 1), none] [] κ S35 (it_pi κ P)
                  refine ev_goto (tgt := 14) d_X6_eRead_145 (by decide) ?_
                  refine ev_keep [true, true, true, false] ?_
                  exact ih14 _ _ _ h
                · have h := it_ok_t h hc37
                  refine ev_iconst d_X6_eRead_141 kv_iconst_0 ?_
                  exact ev_ret (v := some (.int _)) ⟨d_X6_eRead_142, _, rfl, rfl⟩ (by decide) (by decide) ⟨rfl, _, rfl, it_ok_r h⟩
            · have h := it_ok_t h hc33
              refine ev_aload_n d_X6_eRead_108 rfl ?_
              refine ev_bipush d_X6_eRead_109 kv_bipush_19 ?_
              refine ev_callV (ci := 6) (b := 45) (M' := it_m_X6_opensOne) (d' := 2) (As := [.int 19]) d_X6_eRead_111 ml_IcedTooSoonModel_148 hm.1.1 hm.1.2.1 ⟨_, rfl, rfl⟩ rfl rfl (Nat.le_of_ble_eq_true rfl) (by decide) (by decide) (by decide) (L_X6_opensOne hm (it_ok_b h)) (fun _ _ _ _ q => by cases q.1; rfl) ?_
              rintro _ _ S38 ⟨rfl, r39, rfl, h⟩
              show it_Ev g l 4 it_m_X6_eRead 0 0 114 [some (.ref 45), some (.int v1), some (.int v2), none] [.int r39] κ S38 (it_pi κ P)
              refine ev_if_ne (tgt := 119) d_X6_eRead_114 (by decide) (fun hc40 => ?_) (fun hc40 => ?_)
              · have h := it_ok_f h hc40
                refine ev_iconst d_X6_eRead_119 kv_iconst_0 ?_
                refine ev_istore_n d_X6_eRead_120 (by decide) ?_
                show it_Ev g l 4 it_m_X6_eRead 0 0 121 [some (.ref 45), some (.int v1), some (.int 0), none] [] κ S38 (it_pi κ P)
                refine ev_goto (tgt := 14) d_X6_eRead_121 (by decide) ?_
                refine ev_keep [true, true, true, false] ?_
                exact ih14 _ _ _ h
              · have h := it_ok_t h hc40
                refine ev_iconst d_X6_eRead_117 kv_iconst_0 ?_
                exact ev_ret (v := some (.int _)) ⟨d_X6_eRead_118, _, rfl, rfl⟩ (by decide) (by decide) ⟨rfl, _, rfl, it_ok_r h⟩
          · have h := it_ok_t h hc32
            refine ev_iload_n d_X6_eRead_84 rfl ?_
            refine ev_if_eq (tgt := 99) d_X6_eRead_85 (by decide) (fun hc41 => ?_) (fun hc41 => ?_)
            · have h := it_ok_t h hc41
              refine ev_aload_n d_X6_eRead_99 rfl ?_
              refine ev_getI d_X6_eRead_100 fl_IcedTooSoonModel_111 hm.1 rfl ?_
              refine ev_bipush d_X6_eRead_103 kv_bipush_45 ?_
              refine ev_icmp_ne (tgt := 124) d_X6_eRead_105 (by decide) (fun hc42 => ?_) (fun hc42 => ?_)
              · have h := it_ok_f h hc42
                refine ev_aload_n d_X6_eRead_124 rfl ?_
                refine ev_getI d_X6_eRead_125 fl_IcedTooSoonModel_111 hm.1 rfl ?_
                refine ev_bipush d_X6_eRead_128 kv_bipush_40 ?_
                refine ev_icmp_ne (tgt := 148) d_X6_eRead_130 (by decide) (fun hc43 => ?_) (fun hc43 => ?_)
                · have h := it_ok_f h hc43
                  refine ev_iconst d_X6_eRead_148 kv_iconst_0 ?_
                  exact ev_ret (v := some (.int _)) ⟨d_X6_eRead_149, _, rfl, rfl⟩ (by decide) (by decide) ⟨rfl, _, rfl, it_ok_r h⟩
                · have h := it_ok_t h hc43
                  refine ev_aload_n d_X6_eRead_133 rfl ?_
                  refine ev_iconst d_X6_eRead_134 kv_iconst_0 ?_
                  refine ev_callV (ci := 6) (b := 45) (M' := it_m_X6_opensOne) (d' := 2) (As := [.int 0]) d_X6_eRead_135 ml_IcedTooSoonModel_148 hm.1.1 hm.1.2.1 ⟨_, rfl, rfl⟩ rfl rfl (Nat.le_of_ble_eq_true rfl) (by decide) (by decide) (by decide) (L_X6_opensOne hm (it_ok_b h)) (fun _ _ _ _ q => by cases q.1; rfl) ?_
                  rintro _ _ S44 ⟨rfl, r45, rfl, h⟩
                  show it_Ev g l 4 it_m_X6_eRead 0 0 138 [some (.ref 45), some (.int v1), some (.int v2), none] [.int r45] κ S44 (it_pi κ P)
                  refine ev_if_ne (tgt := 143) d_X6_eRead_138 (by decide) (fun hc46 => ?_) (fun hc46 => ?_)
                  · have h := it_ok_f h hc46
                    refine ev_iconst d_X6_eRead_143 kv_iconst_1 ?_
                    refine ev_istore_n d_X6_eRead_144 (by decide) ?_
                    show it_Ev g l 4 it_m_X6_eRead 0 0 145 [some (.ref 45), some (.int v1), some (.int 1), none] [] κ S44 (it_pi κ P)
                    refine ev_goto (tgt := 14) d_X6_eRead_145 (by decide) ?_
                    refine ev_keep [true, true, true, false] ?_
                    exact ih14 _ _ _ h
                  · have h := it_ok_t h hc46
                    refine ev_iconst d_X6_eRead_141 kv_iconst_0 ?_
                    exact ev_ret (v := some (.int _)) ⟨d_X6_eRead_142, _, rfl, rfl⟩ (by decide) (by decide) ⟨rfl, _, rfl, it_ok_r h⟩
              · have h := it_ok_t h hc42
                refine ev_aload_n d_X6_eRead_108 rfl ?_
                refine ev_bipush d_X6_eRead_109 kv_bipush_19 ?_
                refine ev_callV (ci := 6) (b := 45) (M' := it_m_X6_opensOne) (d' := 2) (As := [.int 19]) d_X6_eRead_111 ml_IcedTooSoonModel_148 hm.1.1 hm.1.2.1 ⟨_, rfl, rfl⟩ rfl rfl (Nat.le_of_ble_eq_true rfl) (by decide) (by decide) (by decide) (L_X6_opensOne hm (it_ok_b h)) (fun _ _ _ _ q => by cases q.1; rfl) ?_
                rintro _ _ S47 ⟨rfl, r48, rfl, h⟩
                show it_Ev g l 4 it_m_X6_eRead 0 0 114 [some (.ref 45), some (.int v1), some (.int v2), none] [.int r48] κ S47 (it_pi κ P)
                refine ev_if_ne (tgt := 119) d_X6_eRead_114 (by decide) (fun hc49 => ?_) (fun hc49 => ?_)
                · have h := it_ok_f h hc49
                  refine ev_iconst d_X6_eRead_119 kv_iconst_0 ?_
                  refine ev_istore_n d_X6_eRead_120 (by decide) ?_
                  show it_Ev g l 4 it_m_X6_eRead 0 0 121 [some (.ref 45), some (.int v1), some (.int 0), none] [] κ S47 (it_pi κ P)
                  refine ev_goto (tgt := 14) d_X6_eRead_121 (by decide) ?_
                  refine ev_keep [true, true, true, false] ?_
                  exact ih14 _ _ _ h
                · have h := it_ok_t h hc49
                  refine ev_iconst d_X6_eRead_117 kv_iconst_0 ?_
                  exact ev_ret (v := some (.int _)) ⟨d_X6_eRead_118, _, rfl, rfl⟩ (by decide) (by decide) ⟨rfl, _, rfl, it_ok_r h⟩
            · have h := it_ok_f h hc41
              refine ev_aload_n d_X6_eRead_88 rfl ?_
              refine ev_bipush d_X6_eRead_89 kv_bipush_13 ?_
              refine ev_callV (ci := 6) (b := 45) (M' := it_m_X6_opensOne) (d' := 2) (As := [.int 13]) d_X6_eRead_91 ml_IcedTooSoonModel_148 hm.1.1 hm.1.2.1 ⟨_, rfl, rfl⟩ rfl rfl (Nat.le_of_ble_eq_true rfl) (by decide) (by decide) (by decide) (L_X6_opensOne hm (it_ok_b h)) (fun _ _ _ _ q => by cases q.1; rfl) ?_
              rintro _ _ S50 ⟨rfl, r51, rfl, h⟩
              show it_Ev g l 4 it_m_X6_eRead 0 0 94 [some (.ref 45), some (.int v1), some (.int v2), none] [.int r51] κ S50 (it_pi κ P)
              refine ev_if_ne (tgt := 14) d_X6_eRead_94 (by decide) (fun hc52 => ?_) (fun hc52 => ?_)
              · have h := it_ok_f h hc52
                refine ev_keep [true, true, true, false] ?_
                exact ih14 _ _ _ h
              · have h := it_ok_t h hc52
                refine ev_iconst d_X6_eRead_97 kv_iconst_0 ?_
                exact ev_ret (v := some (.int _)) ⟨d_X6_eRead_98, _, rfl, rfl⟩ (by decide) (by decide) ⟨rfl, _, rfl, it_ok_r h⟩
        · have h := it_ok_t h hc31
          refine ev_aload_n d_X6_eRead_38 rfl ?_
          refine ev_aload_n d_X6_eRead_39 rfl ?_
          refine ev_getI d_X6_eRead_40 fl_IcedTooSoonModel_111 hm.1 rfl ?_
          refine ev_iconst d_X6_eRead_43 kv_iconst_1 ?_
          refine ev_icmp_ne (tgt := 57) d_X6_eRead_44 (by decide) (fun hc53 => ?_) (fun hc53 => ?_)
          · have h := it_ok_f h hc53
            refine ev_aload_n d_X6_eRead_57 rfl ?_
            refine ev_getI d_X6_eRead_58 fl_IcedTooSoonModel_114 hm.1 rfl ?_
            refine ev_callV (ci := 6) (b := 45) (M' := it_m_X6_puts) (d' := 1) (As := [.int (S1 45 22)]) d_X6_eRead_61 ml_IcedTooSoonModel_134 hm.1.1 hm.1.2.1 ⟨_, rfl, rfl⟩ rfl rfl (Nat.le_of_ble_eq_true rfl) (by decide) (by decide) (by decide) (L_X6_puts hm (it_ok_b h)) (fun _ _ _ _ q => by cases q.1; rfl) ?_
            rintro _ _ S54 ⟨rfl, rfl, h⟩
            show it_Ev g l 4 it_m_X6_eRead 0 0 64 [some (.ref 45), some (.int v1), some (.int v2), none] [] κ S54 (it_pi κ P)
            refine ev_aload_n d_X6_eRead_64 rfl ?_
            refine ev_bipush d_X6_eRead_65 kv_bipush_7 ?_
            refine ev_callV (ci := 6) (b := 45) (M' := it_m_X6_unwinds) (d' := 2) (As := [.int 7]) d_X6_eRead_67 ml_IcedTooSoonModel_141 hm.1.1 hm.1.2.1 ⟨_, rfl, rfl⟩ rfl rfl (Nat.le_of_ble_eq_true rfl) (by decide) (by decide) (by decide) (L_X6_unwinds hm (it_ok_b h)) (fun _ _ _ _ q => by cases q.1; rfl) ?_
            rintro _ _ S56 ⟨rfl, rfl, h⟩
            show it_Ev g l 4 it_m_X6_eRead 0 0 70 [some (.ref 45), some (.int v1), some (.int v2), none] [] κ S56 (it_pi κ P)
            refine ev_iconst d_X6_eRead_70 kv_iconst_0 ?_
            refine ev_istore_n d_X6_eRead_71 (by decide) ?_
            show it_Ev g l 4 it_m_X6_eRead 0 0 72 [some (.ref 45), some (.int 0), some (.int v2), none] [] κ S56 (it_pi κ P)
            refine ev_goto (tgt := 14) d_X6_eRead_72 (by decide) ?_
            refine ev_keep [true, true, true, false] ?_
            exact ih14 _ _ _ h
          · have h := it_ok_t h hc53
            refine ev_ldc d_X6_eRead_47 kn_IcedTooSoonModel_147 ?_
            refine ev_aload_n d_X6_eRead_49 rfl ?_
            refine ev_getI d_X6_eRead_50 fl_IcedTooSoonModel_114 hm.1 rfl ?_
            refine ev_iadd d_X6_eRead_53 ?_
            refine ev_goto (tgt := 61) d_X6_eRead_54 (by decide) ?_
            refine ev_callV (ci := 6) (b := 45) (M' := it_m_X6_puts) (d' := 1) (As := [.int (100000 + (S1 45 22))]) d_X6_eRead_61 ml_IcedTooSoonModel_134 hm.1.1 hm.1.2.1 ⟨_, rfl, rfl⟩ rfl rfl (Nat.le_of_ble_eq_true rfl) (by decide) (by decide) (by decide) (L_X6_puts hm (it_ok_b h)) (fun _ _ _ _ q => by cases q.1; rfl) ?_
            rintro _ _ S58 ⟨rfl, rfl, h⟩
            show it_Ev g l 4 it_m_X6_eRead 0 0 64 [some (.ref 45), some (.int v1), some (.int v2), none] [] κ S58 (it_pi κ P)
            refine ev_aload_n d_X6_eRead_64 rfl ?_
            refine ev_bipush d_X6_eRead_65 kv_bipush_7 ?_
            refine ev_callV (ci := 6) (b := 45) (M' := it_m_X6_unwinds) (d' := 2) (As := [.int 7]) d_X6_eRead_67 ml_IcedTooSoonModel_141 hm.1.1 hm.1.2.1 ⟨_, rfl, rfl⟩ rfl rfl (Nat.le_of_ble_eq_true rfl) (by decide) (by decide) (by decide) (L_X6_unwinds hm (it_ok_b h)) (fun _ _ _ _ q => by cases q.1; rfl) ?_
            rintro _ _ S60 ⟨rfl, rfl, h⟩
            show it_Ev g l 4 it_m_X6_eRead 0 0 70 [some (.ref 45), some (.int v1), some (.int v2), none] [] κ S60 (it_pi κ P)
            refine ev_iconst d_X6_eRead_70 kv_iconst_0 ?_
            refine ev_istore_n d_X6_eRead_71 (by decide) ?_
            show it_Ev g l 4 it_m_X6_eRead 0 0 72 [some (.ref 45), some (.int 0), some (.int v2), none] [] κ S60 (it_pi κ P)
            refine ev_goto (tgt := 14) d_X6_eRead_72 (by decide) ?_
            refine ev_keep [true, true, true, false] ?_
            exact ih14 _ _ _ h
set_option maxHeartbeats 4000000 in
set_option maxRecDepth 100000 in
theorem L_X6_eRead {g : it_G} {l : Launch} {κ : it_KK} (hm : it_wm κ) {S : it_SS} {P : Int32 → it_SS → Prop} (h : it_ok (f_X6_eRead κ  S) P) : it_Cn g l 4 it_m_X6_eRead [.ref 45] κ S (it_pi κ P) := by
  refine it_Cn.of (by decide +kernel) (Nat.le_of_ble_eq_true rfl) ?_
  rw [f_X6_eRead] at h
  show it_Ev g l 4 it_m_X6_eRead 0 0 0 [some (.ref 45), none, none, none] [] κ S (it_pi κ P)
  refine ev_aload_n d_X6_eRead_0 rfl ?_
  refine ev_iconst d_X6_eRead_1 kv_iconst_0 ?_
  refine ev_putI d_X6_eRead_2 (by decide) fl_IcedTooSoonModel_124 fw_6_25 hm.1 rfl ?_
  refine ev_aload_n d_X6_eRead_5 rfl ?_
  refine ev_iconst d_X6_eRead_6 kv_iconst_0 ?_
  refine ev_putI d_X6_eRead_7 (by decide) fl_IcedTooSoonModel_131 fw_6_26 hm.1 rfl ?_
  refine ev_iconst d_X6_eRead_10 kv_iconst_1 ?_
  refine ev_istore_n d_X6_eRead_11 (by decide) ?_
  show it_Ev g l 4 it_m_X6_eRead 0 0 12 [some (.ref 45), some (.int 1), none, none] [] κ (it_up (it_up S 45 25 0) 45 26 0) (it_pi κ P)
  refine ev_iconst d_X6_eRead_12 kv_iconst_1 ?_
  refine ev_istore_n d_X6_eRead_13 (by decide) ?_
  show it_Ev g l 4 it_m_X6_eRead 0 0 14 [some (.ref 45), some (.int 1), some (.int 1), none] [] κ (it_up (it_up S 45 25 0) 45 26 0) (it_pi κ P)
  refine ev_keep [true, true, true, false] ?_
  exact Llp_X6_eRead_14 hm _ _ _ _ h
theorem d_X6_text_0 : decode prog_8_method_23_code 0 = .ok (.aload_n 0, 1) := by decide +kernel
theorem d_X6_text_1 : decode prog_8_method_23_code 1 = .ok (.getfield 96, 3) := by decide +kernel
theorem d_X6_text_4 : decode prog_8_method_23_code 4 = .ok (.bipush 6, 2) := by decide +kernel
theorem d_X6_text_6 : decode prog_8_method_23_code 6 = .ok (.if_icmp .ne 6, 3) := by decide +kernel
theorem d_X6_text_9 : decode prog_8_method_23_code 9 = .ok (.bipush (-4), 2) := by decide +kernel
theorem d_X6_text_11 : decode prog_8_method_23_code 11 = .ok (.ireturn, 1) := by decide +kernel
theorem d_X6_text_12 : decode prog_8_method_23_code 12 = .ok (.aload_n 0, 1) := by decide +kernel
theorem d_X6_text_13 : decode prog_8_method_23_code 13 = .ok (.iconst 0, 1) := by decide +kernel
theorem d_X6_text_14 : decode prog_8_method_23_code 14 = .ok (.putfield 105, 3) := by decide +kernel
theorem d_X6_text_17 : decode prog_8_method_23_code 17 = .ok (.aload_n 0, 1) := by decide +kernel
theorem d_X6_text_18 : decode prog_8_method_23_code 18 = .ok (.iconst 0, 1) := by decide +kernel
theorem d_X6_text_19 : decode prog_8_method_23_code 19 = .ok (.putfield 121, 3) := by decide +kernel
theorem d_X6_text_22 : decode prog_8_method_23_code 22 = .ok (.iconst 1, 1) := by decide +kernel
theorem d_X6_text_23 : decode prog_8_method_23_code 23 = .ok (.istore_n 1, 1) := by decide +kernel
theorem d_X6_text_24 : decode prog_8_method_23_code 24 = .ok (.iconst 0, 1) := by decide +kernel
theorem d_X6_text_25 : decode prog_8_method_23_code 25 = .ok (.istore_n 2, 1) := by decide +kernel
theorem d_X6_text_26 : decode prog_8_method_23_code 26 = .ok (.iload_n 2, 1) := by decide +kernel
theorem d_X6_text_27 : decode prog_8_method_23_code 27 = .ok (.iconst 3, 1) := by decide +kernel
theorem d_X6_text_28 : decode prog_8_method_23_code 28 = .ok (.if_icmp .ge 73, 3) := by decide +kernel
theorem d_X6_text_31 : decode prog_8_method_23_code 31 = .ok (.iload_n 1, 1) := by decide +kernel
theorem d_X6_text_32 : decode prog_8_method_23_code 32 = .ok (.ifCond .eq 69, 3) := by decide +kernel
theorem d_X6_text_35 : decode prog_8_method_23_code 35 = .ok (.aload_n 0, 1) := by decide +kernel
theorem d_X6_text_36 : decode prog_8_method_23_code 36 = .ok (.invokevirtual 144, 3) := by decide +kernel
theorem d_X6_text_39 : decode prog_8_method_23_code 39 = .ok (.aload_n 0, 1) := by decide +kernel
theorem d_X6_text_40 : decode prog_8_method_23_code 40 = .ok (.getfield 111, 3) := by decide +kernel
theorem d_X6_text_43 : decode prog_8_method_23_code 43 = .ok (.iconst 3, 1) := by decide +kernel
theorem d_X6_text_44 : decode prog_8_method_23_code 44 = .ok (.if_icmp .ne 15, 3) := by decide +kernel
theorem d_X6_text_47 : decode prog_8_method_23_code 47 = .ok (.aload_n 0, 1) := by decide +kernel
theorem d_X6_text_48 : decode prog_8_method_23_code 48 = .ok (.getfield 114, 3) := by decide +kernel
theorem d_X6_text_51 : decode prog_8_method_23_code 51 = .ok (.iload_n 2, 1) := by decide +kernel
theorem d_X6_text_52 : decode prog_8_method_23_code 52 = .ok (.if_icmp .ne 7, 3) := by decide +kernel
theorem d_X6_text_55 : decode prog_8_method_23_code 55 = .ok (.iconst 1, 1) := by decide +kernel
theorem d_X6_text_56 : decode prog_8_method_23_code 56 = .ok (.goto 4, 3) := by decide +kernel
theorem d_X6_text_59 : decode prog_8_method_23_code 59 = .ok (.iconst 0, 1) := by decide +kernel
theorem d_X6_text_60 : decode prog_8_method_23_code 60 = .ok (.istore_n 1, 1) := by decide +kernel
theorem d_X6_text_61 : decode prog_8_method_23_code 61 = .ok (.aload_n 0, 1) := by decide +kernel
theorem d_X6_text_62 : decode prog_8_method_23_code 62 = .ok (.getfield 28, 3) := by decide +kernel
theorem d_X6_text_65 : decode prog_8_method_23_code 65 = .ok (.iconst 4, 1) := by decide +kernel
theorem d_X6_text_66 : decode prog_8_method_23_code 66 = .ok (.aload_n 0, 1) := by decide +kernel
theorem d_X6_text_67 : decode prog_8_method_23_code 67 = .ok (.getfield 96, 3) := by decide +kernel
theorem d_X6_text_70 : decode prog_8_method_23_code 70 = .ok (.imul, 1) := by decide +kernel
theorem d_X6_text_71 : decode prog_8_method_23_code 71 = .ok (.iload_n 2, 1) := by decide +kernel
theorem d_X6_text_72 : decode prog_8_method_23_code 72 = .ok (.iadd, 1) := by decide +kernel
theorem d_X6_text_73 : decode prog_8_method_23_code 73 = .ok (.aload_n 0, 1) := by decide +kernel
theorem d_X6_text_74 : decode prog_8_method_23_code 74 = .ok (.getfield 121, 3) := by decide +kernel
theorem d_X6_text_77 : decode prog_8_method_23_code 77 = .ok (.iastore, 1) := by decide +kernel
theorem d_X6_text_78 : decode prog_8_method_23_code 78 = .ok (.iload_n 1, 1) := by decide +kernel
theorem d_X6_text_79 : decode prog_8_method_23_code 79 = .ok (.ifCond .eq 14, 3) := by decide +kernel
theorem d_X6_text_82 : decode prog_8_method_23_code 82 = .ok (.aload_n 0, 1) := by decide +kernel
theorem d_X6_text_83 : decode prog_8_method_23_code 83 = .ok (.invokevirtual 157, 3) := by decide +kernel
theorem d_X6_text_86 : decode prog_8_method_23_code 86 = .ok (.ifCond .eq 7, 3) := by decide +kernel
theorem d_X6_text_89 : decode prog_8_method_23_code 89 = .ok (.iconst 1, 1) := by decide +kernel
theorem d_X6_text_90 : decode prog_8_method_23_code 90 = .ok (.goto 4, 3) := by decide +kernel
theorem d_X6_text_93 : decode prog_8_method_23_code 93 = .ok (.iconst 0, 1) := by decide +kernel
theorem d_X6_text_94 : decode prog_8_method_23_code 94 = .ok (.istore_n 1, 1) := by decide +kernel
theorem d_X6_text_95 : decode prog_8_method_23_code 95 = .ok (.iinc 2 1, 3) := by decide +kernel
theorem d_X6_text_98 : decode prog_8_method_23_code 98 = .ok (.goto (-72), 3) := by decide +kernel
theorem d_X6_text_101 : decode prog_8_method_23_code 101 = .ok (.iload_n 1, 1) := by decide +kernel
theorem d_X6_text_102 : decode prog_8_method_23_code 102 = .ok (.ifCond .eq 20, 3) := by decide +kernel
theorem d_X6_text_105 : decode prog_8_method_23_code 105 = .ok (.aload_n 0, 1) := by decide +kernel
theorem d_X6_text_106 : decode prog_8_method_23_code 106 = .ok (.invokevirtual 144, 3) := by decide +kernel
theorem d_X6_text_109 : decode prog_8_method_23_code 109 = .ok (.aload_n 0, 1) := by decide +kernel
theorem d_X6_text_110 : decode prog_8_method_23_code 110 = .ok (.getfield 111, 3) := by decide +kernel
theorem d_X6_text_113 : decode prog_8_method_23_code 113 = .ok (.ifCond .ne 7, 3) := by decide +kernel
theorem d_X6_text_116 : decode prog_8_method_23_code 116 = .ok (.iconst 1, 1) := by decide +kernel
theorem d_X6_text_117 : decode prog_8_method_23_code 117 = .ok (.goto 4, 3) := by decide +kernel
theorem d_X6_text_120 : decode prog_8_method_23_code 120 = .ok (.iconst 0, 1) := by decide +kernel
theorem d_X6_text_121 : decode prog_8_method_23_code 121 = .ok (.istore_n 1, 1) := by decide +kernel
theorem d_X6_text_122 : decode prog_8_method_23_code 122 = .ok (.aload_n 0, 1) := by decide +kernel
theorem d_X6_text_123 : decode prog_8_method_23_code 123 = .ok (.getfield 28, 3) := by decide +kernel
theorem d_X6_text_126 : decode prog_8_method_23_code 126 = .ok (.iconst 4, 1) := by decide +kernel
theorem d_X6_text_127 : decode prog_8_method_23_code 127 = .ok (.aload_n 0, 1) := by decide +kernel
theorem d_X6_text_128 : decode prog_8_method_23_code 128 = .ok (.getfield 96, 3) := by decide +kernel
theorem d_X6_text_131 : decode prog_8_method_23_code 131 = .ok (.imul, 1) := by decide +kernel
theorem d_X6_text_132 : decode prog_8_method_23_code 132 = .ok (.iconst 3, 1) := by decide +kernel
theorem d_X6_text_133 : decode prog_8_method_23_code 133 = .ok (.iadd, 1) := by decide +kernel
theorem d_X6_text_134 : decode prog_8_method_23_code 134 = .ok (.aload_n 0, 1) := by decide +kernel
theorem d_X6_text_135 : decode prog_8_method_23_code 135 = .ok (.getfield 121, 3) := by decide +kernel
theorem d_X6_text_138 : decode prog_8_method_23_code 138 = .ok (.iastore, 1) := by decide +kernel
theorem d_X6_text_139 : decode prog_8_method_23_code 139 = .ok (.aload_n 0, 1) := by decide +kernel
theorem d_X6_text_140 : decode prog_8_method_23_code 140 = .ok (.iconst 0, 1) := by decide +kernel
theorem d_X6_text_141 : decode prog_8_method_23_code 141 = .ok (.putfield 67, 3) := by decide +kernel
theorem d_X6_text_144 : decode prog_8_method_23_code 144 = .ok (.iload_n 1, 1) := by decide +kernel
theorem d_X6_text_145 : decode prog_8_method_23_code 145 = .ok (.ifCond .ne 11, 3) := by decide +kernel
theorem d_X6_text_148 : decode prog_8_method_23_code 148 = .ok (.bipush (-100), 2) := by decide +kernel
theorem d_X6_text_150 : decode prog_8_method_23_code 150 = .ok (.aload_n 0, 1) := by decide +kernel
theorem d_X6_text_151 : decode prog_8_method_23_code 151 = .ok (.getfield 108, 3) := by decide +kernel
theorem d_X6_text_154 : decode prog_8_method_23_code 154 = .ok (.isub, 1) := by decide +kernel
theorem d_X6_text_155 : decode prog_8_method_23_code 155 = .ok (.ireturn, 1) := by decide +kernel
theorem d_X6_text_156 : decode prog_8_method_23_code 156 = .ok (.aload_n 0, 1) := by decide +kernel
theorem d_X6_text_157 : decode prog_8_method_23_code 157 = .ok (.dup, 1) := by decide +kernel
theorem d_X6_text_158 : decode prog_8_method_23_code 158 = .ok (.getfield 96, 3) := by decide +kernel
theorem d_X6_text_161 : decode prog_8_method_23_code 161 = .ok (.iconst 1, 1) := by decide +kernel
theorem d_X6_text_162 : decode prog_8_method_23_code 162 = .ok (.iadd, 1) := by decide +kernel
theorem d_X6_text_163 : decode prog_8_method_23_code 163 = .ok (.putfield 96, 3) := by decide +kernel
theorem d_X6_text_166 : decode prog_8_method_23_code 166 = .ok (.aload_n 0, 1) := by decide +kernel
theorem d_X6_text_167 : decode prog_8_method_23_code 167 = .ok (.getfield 96, 3) := by decide +kernel
theorem d_X6_text_170 : decode prog_8_method_23_code 170 = .ok (.iconst 1, 1) := by decide +kernel
theorem d_X6_text_171 : decode prog_8_method_23_code 171 = .ok (.isub, 1) := by decide +kernel
theorem d_X6_text_172 : decode prog_8_method_23_code 172 = .ok (.ireturn, 1) := by decide +kernel
def lp_X6_text_26 (κ : it_KK)  (k26 : (Int32 → it_SS → Option (Int32 × it_SS))) : Nat → Int32 → Int32 → it_SS → Option (Int32 × it_SS)
  | 0, _, _, _ => none
  | n26 + 1, v1, v2, S => if 3 ≤ v2 then
k26 v1 S
else
if v1 = 0 then
k26 v1 S
else
it_bi (f_X6_next κ  S) (fun _ S4 =>
if (S4 45 21) = 3 then
if (S4 45 22) = v2 then
if it_bd ((4 * (S4 45 10)) + v2) 24 = true then
it_bi (f_X6_eRead κ  (it_up S4 52 (((4 * (S4 45 10)) + v2) : Int32).toNatClampNeg (S4 45 27))) (fun r12 S11 =>
if r12 = 0 then
lp_X6_text_26 κ  k26 n26 0 (v2 + 1) S11
else
lp_X6_text_26 κ  k26 n26 1 (v2 + 1) S11)
else none
else
if it_bd ((4 * (S4 45 10)) + v2) 24 = true then
lp_X6_text_26 κ  k26 n26 0 (v2 + 1) (it_up S4 52 (((4 * (S4 45 10)) + v2) : Int32).toNatClampNeg (S4 45 27))
else none
else
if it_bd ((4 * (S4 45 10)) + v2) 24 = true then
lp_X6_text_26 κ  k26 n26 0 (v2 + 1) (it_up S4 52 (((4 * (S4 45 10)) + v2) : Int32).toNatClampNeg (S4 45 27))
else none)
def f_X6_text (κ : it_KK)  (S : it_SS) : Option (Int32 × it_SS) :=
if (S 45 10) = 6 then
some ((-4), S)
else
lp_X6_text_26 κ  (fun v14 S15 =>
if v14 = 0 then
if it_bd ((4 * (S15 45 10)) + 3) 24 = true then
if v14 = 0 then
some (((-100) - ((it_up (it_up S15 52 (((4 * (S15 45 10)) + 3) : Int32).toNatClampNeg (S15 45 27)) 45 7 0) 45 20)), it_up (it_up S15 52 (((4 * (S15 45 10)) + 3) : Int32).toNatClampNeg (S15 45 27)) 45 7 0)
else
some ((((it_up (it_up (it_up S15 52 (((4 * (S15 45 10)) + 3) : Int32).toNatClampNeg (S15 45 27)) 45 7 0) 45 10 (((it_up (it_up S15 52 (((4 * (S15 45 10)) + 3) : Int32).toNatClampNeg (S15 45 27)) 45 7 0) 45 10) + 1)) 45 10) - 1), it_up (it_up (it_up S15 52 (((4 * (S15 45 10)) + 3) : Int32).toNatClampNeg (S15 45 27)) 45 7 0) 45 10 (((it_up (it_up S15 52 (((4 * (S15 45 10)) + 3) : Int32).toNatClampNeg (S15 45 27)) 45 7 0) 45 10) + 1))
else none
else
it_bi (f_X6_next κ  S15) (fun _ S19 =>
if (S19 45 21) = 0 then
if it_bd ((4 * (S19 45 10)) + 3) 24 = true then
some ((((it_up (it_up (it_up S19 52 (((4 * (S19 45 10)) + 3) : Int32).toNatClampNeg (S19 45 27)) 45 7 0) 45 10 (((it_up (it_up S19 52 (((4 * (S19 45 10)) + 3) : Int32).toNatClampNeg (S19 45 27)) 45 7 0) 45 10) + 1)) 45 10) - 1), it_up (it_up (it_up S19 52 (((4 * (S19 45 10)) + 3) : Int32).toNatClampNeg (S19 45 27)) 45 7 0) 45 10 (((it_up (it_up S19 52 (((4 * (S19 45 10)) + 3) : Int32).toNatClampNeg (S19 45 27)) 45 7 0) 45 10) + 1))
else none
else
if it_bd ((4 * (S19 45 10)) + 3) 24 = true then
some (((-100) - ((it_up (it_up S19 52 (((4 * (S19 45 10)) + 3) : Int32).toNatClampNeg (S19 45 27)) 45 7 0) 45 20)), it_up (it_up S19 52 (((4 * (S19 45 10)) + 3) : Int32).toNatClampNeg (S19 45 27)) 45 7 0)
else none)) it_FU 1 0 (it_up (it_up S 45 19 0) 45 27 0)
set_option maxHeartbeats 4000000 in
set_option maxRecDepth 100000 in
theorem Llp_X6_text_26 {g : it_G} {l : Launch} {κ : it_KK} (hm : it_wm κ) {P : Int32 → it_SS → Prop} {k26 : (Int32 → it_SS → Option (Int32 × it_SS))} (hk26 : ∀ (v1 : Int32) (S : it_SS), it_ok (k26 v1 S) P → it_Ev g l 5 it_m_X6_text 0 0 101 [some (.ref 45), some (.int v1), none] [] κ S (it_pi κ P)) : ∀ (n : Nat) (v1 : Int32) (v2 : Int32) (S : it_SS), it_ok (lp_X6_text_26 κ  k26 n v1 v2 S) P → it_Ev g l 5 it_m_X6_text 0 0 26 [some (.ref 45), some (.int v1), some (.int v2)] [] κ S (it_pi κ P) := by
  intro n
  induction n with
  | zero =>
    intro _ _ _ h
    exact (it_ok_n h).elim
  | succ n26 ih26 =>
    intro v1 v2 S h
    rw [lp_X6_text_26] at h
    refine ev_iload_n d_X6_text_26 rfl ?_
    refine ev_iconst d_X6_text_27 kv_iconst_3 ?_
    refine ev_icmp_ge (tgt := 101) d_X6_text_28 (by decide) (fun hc2 => ?_) (fun hc2 => ?_)
    · have h := it_ok_t h hc2
      refine ev_keep [true, true, false] ?_
      exact hk26 _ _ h
    · have h := it_ok_f h hc2
      refine ev_iload_n d_X6_text_31 rfl ?_
      refine ev_if_eq (tgt := 101) d_X6_text_32 (by decide) (fun hc3 => ?_) (fun hc3 => ?_)
      · have h := it_ok_t h hc3
        refine ev_keep [true, true, false] ?_
        exact hk26 _ _ h
      · have h := it_ok_f h hc3
        refine ev_aload_n d_X6_text_35 rfl ?_
        refine ev_callV (ci := 6) (b := 45) (M' := it_m_X6_next) (d' := 2) (As := []) d_X6_text_36 ml_IcedTooSoonModel_144 hm.1.1 hm.1.2.1 ⟨_, rfl, rfl⟩ rfl rfl (Nat.le_of_ble_eq_true rfl) (by decide) (by decide) (by decide) (L_X6_next hm (it_ok_b h)) (fun _ _ _ _ q => by cases q.1; rfl) ?_
        rintro _ _ S4 ⟨rfl, rfl, h⟩
        show it_Ev g l 5 it_m_X6_text 0 0 39 [some (.ref 45), some (.int v1), some (.int v2)] [] κ S4 (it_pi κ P)
        refine ev_aload_n d_X6_text_39 rfl ?_
        refine ev_getI d_X6_text_40 fl_IcedTooSoonModel_111 hm.1 rfl ?_
        refine ev_iconst d_X6_text_43 kv_iconst_3 ?_
        refine ev_icmp_ne (tgt := 59) d_X6_text_44 (by decide) (fun hc6 => ?_) (fun hc6 => ?_)
        · have h := it_ok_f h hc6
          refine ev_iconst d_X6_text_59 kv_iconst_0 ?_
          refine ev_istore_n d_X6_text_60 (by decide) ?_
          show it_Ev g l 5 it_m_X6_text 0 0 61 [some (.ref 45), some (.int 0), some (.int v2)] [] κ S4 (it_pi κ P)
          refine ev_aload_n d_X6_text_61 rfl ?_
          refine ev_getRr (r := 52) rfl d_X6_text_62 fl_IcedTooSoonModel_28 hm.1 rfl ?_
          refine ev_iconst d_X6_text_65 kv_iconst_4 ?_
          refine ev_aload_n d_X6_text_66 rfl ?_
          refine ev_getI d_X6_text_67 fl_IcedTooSoonModel_96 hm.1 rfl ?_
          refine ev_imul d_X6_text_70 ?_
          refine ev_iload_n d_X6_text_71 rfl ?_
          refine ev_iadd d_X6_text_72 ?_
          refine ev_aload_n d_X6_text_73 rfl ?_
          refine ev_getI d_X6_text_74 fl_IcedTooSoonModel_121 hm.1 rfl ?_
          obtain ⟨hb7, h⟩ := it_ok_g h
          refine ev_iast d_X6_text_77 (by decide) (hm).2.2.2.2.2.2.2.1 (it_bd_in hb7) ?_
          refine ev_iload_n d_X6_text_78 rfl ?_
          refine ev_if_eq (tgt := 93) d_X6_text_79 (by decide) (fun _ => ?_) (fun hc => absurd (by decide) hc)
          refine ev_iconst d_X6_text_93 kv_iconst_0 ?_
          refine ev_istore_n d_X6_text_94 (by decide) ?_
          show it_Ev g l 5 it_m_X6_text 0 0 95 [some (.ref 45), some (.int 0), some (.int v2)] [] κ (it_up S4 52 (((4 * (S4 45 10)) + v2) : Int32).toNatClampNeg (S4 45 27)) (it_pi κ P)
          refine ev_iinc d_X6_text_95 kv_iconst_1 rfl (by decide) ?_
          show it_Ev g l 5 it_m_X6_text 0 0 98 [some (.ref 45), some (.int 0), some (.int (v2 + 1))] [] κ (it_up S4 52 (((4 * (S4 45 10)) + v2) : Int32).toNatClampNeg (S4 45 27)) (it_pi κ P)
          refine ev_goto (tgt := 26) d_X6_text_98 (by decide) ?_
          refine ev_keep [true, true, true] ?_
          exact ih26 _ _ _ h
        · have h := it_ok_t h hc6
          refine ev_aload_n d_X6_text_47 rfl ?_
          refine ev_getI d_X6_text_48 fl_IcedTooSoonModel_114 hm.1 rfl ?_
          refine ev_iload_n d_X6_text_51 rfl ?_
          refine ev_icmp_ne (tgt := 59) d_X6_text_52 (by decide) (fun hc8 => ?_) (fun hc8 => ?_)
          · have h := it_ok_f h hc8
            refine ev_iconst d_X6_text_59 kv_iconst_0 ?_
            refine ev_istore_n d_X6_text_60 (by decide) ?_
            show it_Ev g l 5 it_m_X6_text 0 0 61 [some (.ref 45), some (.int 0), some (.int v2)] [] κ S4 (it_pi κ P)
            refine ev_aload_n d_X6_text_61 rfl ?_
            refine ev_getRr (r := 52) rfl d_X6_text_62 fl_IcedTooSoonModel_28 hm.1 rfl ?_
            refine ev_iconst d_X6_text_65 kv_iconst_4 ?_
            refine ev_aload_n d_X6_text_66 rfl ?_
            refine ev_getI d_X6_text_67 fl_IcedTooSoonModel_96 hm.1 rfl ?_
            refine ev_imul d_X6_text_70 ?_
            refine ev_iload_n d_X6_text_71 rfl ?_
            refine ev_iadd d_X6_text_72 ?_
            refine ev_aload_n d_X6_text_73 rfl ?_
            refine ev_getI d_X6_text_74 fl_IcedTooSoonModel_121 hm.1 rfl ?_
            obtain ⟨hb9, h⟩ := it_ok_g h
            refine ev_iast d_X6_text_77 (by decide) (hm).2.2.2.2.2.2.2.1 (it_bd_in hb9) ?_
            refine ev_iload_n d_X6_text_78 rfl ?_
            refine ev_if_eq (tgt := 93) d_X6_text_79 (by decide) (fun _ => ?_) (fun hc => absurd (by decide) hc)
            refine ev_iconst d_X6_text_93 kv_iconst_0 ?_
            refine ev_istore_n d_X6_text_94 (by decide) ?_
            show it_Ev g l 5 it_m_X6_text 0 0 95 [some (.ref 45), some (.int 0), some (.int v2)] [] κ (it_up S4 52 (((4 * (S4 45 10)) + v2) : Int32).toNatClampNeg (S4 45 27)) (it_pi κ P)
            refine ev_iinc d_X6_text_95 kv_iconst_1 rfl (by decide) ?_
            show it_Ev g l 5 it_m_X6_text 0 0 98 [some (.ref 45), some (.int 0), some (.int (v2 + 1))] [] κ (it_up S4 52 (((4 * (S4 45 10)) + v2) : Int32).toNatClampNeg (S4 45 27)) (it_pi κ P)
            refine ev_goto (tgt := 26) d_X6_text_98 (by decide) ?_
            refine ev_keep [true, true, true] ?_
            exact ih26 _ _ _ h
          · have h := it_ok_t h hc8
            refine ev_iconst d_X6_text_55 kv_iconst_1 ?_
            refine ev_goto (tgt := 60) d_X6_text_56 (by decide) ?_
            refine ev_istore_n d_X6_text_60 (by decide) ?_
            show it_Ev g l 5 it_m_X6_text 0 0 61 [some (.ref 45), some (.int 1), some (.int v2)] [] κ S4 (it_pi κ P)
            refine ev_aload_n d_X6_text_61 rfl ?_
            refine ev_getRr (r := 52) rfl d_X6_text_62 fl_IcedTooSoonModel_28 hm.1 rfl ?_
            refine ev_iconst d_X6_text_65 kv_iconst_4 ?_
            refine ev_aload_n d_X6_text_66 rfl ?_
            refine ev_getI d_X6_text_67 fl_IcedTooSoonModel_96 hm.1 rfl ?_
            refine ev_imul d_X6_text_70 ?_
            refine ev_iload_n d_X6_text_71 rfl ?_
            refine ev_iadd d_X6_text_72 ?_
            refine ev_aload_n d_X6_text_73 rfl ?_
            refine ev_getI d_X6_text_74 fl_IcedTooSoonModel_121 hm.1 rfl ?_
            obtain ⟨hb10, h⟩ := it_ok_g h
            refine ev_iast d_X6_text_77 (by decide) (hm).2.2.2.2.2.2.2.1 (it_bd_in hb10) ?_
            refine ev_iload_n d_X6_text_78 rfl ?_
            refine ev_if_eq (tgt := 93) d_X6_text_79 (by decide) (fun hc => absurd hc (by decide)) (fun _ => ?_)
            refine ev_aload_n d_X6_text_82 rfl ?_
            refine ev_callV (ci := 6) (b := 45) (M' := it_m_X6_eRead) (d' := 4) (As := []) d_X6_text_83 ml_IcedTooSoonModel_157 hm.1.1 hm.1.2.1 ⟨_, rfl, rfl⟩ rfl rfl (Nat.le_of_ble_eq_true rfl) (by decide) (by decide) (by decide) (L_X6_eRead hm (it_ok_b h)) (fun _ _ _ _ q => by cases q.1; rfl) ?_
            rintro _ _ S11 ⟨rfl, r12, rfl, h⟩
            show it_Ev g l 5 it_m_X6_text 0 0 86 [some (.ref 45), some (.int 1), some (.int v2)] [.int r12] κ S11 (it_pi κ P)
            refine ev_if_eq (tgt := 93) d_X6_text_86 (by decide) (fun hc13 => ?_) (fun hc13 => ?_)
            · have h := it_ok_t h hc13
              refine ev_iconst d_X6_text_93 kv_iconst_0 ?_
              refine ev_istore_n d_X6_text_94 (by decide) ?_
              show it_Ev g l 5 it_m_X6_text 0 0 95 [some (.ref 45), some (.int 0), some (.int v2)] [] κ S11 (it_pi κ P)
              refine ev_iinc d_X6_text_95 kv_iconst_1 rfl (by decide) ?_
              show it_Ev g l 5 it_m_X6_text 0 0 98 [some (.ref 45), some (.int 0), some (.int (v2 + 1))] [] κ S11 (it_pi κ P)
              refine ev_goto (tgt := 26) d_X6_text_98 (by decide) ?_
              refine ev_keep [true, true, true] ?_
              exact ih26 _ _ _ h
            · have h := it_ok_f h hc13
              refine ev_iconst d_X6_text_89 kv_iconst_1 ?_
              refine ev_goto (tgt := 94) d_X6_text_90 (by decide) ?_
              refine ev_istore_n d_X6_text_94 (by decide) ?_
              show it_Ev g l 5 it_m_X6_text 0 0 95 [some (.ref 45), some (.int 1), some (.int v2)] [] κ S11 (it_pi κ P)
              refine ev_iinc d_X6_text_95 kv_iconst_1 rfl (by decide) ?_
              show it_Ev g l 5 it_m_X6_text 0 0 98 [some (.ref 45), some (.int 1), some (.int (v2 + 1))] [] κ S11 (it_pi κ P)
              refine ev_goto (tgt := 26) d_X6_text_98 (by decide) ?_
              refine ev_keep [true, true, true] ?_
              exact ih26 _ _ _ h
set_option maxHeartbeats 4000000 in
set_option maxRecDepth 100000 in
theorem L_X6_text {g : it_G} {l : Launch} {κ : it_KK} (hm : it_wm κ) {S : it_SS} {P : Int32 → it_SS → Prop} (h : it_ok (f_X6_text κ  S) P) : it_Cn g l 5 it_m_X6_text [.ref 45] κ S (it_pi κ P) := by
  refine it_Cn.of (by decide +kernel) (Nat.le_of_ble_eq_true rfl) ?_
  rw [f_X6_text] at h
  show it_Ev g l 5 it_m_X6_text 0 0 0 [some (.ref 45), none, none] [] κ S (it_pi κ P)
  refine ev_aload_n d_X6_text_0 rfl ?_
  refine ev_getI d_X6_text_1 fl_IcedTooSoonModel_96 hm.1 rfl ?_
  refine ev_bipush d_X6_text_4 kv_bipush_6 ?_
  refine ev_icmp_ne (tgt := 12) d_X6_text_6 (by decide) (fun hc1 => ?_) (fun hc1 => ?_)
  · have h := it_ok_f h hc1
    refine ev_aload_n d_X6_text_12 rfl ?_
    refine ev_iconst d_X6_text_13 kv_iconst_0 ?_
    refine ev_putI d_X6_text_14 (by decide) fl_IcedTooSoonModel_105 fw_6_19 hm.1 rfl ?_
    refine ev_aload_n d_X6_text_17 rfl ?_
    refine ev_iconst d_X6_text_18 kv_iconst_0 ?_
    refine ev_putI d_X6_text_19 (by decide) fl_IcedTooSoonModel_121 fw_6_27 hm.1 rfl ?_
    refine ev_iconst d_X6_text_22 kv_iconst_1 ?_
    refine ev_istore_n d_X6_text_23 (by decide) ?_
    show it_Ev g l 5 it_m_X6_text 0 0 24 [some (.ref 45), some (.int 1), none] [] κ (it_up (it_up S 45 19 0) 45 27 0) (it_pi κ P)
    refine ev_iconst d_X6_text_24 kv_iconst_0 ?_
    refine ev_istore_n d_X6_text_25 (by decide) ?_
    show it_Ev g l 5 it_m_X6_text 0 0 26 [some (.ref 45), some (.int 1), some (.int 0)] [] κ (it_up (it_up S 45 19 0) 45 27 0) (it_pi κ P)
    refine ev_keep [true, true, true] ?_
    refine Llp_X6_text_26 hm (fun v14 S15 h => ?_) _ _ _ _ h
    show it_Ev g l 5 it_m_X6_text 0 0 101 [some (.ref 45), some (.int v14), none] [] κ S15 (it_pi κ P)
    refine ev_iload_n d_X6_text_101 rfl ?_
    refine ev_if_eq (tgt := 122) d_X6_text_102 (by decide) (fun hc16 => ?_) (fun hc16 => ?_)
    · have h := it_ok_t h hc16
      refine ev_aload_n d_X6_text_122 rfl ?_
      refine ev_getRr (r := 52) rfl d_X6_text_123 fl_IcedTooSoonModel_28 hm.1 rfl ?_
      refine ev_iconst d_X6_text_126 kv_iconst_4 ?_
      refine ev_aload_n d_X6_text_127 rfl ?_
      refine ev_getI d_X6_text_128 fl_IcedTooSoonModel_96 hm.1 rfl ?_
      refine ev_imul d_X6_text_131 ?_
      refine ev_iconst d_X6_text_132 kv_iconst_3 ?_
      refine ev_iadd d_X6_text_133 ?_
      refine ev_aload_n d_X6_text_134 rfl ?_
      refine ev_getI d_X6_text_135 fl_IcedTooSoonModel_121 hm.1 rfl ?_
      obtain ⟨hb17, h⟩ := it_ok_g h
      refine ev_iast d_X6_text_138 (by decide) (hm).2.2.2.2.2.2.2.1 (it_bd_in hb17) ?_
      refine ev_aload_n d_X6_text_139 rfl ?_
      refine ev_iconst d_X6_text_140 kv_iconst_0 ?_
      refine ev_putI d_X6_text_141 (by decide) fl_IcedTooSoonModel_67 fw_6_7 hm.1 rfl ?_
      refine ev_iload_n d_X6_text_144 rfl ?_
      refine ev_if_ne (tgt := 156) d_X6_text_145 (by decide) (fun hc18 => ?_) (fun hc18 => ?_)
      · have h := it_ok_f h hc18
        refine ev_aload_n d_X6_text_156 rfl ?_
        refine ev_dup d_X6_text_157 rfl ?_
        refine ev_getI d_X6_text_158 fl_IcedTooSoonModel_96 hm.1 rfl ?_
        refine ev_iconst d_X6_text_161 kv_iconst_1 ?_
        refine ev_iadd d_X6_text_162 ?_
        refine ev_putI d_X6_text_163 (by decide) fl_IcedTooSoonModel_96 fw_6_10 hm.1 rfl ?_
        refine ev_aload_n d_X6_text_166 rfl ?_
        refine ev_getI d_X6_text_167 fl_IcedTooSoonModel_96 hm.1 rfl ?_
        refine ev_iconst d_X6_text_170 kv_iconst_1 ?_
        refine ev_isub d_X6_text_171 ?_
        exact ev_ret (v := some (.int _)) ⟨d_X6_text_172, _, rfl, rfl⟩ (by decide) (by decide) ⟨rfl, _, rfl, it_ok_r h⟩
      · have h := it_ok_t h hc18
        refine ev_bipush d_X6_text_148 kv_bipush_m100 ?_
        refine ev_aload_n d_X6_text_150 rfl ?_
        refine ev_getI d_X6_text_151 fl_IcedTooSoonModel_108 hm.1 rfl ?_
        refine ev_isub d_X6_text_154 ?_
        exact ev_ret (v := some (.int _)) ⟨d_X6_text_155, _, rfl, rfl⟩ (by decide) (by decide) ⟨rfl, _, rfl, it_ok_r h⟩
    · have h := it_ok_f h hc16
      refine ev_aload_n d_X6_text_105 rfl ?_
      refine ev_callV (ci := 6) (b := 45) (M' := it_m_X6_next) (d' := 2) (As := []) d_X6_text_106 ml_IcedTooSoonModel_144 hm.1.1 hm.1.2.1 ⟨_, rfl, rfl⟩ rfl rfl (Nat.le_of_ble_eq_true rfl) (by decide) (by decide) (by decide) (L_X6_next hm (it_ok_b h)) (fun _ _ _ _ q => by cases q.1; rfl) ?_
      rintro _ _ S19 ⟨rfl, rfl, h⟩
      show it_Ev g l 5 it_m_X6_text 0 0 109 [some (.ref 45), some (.int v14), none] [] κ S19 (it_pi κ P)
      refine ev_aload_n d_X6_text_109 rfl ?_
      refine ev_getI d_X6_text_110 fl_IcedTooSoonModel_111 hm.1 rfl ?_
      refine ev_if_ne (tgt := 120) d_X6_text_113 (by decide) (fun hc21 => ?_) (fun hc21 => ?_)
      · have h := it_ok_f h hc21
        refine ev_iconst d_X6_text_120 kv_iconst_0 ?_
        refine ev_istore_n d_X6_text_121 (by decide) ?_
        show it_Ev g l 5 it_m_X6_text 0 0 122 [some (.ref 45), some (.int 0), none] [] κ S19 (it_pi κ P)
        refine ev_aload_n d_X6_text_122 rfl ?_
        refine ev_getRr (r := 52) rfl d_X6_text_123 fl_IcedTooSoonModel_28 hm.1 rfl ?_
        refine ev_iconst d_X6_text_126 kv_iconst_4 ?_
        refine ev_aload_n d_X6_text_127 rfl ?_
        refine ev_getI d_X6_text_128 fl_IcedTooSoonModel_96 hm.1 rfl ?_
        refine ev_imul d_X6_text_131 ?_
        refine ev_iconst d_X6_text_132 kv_iconst_3 ?_
        refine ev_iadd d_X6_text_133 ?_
        refine ev_aload_n d_X6_text_134 rfl ?_
        refine ev_getI d_X6_text_135 fl_IcedTooSoonModel_121 hm.1 rfl ?_
        obtain ⟨hb22, h⟩ := it_ok_g h
        refine ev_iast d_X6_text_138 (by decide) (hm).2.2.2.2.2.2.2.1 (it_bd_in hb22) ?_
        refine ev_aload_n d_X6_text_139 rfl ?_
        refine ev_iconst d_X6_text_140 kv_iconst_0 ?_
        refine ev_putI d_X6_text_141 (by decide) fl_IcedTooSoonModel_67 fw_6_7 hm.1 rfl ?_
        refine ev_iload_n d_X6_text_144 rfl ?_
        refine ev_if_ne (tgt := 156) d_X6_text_145 (by decide) (fun hc => absurd (by decide) hc) (fun _ => ?_)
        refine ev_bipush d_X6_text_148 kv_bipush_m100 ?_
        refine ev_aload_n d_X6_text_150 rfl ?_
        refine ev_getI d_X6_text_151 fl_IcedTooSoonModel_108 hm.1 rfl ?_
        refine ev_isub d_X6_text_154 ?_
        exact ev_ret (v := some (.int _)) ⟨d_X6_text_155, _, rfl, rfl⟩ (by decide) (by decide) ⟨rfl, _, rfl, it_ok_r h⟩
      · have h := it_ok_t h hc21
        refine ev_iconst d_X6_text_116 kv_iconst_1 ?_
        refine ev_goto (tgt := 121) d_X6_text_117 (by decide) ?_
        refine ev_istore_n d_X6_text_121 (by decide) ?_
        show it_Ev g l 5 it_m_X6_text 0 0 122 [some (.ref 45), some (.int 1), none] [] κ S19 (it_pi κ P)
        refine ev_aload_n d_X6_text_122 rfl ?_
        refine ev_getRr (r := 52) rfl d_X6_text_123 fl_IcedTooSoonModel_28 hm.1 rfl ?_
        refine ev_iconst d_X6_text_126 kv_iconst_4 ?_
        refine ev_aload_n d_X6_text_127 rfl ?_
        refine ev_getI d_X6_text_128 fl_IcedTooSoonModel_96 hm.1 rfl ?_
        refine ev_imul d_X6_text_131 ?_
        refine ev_iconst d_X6_text_132 kv_iconst_3 ?_
        refine ev_iadd d_X6_text_133 ?_
        refine ev_aload_n d_X6_text_134 rfl ?_
        refine ev_getI d_X6_text_135 fl_IcedTooSoonModel_121 hm.1 rfl ?_
        obtain ⟨hb23, h⟩ := it_ok_g h
        refine ev_iast d_X6_text_138 (by decide) (hm).2.2.2.2.2.2.2.1 (it_bd_in hb23) ?_
        refine ev_aload_n d_X6_text_139 rfl ?_
        refine ev_iconst d_X6_text_140 kv_iconst_0 ?_
        refine ev_putI d_X6_text_141 (by decide) fl_IcedTooSoonModel_67 fw_6_7 hm.1 rfl ?_
        refine ev_iload_n d_X6_text_144 rfl ?_
        refine ev_if_ne (tgt := 156) d_X6_text_145 (by decide) (fun _ => ?_) (fun hc => absurd hc (by decide))
        refine ev_aload_n d_X6_text_156 rfl ?_
        refine ev_dup d_X6_text_157 rfl ?_
        refine ev_getI d_X6_text_158 fl_IcedTooSoonModel_96 hm.1 rfl ?_
        refine ev_iconst d_X6_text_161 kv_iconst_1 ?_
        refine ev_iadd d_X6_text_162 ?_
        refine ev_putI d_X6_text_163 (by decide) fl_IcedTooSoonModel_96 fw_6_10 hm.1 rfl ?_
        refine ev_aload_n d_X6_text_166 rfl ?_
        refine ev_getI d_X6_text_167 fl_IcedTooSoonModel_96 hm.1 rfl ?_
        refine ev_iconst d_X6_text_170 kv_iconst_1 ?_
        refine ev_isub d_X6_text_171 ?_
        exact ev_ret (v := some (.int _)) ⟨d_X6_text_172, _, rfl, rfl⟩ (by decide) (by decide) ⟨rfl, _, rfl, it_ok_r h⟩
  · have h := it_ok_t h hc1
    refine ev_bipush d_X6_text_9 kv_bipush_m4 ?_
    exact ev_ret (v := some (.int _)) ⟨d_X6_text_11, _, rfl, rfl⟩ (by decide) (by decide) ⟨rfl, _, rfl, it_ok_r h⟩
theorem d_X6_says_0 : decode prog_8_method_25_code 0 = .ok (.iconst 0, 1) := by decide +kernel
theorem d_X6_says_1 : decode prog_8_method_25_code 1 = .ok (.istore_n 2, 1) := by decide +kernel
theorem d_X6_says_2 : decode prog_8_method_25_code 2 = .ok (.aload_n 0, 1) := by decide +kernel
theorem d_X6_says_3 : decode prog_8_method_25_code 3 = .ok (.getfield 28, 3) := by decide +kernel
theorem d_X6_says_6 : decode prog_8_method_25_code 6 = .ok (.iconst 4, 1) := by decide +kernel
theorem d_X6_says_7 : decode prog_8_method_25_code 7 = .ok (.aload_n 0, 1) := by decide +kernel
theorem d_X6_says_8 : decode prog_8_method_25_code 8 = .ok (.getfield 99, 3) := by decide +kernel
theorem d_X6_says_11 : decode prog_8_method_25_code 11 = .ok (.imul, 1) := by decide +kernel
theorem d_X6_says_12 : decode prog_8_method_25_code 12 = .ok (.iload_n 1, 1) := by decide +kernel
theorem d_X6_says_13 : decode prog_8_method_25_code 13 = .ok (.iadd, 1) := by decide +kernel
theorem d_X6_says_14 : decode prog_8_method_25_code 14 = .ok (.iaload, 1) := by decide +kernel
theorem d_X6_says_15 : decode prog_8_method_25_code 15 = .ok (.istore_n 3, 1) := by decide +kernel
theorem d_X6_says_16 : decode prog_8_method_25_code 16 = .ok (.iload_n 3, 1) := by decide +kernel
theorem d_X6_says_17 : decode prog_8_method_25_code 17 = .ok (.aload_n 0, 1) := by decide +kernel
theorem d_X6_says_18 : decode prog_8_method_25_code 18 = .ok (.getfield 28, 3) := by decide +kernel
theorem d_X6_says_21 : decode prog_8_method_25_code 21 = .ok (.iconst 4, 1) := by decide +kernel
theorem d_X6_says_22 : decode prog_8_method_25_code 22 = .ok (.aload_n 0, 1) := by decide +kernel
theorem d_X6_says_23 : decode prog_8_method_25_code 23 = .ok (.getfield 99, 3) := by decide +kernel
theorem d_X6_says_26 : decode prog_8_method_25_code 26 = .ok (.imul, 1) := by decide +kernel
theorem d_X6_says_27 : decode prog_8_method_25_code 27 = .ok (.iload_n 1, 1) := by decide +kernel
theorem d_X6_says_28 : decode prog_8_method_25_code 28 = .ok (.iadd, 1) := by decide +kernel
theorem d_X6_says_29 : decode prog_8_method_25_code 29 = .ok (.iconst 1, 1) := by decide +kernel
theorem d_X6_says_30 : decode prog_8_method_25_code 30 = .ok (.iadd, 1) := by decide +kernel
theorem d_X6_says_31 : decode prog_8_method_25_code 31 = .ok (.iaload, 1) := by decide +kernel
theorem d_X6_says_32 : decode prog_8_method_25_code 32 = .ok (.if_icmp .ge 165, 3) := by decide +kernel
theorem d_X6_says_35 : decode prog_8_method_25_code 35 = .ok (.aload_n 0, 1) := by decide +kernel
theorem d_X6_says_36 : decode prog_8_method_25_code 36 = .ok (.getfield 25, 3) := by decide +kernel
theorem d_X6_says_39 : decode prog_8_method_25_code 39 = .ok (.sipush 200, 3) := by decide +kernel
theorem d_X6_says_42 : decode prog_8_method_25_code 42 = .ok (.aload_n 0, 1) := by decide +kernel
theorem d_X6_says_43 : decode prog_8_method_25_code 43 = .ok (.getfield 99, 3) := by decide +kernel
theorem d_X6_says_46 : decode prog_8_method_25_code 46 = .ok (.imul, 1) := by decide +kernel
theorem d_X6_says_47 : decode prog_8_method_25_code 47 = .ok (.iload_n 3, 1) := by decide +kernel
theorem d_X6_says_48 : decode prog_8_method_25_code 48 = .ok (.iadd, 1) := by decide +kernel
theorem d_X6_says_49 : decode prog_8_method_25_code 49 = .ok (.iaload, 1) := by decide +kernel
theorem d_X6_says_50 : decode prog_8_method_25_code 50 = .ok (.istore 4, 2) := by decide +kernel
theorem d_X6_says_52 : decode prog_8_method_25_code 52 = .ok (.iload 4, 2) := by decide +kernel
theorem d_X6_says_54 : decode prog_8_method_25_code 54 = .ok (.ldc 147, 2) := by decide +kernel
theorem d_X6_says_56 : decode prog_8_method_25_code 56 = .ok (.if_icmp .ge 10, 3) := by decide +kernel
theorem d_X6_says_59 : decode prog_8_method_25_code 59 = .ok (.iload 4, 2) := by decide +kernel
theorem d_X6_says_61 : decode prog_8_method_25_code 61 = .ok (.bipush 11, 2) := by decide +kernel
theorem d_X6_says_63 : decode prog_8_method_25_code 63 = .ok (.if_icmp .ge 37, 3) := by decide +kernel
theorem d_X6_says_66 : decode prog_8_method_25_code 66 = .ok (.aload_n 0, 1) := by decide +kernel
theorem d_X6_says_67 : decode prog_8_method_25_code 67 = .ok (.getfield 55, 3) := by decide +kernel
theorem d_X6_says_70 : decode prog_8_method_25_code 70 = .ok (.iload_n 2, 1) := by decide +kernel
theorem d_X6_says_71 : decode prog_8_method_25_code 71 = .ok (.iload 4, 2) := by decide +kernel
theorem d_X6_says_73 : decode prog_8_method_25_code 73 = .ok (.bipush 11, 2) := by decide +kernel
theorem d_X6_says_75 : decode prog_8_method_25_code 75 = .ok (.if_icmp .ge 13, 3) := by decide +kernel
theorem d_X6_says_78 : decode prog_8_method_25_code 78 = .ok (.aload_n 0, 1) := by decide +kernel
theorem d_X6_says_79 : decode prog_8_method_25_code 79 = .ok (.getfield 58, 3) := by decide +kernel
theorem d_X6_says_82 : decode prog_8_method_25_code 82 = .ok (.iload 4, 2) := by decide +kernel
theorem d_X6_says_84 : decode prog_8_method_25_code 84 = .ok (.iaload, 1) := by decide +kernel
theorem d_X6_says_85 : decode prog_8_method_25_code 85 = .ok (.goto 8, 3) := by decide +kernel
theorem d_X6_says_88 : decode prog_8_method_25_code 88 = .ok (.iload 4, 2) := by decide +kernel
theorem d_X6_says_90 : decode prog_8_method_25_code 90 = .ok (.ldc 147, 2) := by decide +kernel
theorem d_X6_says_92 : decode prog_8_method_25_code 92 = .ok (.isub, 1) := by decide +kernel
theorem d_X6_says_93 : decode prog_8_method_25_code 93 = .ok (.iastore, 1) := by decide +kernel
theorem d_X6_says_94 : decode prog_8_method_25_code 94 = .ok (.iinc 2 1, 3) := by decide +kernel
theorem d_X6_says_97 : decode prog_8_method_25_code 97 = .ok (.goto 94, 3) := by decide +kernel
theorem d_X6_says_100 : decode prog_8_method_25_code 100 = .ok (.iload 4, 2) := by decide +kernel
theorem d_X6_says_102 : decode prog_8_method_25_code 102 = .ok (.bipush 13, 2) := by decide +kernel
theorem d_X6_says_104 : decode prog_8_method_25_code 104 = .ok (.if_icmp .ne 30, 3) := by decide +kernel
theorem d_X6_says_107 : decode prog_8_method_25_code 107 = .ok (.aload_n 0, 1) := by decide +kernel
theorem d_X6_says_108 : decode prog_8_method_25_code 108 = .ok (.getfield 55, 3) := by decide +kernel
theorem d_X6_says_111 : decode prog_8_method_25_code 111 = .ok (.iload_n 2, 1) := by decide +kernel
theorem d_X6_says_112 : decode prog_8_method_25_code 112 = .ok (.iconst 1, 1) := by decide +kernel
theorem d_X6_says_113 : decode prog_8_method_25_code 113 = .ok (.isub, 1) := by decide +kernel
theorem d_X6_says_114 : decode prog_8_method_25_code 114 = .ok (.aload_n 0, 1) := by decide +kernel
theorem d_X6_says_115 : decode prog_8_method_25_code 115 = .ok (.getfield 55, 3) := by decide +kernel
theorem d_X6_says_118 : decode prog_8_method_25_code 118 = .ok (.iload_n 2, 1) := by decide +kernel
theorem d_X6_says_119 : decode prog_8_method_25_code 119 = .ok (.iconst 1, 1) := by decide +kernel
theorem d_X6_says_120 : decode prog_8_method_25_code 120 = .ok (.isub, 1) := by decide +kernel
theorem d_X6_says_121 : decode prog_8_method_25_code 121 = .ok (.iaload, 1) := by decide +kernel
theorem d_X6_says_122 : decode prog_8_method_25_code 122 = .ok (.ifCond .ne 7, 3) := by decide +kernel
theorem d_X6_says_125 : decode prog_8_method_25_code 125 = .ok (.iconst 1, 1) := by decide +kernel
theorem d_X6_says_126 : decode prog_8_method_25_code 126 = .ok (.goto 4, 3) := by decide +kernel
theorem d_X6_says_129 : decode prog_8_method_25_code 129 = .ok (.iconst 0, 1) := by decide +kernel
theorem d_X6_says_130 : decode prog_8_method_25_code 130 = .ok (.iastore, 1) := by decide +kernel
theorem d_X6_says_131 : decode prog_8_method_25_code 131 = .ok (.goto 60, 3) := by decide +kernel
theorem d_X6_says_134 : decode prog_8_method_25_code 134 = .ok (.iload 4, 2) := by decide +kernel
theorem d_X6_says_136 : decode prog_8_method_25_code 136 = .ok (.bipush 19, 2) := by decide +kernel
theorem d_X6_says_138 : decode prog_8_method_25_code 138 = .ok (.if_icmp .ne 23, 3) := by decide +kernel
theorem d_X6_says_141 : decode prog_8_method_25_code 141 = .ok (.aload_n 0, 1) := by decide +kernel
theorem d_X6_says_142 : decode prog_8_method_25_code 142 = .ok (.getfield 55, 3) := by decide +kernel
theorem d_X6_says_145 : decode prog_8_method_25_code 145 = .ok (.iload_n 2, 1) := by decide +kernel
theorem d_X6_says_146 : decode prog_8_method_25_code 146 = .ok (.iconst 1, 1) := by decide +kernel
theorem d_X6_says_147 : decode prog_8_method_25_code 147 = .ok (.isub, 1) := by decide +kernel
theorem d_X6_says_148 : decode prog_8_method_25_code 148 = .ok (.aload_n 0, 1) := by decide +kernel
theorem d_X6_says_149 : decode prog_8_method_25_code 149 = .ok (.getfield 55, 3) := by decide +kernel
theorem d_X6_says_152 : decode prog_8_method_25_code 152 = .ok (.iload_n 2, 1) := by decide +kernel
theorem d_X6_says_153 : decode prog_8_method_25_code 153 = .ok (.iconst 1, 1) := by decide +kernel
theorem d_X6_says_154 : decode prog_8_method_25_code 154 = .ok (.isub, 1) := by decide +kernel
theorem d_X6_says_155 : decode prog_8_method_25_code 155 = .ok (.iaload, 1) := by decide +kernel
theorem d_X6_says_156 : decode prog_8_method_25_code 156 = .ok (.ineg, 1) := by decide +kernel
theorem d_X6_says_157 : decode prog_8_method_25_code 157 = .ok (.iastore, 1) := by decide +kernel
theorem d_X6_says_158 : decode prog_8_method_25_code 158 = .ok (.goto 33, 3) := by decide +kernel
theorem d_X6_says_161 : decode prog_8_method_25_code 161 = .ok (.iinc 2 (-1), 3) := by decide +kernel
theorem d_X6_says_164 : decode prog_8_method_25_code 164 = .ok (.aload_n 0, 1) := by decide +kernel
theorem d_X6_says_165 : decode prog_8_method_25_code 165 = .ok (.getfield 55, 3) := by decide +kernel
theorem d_X6_says_168 : decode prog_8_method_25_code 168 = .ok (.iload_n 2, 1) := by decide +kernel
theorem d_X6_says_169 : decode prog_8_method_25_code 169 = .ok (.iconst 1, 1) := by decide +kernel
theorem d_X6_says_170 : decode prog_8_method_25_code 170 = .ok (.isub, 1) := by decide +kernel
theorem d_X6_says_171 : decode prog_8_method_25_code 171 = .ok (.iload 4, 2) := by decide +kernel
theorem d_X6_says_173 : decode prog_8_method_25_code 173 = .ok (.aload_n 0, 1) := by decide +kernel
theorem d_X6_says_174 : decode prog_8_method_25_code 174 = .ok (.getfield 55, 3) := by decide +kernel
theorem d_X6_says_177 : decode prog_8_method_25_code 177 = .ok (.iload_n 2, 1) := by decide +kernel
theorem d_X6_says_178 : decode prog_8_method_25_code 178 = .ok (.iconst 1, 1) := by decide +kernel
theorem d_X6_says_179 : decode prog_8_method_25_code 179 = .ok (.isub, 1) := by decide +kernel
theorem d_X6_says_180 : decode prog_8_method_25_code 180 = .ok (.iaload, 1) := by decide +kernel
theorem d_X6_says_181 : decode prog_8_method_25_code 181 = .ok (.aload_n 0, 1) := by decide +kernel
theorem d_X6_says_182 : decode prog_8_method_25_code 182 = .ok (.getfield 55, 3) := by decide +kernel
theorem d_X6_says_185 : decode prog_8_method_25_code 185 = .ok (.iload_n 2, 1) := by decide +kernel
theorem d_X6_says_186 : decode prog_8_method_25_code 186 = .ok (.iaload, 1) := by decide +kernel
theorem d_X6_says_187 : decode prog_8_method_25_code 187 = .ok (.invokestatic 161, 3) := by decide +kernel
theorem d_X6_says_190 : decode prog_8_method_25_code 190 = .ok (.iastore, 1) := by decide +kernel
theorem d_X6_says_191 : decode prog_8_method_25_code 191 = .ok (.iinc 3 1, 3) := by decide +kernel
theorem d_X6_says_194 : decode prog_8_method_25_code 194 = .ok (.goto (-178), 3) := by decide +kernel
theorem d_X6_says_197 : decode prog_8_method_25_code 197 = .ok (.aload_n 0, 1) := by decide +kernel
theorem d_X6_says_198 : decode prog_8_method_25_code 198 = .ok (.getfield 55, 3) := by decide +kernel
theorem d_X6_says_201 : decode prog_8_method_25_code 201 = .ok (.iconst 0, 1) := by decide +kernel
theorem d_X6_says_202 : decode prog_8_method_25_code 202 = .ok (.iaload, 1) := by decide +kernel
theorem d_X6_says_203 : decode prog_8_method_25_code 203 = .ok (.ireturn, 1) := by decide +kernel
def lp_X6_says_16 (κ : it_KK) (x1 : Int32) (k16 : (it_SS → Option (Int32 × it_SS))) : Nat → Int32 → Int32 → it_SS → Option (Int32 × it_SS)
  | 0, _, _, _ => none
  | n16 + 1, v2, v3, S => if it_bd (((4 * (S 45 11)) + x1) + 1) 24 = true then
if (S 52 ((((4 * (S 45 11)) + x1) + 1) : Int32).toNatClampNeg) ≤ v3 then
k16  S
else
if it_bd ((200 * (S 45 11)) + v3) 1200 = true then
if 100000 ≤ (S 51 (((200 * (S 45 11)) + v3) : Int32).toNatClampNeg) then
if 11 ≤ (S 51 (((200 * (S 45 11)) + v3) : Int32).toNatClampNeg) then
if it_bd v2 200 = true then
lp_X6_says_16 κ x1 k16 n16 (v2 + 1) (v3 + 1) (it_up S 61 (v2 : Int32).toNatClampNeg ((S 51 (((200 * (S 45 11)) + v3) : Int32).toNatClampNeg) - 100000))
else none
else
if it_bd (S 51 (((200 * (S 45 11)) + v3) : Int32).toNatClampNeg) 6 = true then
if it_bd v2 200 = true then
lp_X6_says_16 κ x1 k16 n16 (v2 + 1) (v3 + 1) (it_up S 61 (v2 : Int32).toNatClampNeg (S 62 ((S 51 (((200 * (S 45 11)) + v3) : Int32).toNatClampNeg) : Int32).toNatClampNeg))
else none
else none
else
if 11 ≤ (S 51 (((200 * (S 45 11)) + v3) : Int32).toNatClampNeg) then
if (S 51 (((200 * (S 45 11)) + v3) : Int32).toNatClampNeg) = 13 then
if it_bd (v2 - 1) 200 = true then
if (S 61 ((v2 - 1) : Int32).toNatClampNeg) = 0 then
lp_X6_says_16 κ x1 k16 n16 v2 (v3 + 1) (it_up S 61 ((v2 - 1) : Int32).toNatClampNeg 1)
else
lp_X6_says_16 κ x1 k16 n16 v2 (v3 + 1) (it_up S 61 ((v2 - 1) : Int32).toNatClampNeg 0)
else none
else
if (S 51 (((200 * (S 45 11)) + v3) : Int32).toNatClampNeg) = 19 then
if it_bd (v2 - 1) 200 = true then
lp_X6_says_16 κ x1 k16 n16 v2 (v3 + 1) (it_up S 61 ((v2 - 1) : Int32).toNatClampNeg (-(S 61 ((v2 - 1) : Int32).toNatClampNeg)))
else none
else
if it_bd ((v2 + (-1)) - 1) 200 = true then
if it_bd (v2 + (-1)) 200 = true then
it_bi (f_X6_two κ (S 51 (((200 * (S 45 11)) + v3) : Int32).toNatClampNeg) (S 61 (((v2 + (-1)) - 1) : Int32).toNatClampNeg) (S 61 ((v2 + (-1)) : Int32).toNatClampNeg) S) (fun r16 S15 =>
lp_X6_says_16 κ x1 k16 n16 (v2 + (-1)) (v3 + 1) (it_up S15 61 (((v2 + (-1)) - 1) : Int32).toNatClampNeg r16))
else none
else none
else
if 11 ≤ (S 51 (((200 * (S 45 11)) + v3) : Int32).toNatClampNeg) then
if it_bd v2 200 = true then
lp_X6_says_16 κ x1 k16 n16 (v2 + 1) (v3 + 1) (it_up S 61 (v2 : Int32).toNatClampNeg ((S 51 (((200 * (S 45 11)) + v3) : Int32).toNatClampNeg) - 100000))
else none
else
if it_bd (S 51 (((200 * (S 45 11)) + v3) : Int32).toNatClampNeg) 6 = true then
if it_bd v2 200 = true then
lp_X6_says_16 κ x1 k16 n16 (v2 + 1) (v3 + 1) (it_up S 61 (v2 : Int32).toNatClampNeg (S 62 ((S 51 (((200 * (S 45 11)) + v3) : Int32).toNatClampNeg) : Int32).toNatClampNeg))
else none
else none
else none
else none
def f_X6_says (κ : it_KK) (x1 : Int32) (S : it_SS) : Option (Int32 × it_SS) :=
if it_bd ((4 * (S 45 11)) + x1) 24 = true then
lp_X6_says_16 κ x1 (fun  S24 =>
some ((S24 61 (0 : Int32).toNatClampNeg), S24)) it_FU 0 (S 52 (((4 * (S 45 11)) + x1) : Int32).toNatClampNeg) S
else none
set_option maxHeartbeats 4000000 in
set_option maxRecDepth 100000 in
theorem Llp_X6_says_16 {g : it_G} {l : Launch} {κ : it_KK} {x1 : Int32} (hm : it_wm κ) {P : Int32 → it_SS → Prop} {k16 : (it_SS → Option (Int32 × it_SS))} (hk16 : ∀  (S : it_SS), it_ok (k16  S) P → it_Ev g l 2 it_m_X6_says 0 0 197 [some (.ref 45), none, none, none, none] [] κ S (it_pi κ P)) : ∀ (n : Nat) (v2 : Int32) (v3 : Int32) (S : it_SS), it_ok (lp_X6_says_16 κ x1 k16 n v2 v3 S) P → it_Ev g l 2 it_m_X6_says 0 0 16 [some (.ref 45), some (.int x1), some (.int v2), some (.int v3), none] [] κ S (it_pi κ P) := by
  intro n
  induction n with
  | zero =>
    intro _ _ _ h
    exact (it_ok_n h).elim
  | succ n16 ih16 =>
    intro v2 v3 S h
    rw [lp_X6_says_16] at h
    refine ev_iload_n d_X6_says_16 rfl ?_
    refine ev_aload_n d_X6_says_17 rfl ?_
    refine ev_getRr (r := 52) rfl d_X6_says_18 fl_IcedTooSoonModel_28 hm.1 rfl ?_
    refine ev_iconst d_X6_says_21 kv_iconst_4 ?_
    refine ev_aload_n d_X6_says_22 rfl ?_
    refine ev_getI d_X6_says_23 fl_IcedTooSoonModel_99 hm.1 rfl ?_
    refine ev_imul d_X6_says_26 ?_
    refine ev_iload_n d_X6_says_27 rfl ?_
    refine ev_iadd d_X6_says_28 ?_
    refine ev_iconst d_X6_says_29 kv_iconst_1 ?_
    refine ev_iadd d_X6_says_30 ?_
    obtain ⟨hb2, h⟩ := it_ok_g h
    refine ev_iald d_X6_says_31 (hm).2.2.2.2.2.2.2.1 (it_bd_in hb2) ?_
    refine ev_icmp_ge (tgt := 197) d_X6_says_32 (by decide) (fun hc3 => ?_) (fun hc3 => ?_)
    · have h := it_ok_t h hc3
      refine ev_keep [true, false, false, false, false] ?_
      exact hk16  _ h
    · have h := it_ok_f h hc3
      refine ev_aload_n d_X6_says_35 rfl ?_
      refine ev_getRr (r := 51) rfl d_X6_says_36 fl_IcedTooSoonModel_25 hm.1 rfl ?_
      refine ev_sipush d_X6_says_39 kv_sipush_200 ?_
      refine ev_aload_n d_X6_says_42 rfl ?_
      refine ev_getI d_X6_says_43 fl_IcedTooSoonModel_99 hm.1 rfl ?_
      refine ev_imul d_X6_says_46 ?_
      refine ev_iload_n d_X6_says_47 rfl ?_
      refine ev_iadd d_X6_says_48 ?_
      obtain ⟨hb4, h⟩ := it_ok_g h
      refine ev_iald d_X6_says_49 (hm).2.2.2.2.2.2.1 (it_bd_in hb4) ?_
      refine ev_istore d_X6_says_50 (by decide) ?_
      show it_Ev g l 2 it_m_X6_says 0 0 52 [some (.ref 45), some (.int x1), some (.int v2), some (.int v3), some (.int (S 51 (((200 * (S 45 11)) + v3) : Int32).toNatClampNeg))] [] κ S (it_pi κ P)
      refine ev_iload d_X6_says_52 rfl ?_
      refine ev_ldc d_X6_says_54 kn_IcedTooSoonModel_147 ?_
      refine ev_icmp_ge (tgt := 66) d_X6_says_56 (by decide) (fun hc5 => ?_) (fun hc5 => ?_)
      · have h := it_ok_t h hc5
        refine ev_aload_n d_X6_says_66 rfl ?_
        refine ev_getRr (r := 61) rfl d_X6_says_67 fl_IcedTooSoonModel_55 hm.1 rfl ?_
        refine ev_iload_n d_X6_says_70 rfl ?_
        refine ev_iload d_X6_says_71 rfl ?_
        refine ev_bipush d_X6_says_73 kv_bipush_11 ?_
        refine ev_icmp_ge (tgt := 88) d_X6_says_75 (by decide) (fun hc6 => ?_) (fun hc6 => ?_)
        · have h := it_ok_t h hc6
          refine ev_iload d_X6_says_88 rfl ?_
          refine ev_ldc d_X6_says_90 kn_IcedTooSoonModel_147 ?_
          refine ev_isub d_X6_says_92 ?_
          obtain ⟨hb7, h⟩ := it_ok_g h
          refine ev_iast d_X6_says_93 (by decide) (hm).2.2.2.2.2.2.2.2.2.2.2.2.2.2.2.2.1 (it_bd_in hb7) ?_
          refine ev_iinc d_X6_says_94 kv_iconst_1 rfl (by decide) ?_
          show it_Ev g l 2 it_m_X6_says 0 0 97 [some (.ref 45), some (.int x1), some (.int (v2 + 1)), some (.int v3), some (.int (S 51 (((200 * (S 45 11)) + v3) : Int32).toNatClampNeg))] [] κ (it_up S 61 (v2 : Int32).toNatClampNeg ((S 51 (((200 * (S 45 11)) + v3) : Int32).toNatClampNeg) - 100000)) (it_pi κ P)
          refine ev_goto (tgt := 191) d_X6_says_97 (by decide) ?_
          refine ev_iinc d_X6_says_191 kv_iconst_1 rfl (by decide) ?_
          show it_Ev g l 2 it_m_X6_says 0 0 194 [some (.ref 45), some (.int x1), some (.int (v2 + 1)), some (.int (v3 + 1)), some (.int (S 51 (((200 * (S 45 11)) + v3) : Int32).toNatClampNeg))] [] κ (it_up S 61 (v2 : Int32).toNatClampNeg ((S 51 (((200 * (S 45 11)) + v3) : Int32).toNatClampNeg) - 100000)) (it_pi κ P)
          refine ev_goto (tgt := 16) d_X6_says_194 (by decide) ?_
          refine ev_keep [true, true, true, true, false] ?_
          exact ih16 _ _ _ h
        · have h := it_ok_f h hc6
          refine ev_aload_n d_X6_says_78 rfl ?_
          refine ev_getRr (r := 62) rfl d_X6_says_79 fl_IcedTooSoonModel_58 hm.1 rfl ?_
          refine ev_iload d_X6_says_82 rfl ?_
          obtain ⟨hb8, h⟩ := it_ok_g h
          refine ev_iald d_X6_says_84 (hm).2.2.2.2.2.2.2.2.2.2.2.2.2.2.2.2.2.1 (it_bd_in hb8) ?_
          refine ev_goto (tgt := 93) d_X6_says_85 (by decide) ?_
          obtain ⟨hb9, h⟩ := it_ok_g h
          refine ev_iast d_X6_says_93 (by decide) (hm).2.2.2.2.2.2.2.2.2.2.2.2.2.2.2.2.1 (it_bd_in hb9) ?_
          refine ev_iinc d_X6_says_94 kv_iconst_1 rfl (by decide) ?_
          show it_Ev g l 2 it_m_X6_says 0 0 97 [some (.ref 45), some (.int x1), some (.int (v2 + 1)), some (.int v3), some (.int (S 51 (((200 * (S 45 11)) + v3) : Int32).toNatClampNeg))] [] κ (it_up S 61 (v2 : Int32).toNatClampNeg (S 62 ((S 51 (((200 * (S 45 11)) + v3) : Int32).toNatClampNeg) : Int32).toNatClampNeg)) (it_pi κ P)
          refine ev_goto (tgt := 191) d_X6_says_97 (by decide) ?_
          refine ev_iinc d_X6_says_191 kv_iconst_1 rfl (by decide) ?_
          show it_Ev g l 2 it_m_X6_says 0 0 194 [some (.ref 45), some (.int x1), some (.int (v2 + 1)), some (.int (v3 + 1)), some (.int (S 51 (((200 * (S 45 11)) + v3) : Int32).toNatClampNeg))] [] κ (it_up S 61 (v2 : Int32).toNatClampNeg (S 62 ((S 51 (((200 * (S 45 11)) + v3) : Int32).toNatClampNeg) : Int32).toNatClampNeg)) (it_pi κ P)
          refine ev_goto (tgt := 16) d_X6_says_194 (by decide) ?_
          refine ev_keep [true, true, true, true, false] ?_
          exact ih16 _ _ _ h
      · have h := it_ok_f h hc5
        refine ev_iload d_X6_says_59 rfl ?_
        refine ev_bipush d_X6_says_61 kv_bipush_11 ?_
        refine ev_icmp_ge (tgt := 100) d_X6_says_63 (by decide) (fun hc10 => ?_) (fun hc10 => ?_)
        · have h := it_ok_t h hc10
          refine ev_iload d_X6_says_100 rfl ?_
          refine ev_bipush d_X6_says_102 kv_bipush_13 ?_
          refine ev_icmp_ne (tgt := 134) d_X6_says_104 (by decide) (fun hc11 => ?_) (fun hc11 => ?_)
          · have h := it_ok_f h hc11
            refine ev_iload d_X6_says_134 rfl ?_
            refine ev_bipush d_X6_says_136 kv_bipush_19 ?_
            refine ev_icmp_ne (tgt := 161) d_X6_says_138 (by decide) (fun hc12 => ?_) (fun hc12 => ?_)
            · have h := it_ok_f h hc12
              refine ev_iinc d_X6_says_161 kv_iconst_m1 rfl (by decide) ?_
              show it_Ev g l 2 it_m_X6_says 0 0 164 [some (.ref 45), some (.int x1), some (.int (v2 + (-1))), some (.int v3), some (.int (S 51 (((200 * (S 45 11)) + v3) : Int32).toNatClampNeg))] [] κ S (it_pi κ P)
              refine ev_aload_n d_X6_says_164 rfl ?_
              refine ev_getRr (r := 61) rfl d_X6_says_165 fl_IcedTooSoonModel_55 hm.1 rfl ?_
              refine ev_iload_n d_X6_says_168 rfl ?_
              refine ev_iconst d_X6_says_169 kv_iconst_1 ?_
              refine ev_isub d_X6_says_170 ?_
              refine ev_iload d_X6_says_171 rfl ?_
              refine ev_aload_n d_X6_says_173 rfl ?_
              refine ev_getRr (r := 61) rfl d_X6_says_174 fl_IcedTooSoonModel_55 hm.1 rfl ?_
              refine ev_iload_n d_X6_says_177 rfl ?_
              refine ev_iconst d_X6_says_178 kv_iconst_1 ?_
              refine ev_isub d_X6_says_179 ?_
              obtain ⟨hb13, h⟩ := it_ok_g h
              refine ev_iald d_X6_says_180 (hm).2.2.2.2.2.2.2.2.2.2.2.2.2.2.2.2.1 (it_bd_in hb13) ?_
              refine ev_aload_n d_X6_says_181 rfl ?_
              refine ev_getRr (r := 61) rfl d_X6_says_182 fl_IcedTooSoonModel_55 hm.1 rfl ?_
              refine ev_iload_n d_X6_says_185 rfl ?_
              obtain ⟨hb14, h⟩ := it_ok_g h
              refine ev_iald d_X6_says_186 (hm).2.2.2.2.2.2.2.2.2.2.2.2.2.2.2.2.1 (it_bd_in hb14) ?_
              refine ev_callS (M' := it_m_X6_two) (d' := 1) (As := [.int (S 51 (((200 * (S 45 11)) + v3) : Int32).toNatClampNeg), .int (S 61 (((v2 + (-1)) - 1) : Int32).toNatClampNeg), .int (S 61 ((v2 + (-1)) : Int32).toNatClampNeg)]) d_X6_says_187 ml_IcedTooSoonModel_161 rfl rfl (Nat.le_of_ble_eq_true rfl) (by decide) (by decide) (by decide) (L_X6_two  (it_ok_b h)) (fun _ _ _ _ q => by cases q.1; rfl) ?_
              rintro _ _ S15 ⟨rfl, r16, rfl, h⟩
              show it_Ev g l 2 it_m_X6_says 0 0 190 [some (.ref 45), some (.int x1), some (.int (v2 + (-1))), some (.int v3), some (.int (S 51 (((200 * (S 45 11)) + v3) : Int32).toNatClampNeg))] [.int r16, .int ((v2 + (-1)) - 1), .ref 61] κ S15 (it_pi κ P)
              refine ev_iast d_X6_says_190 (by decide) (hm).2.2.2.2.2.2.2.2.2.2.2.2.2.2.2.2.1 (it_bd_in hb13) ?_
              refine ev_iinc d_X6_says_191 kv_iconst_1 rfl (by decide) ?_
              show it_Ev g l 2 it_m_X6_says 0 0 194 [some (.ref 45), some (.int x1), some (.int (v2 + (-1))), some (.int (v3 + 1)), some (.int (S 51 (((200 * (S 45 11)) + v3) : Int32).toNatClampNeg))] [] κ (it_up S15 61 (((v2 + (-1)) - 1) : Int32).toNatClampNeg r16) (it_pi κ P)
              refine ev_goto (tgt := 16) d_X6_says_194 (by decide) ?_
              refine ev_keep [true, true, true, true, false] ?_
              exact ih16 _ _ _ h
            · have h := it_ok_t h hc12
              refine ev_aload_n d_X6_says_141 rfl ?_
              refine ev_getRr (r := 61) rfl d_X6_says_142 fl_IcedTooSoonModel_55 hm.1 rfl ?_
              refine ev_iload_n d_X6_says_145 rfl ?_
              refine ev_iconst d_X6_says_146 kv_iconst_1 ?_
              refine ev_isub d_X6_says_147 ?_
              refine ev_aload_n d_X6_says_148 rfl ?_
              refine ev_getRr (r := 61) rfl d_X6_says_149 fl_IcedTooSoonModel_55 hm.1 rfl ?_
              refine ev_iload_n d_X6_says_152 rfl ?_
              refine ev_iconst d_X6_says_153 kv_iconst_1 ?_
              refine ev_isub d_X6_says_154 ?_
              obtain ⟨hb17, h⟩ := it_ok_g h
              refine ev_iald d_X6_says_155 (hm).2.2.2.2.2.2.2.2.2.2.2.2.2.2.2.2.1 (it_bd_in hb17) ?_
              refine ev_ineg d_X6_says_156 ?_
              refine ev_iast d_X6_says_157 (by decide) (hm).2.2.2.2.2.2.2.2.2.2.2.2.2.2.2.2.1 (it_bd_in hb17) ?_
              refine ev_goto (tgt := 191) d_X6_says_158 (by decide) ?_
              refine ev_iinc d_X6_says_191 kv_iconst_1 rfl (by decide) ?_
              show it_Ev g l 2 it_m_X6_says 0 0 194 [some (.ref 45), some (.int x1), some (.int v2), some (.int (v3 + 1)), some (.int (S 51 (((200 * (S 45 11)) + v3) : Int32).toNatClampNeg))] [] κ (it_up S 61 ((v2 - 1) : Int32).toNatClampNeg (-(S 61 ((v2 - 1) : Int32).toNatClampNeg))) (it_pi κ P)
              refine ev_goto (tgt := 16) d_X6_says_194 (by decide) ?_
              refine ev_keep [true, true, true, true, false] ?_
              exact ih16 _ _ _ h
          · have h := it_ok_t h hc11
            refine ev_aload_n d_X6_says_107 rfl ?_
            refine ev_getRr (r := 61) rfl d_X6_says_108 fl_IcedTooSoonModel_55 hm.1 rfl ?_
            refine ev_iload_n d_X6_says_111 rfl ?_
            refine ev_iconst d_X6_says_112 kv_iconst_1 ?_
            refine ev_isub d_X6_says_113 ?_
            refine ev_aload_n d_X6_says_114 rfl ?_
            refine ev_getRr (r := 61) rfl d_X6_says_115 fl_IcedTooSoonModel_55 hm.1 rfl ?_
            refine ev_iload_n d_X6_says_118 rfl ?_
            refine ev_iconst d_X6_says_119 kv_iconst_1 ?_
            refine ev_isub d_X6_says_120 ?_
            obtain ⟨hb18, h⟩ := it_ok_g h
            refine ev_iald d_X6_says_121 (hm).2.2.2.2.2.2.2.2.2.2.2.2.2.2.2.2.1 (it_bd_in hb18) ?_
            refine ev_if_ne (tgt := 129) d_X6_says_122 (by decide) (fun hc19 => ?_) (fun hc19 => ?_)
            · have h := it_ok_f h hc19
              refine ev_iconst d_X6_says_129 kv_iconst_0 ?_
              refine ev_iast d_X6_says_130 (by decide) (hm).2.2.2.2.2.2.2.2.2.2.2.2.2.2.2.2.1 (it_bd_in hb18) ?_
              refine ev_goto (tgt := 191) d_X6_says_131 (by decide) ?_
              refine ev_iinc d_X6_says_191 kv_iconst_1 rfl (by decide) ?_
              show it_Ev g l 2 it_m_X6_says 0 0 194 [some (.ref 45), some (.int x1), some (.int v2), some (.int (v3 + 1)), some (.int (S 51 (((200 * (S 45 11)) + v3) : Int32).toNatClampNeg))] [] κ (it_up S 61 ((v2 - 1) : Int32).toNatClampNeg 0) (it_pi κ P)
              refine ev_goto (tgt := 16) d_X6_says_194 (by decide) ?_
              refine ev_keep [true, true, true, true, false] ?_
              exact ih16 _ _ _ h
            · have h := it_ok_t h hc19
              refine ev_iconst d_X6_says_125 kv_iconst_1 ?_
              refine ev_goto (tgt := 130) d_X6_says_126 (by decide) ?_
              refine ev_iast d_X6_says_130 (by decide) (hm).2.2.2.2.2.2.2.2.2.2.2.2.2.2.2.2.1 (it_bd_in hb18) ?_
              refine ev_goto (tgt := 191) d_X6_says_131 (by decide) ?_
              refine ev_iinc d_X6_says_191 kv_iconst_1 rfl (by decide) ?_
              show it_Ev g l 2 it_m_X6_says 0 0 194 [some (.ref 45), some (.int x1), some (.int v2), some (.int (v3 + 1)), some (.int (S 51 (((200 * (S 45 11)) + v3) : Int32).toNatClampNeg))] [] κ (it_up S 61 ((v2 - 1) : Int32).toNatClampNeg 1) (it_pi κ P)
              refine ev_goto (tgt := 16) d_X6_says_194 (by decide) ?_
              refine ev_keep [true, true, true, true, false] ?_
              exact ih16 _ _ _ h
        · have h := it_ok_f h hc10
          refine ev_aload_n d_X6_says_66 rfl ?_
          refine ev_getRr (r := 61) rfl d_X6_says_67 fl_IcedTooSoonModel_55 hm.1 rfl ?_
          refine ev_iload_n d_X6_says_70 rfl ?_
          refine ev_iload d_X6_says_71 rfl ?_
          refine ev_bipush d_X6_says_73 kv_bipush_11 ?_
          refine ev_icmp_ge (tgt := 88) d_X6_says_75 (by decide) (fun hc20 => ?_) (fun hc20 => ?_)
          · have h := it_ok_t h hc20
            refine ev_iload d_X6_says_88 rfl ?_
            refine ev_ldc d_X6_says_90 kn_IcedTooSoonModel_147 ?_
            refine ev_isub d_X6_says_92 ?_
            obtain ⟨hb21, h⟩ := it_ok_g h
            refine ev_iast d_X6_says_93 (by decide) (hm).2.2.2.2.2.2.2.2.2.2.2.2.2.2.2.2.1 (it_bd_in hb21) ?_
            refine ev_iinc d_X6_says_94 kv_iconst_1 rfl (by decide) ?_
            show it_Ev g l 2 it_m_X6_says 0 0 97 [some (.ref 45), some (.int x1), some (.int (v2 + 1)), some (.int v3), some (.int (S 51 (((200 * (S 45 11)) + v3) : Int32).toNatClampNeg))] [] κ (it_up S 61 (v2 : Int32).toNatClampNeg ((S 51 (((200 * (S 45 11)) + v3) : Int32).toNatClampNeg) - 100000)) (it_pi κ P)
            refine ev_goto (tgt := 191) d_X6_says_97 (by decide) ?_
            refine ev_iinc d_X6_says_191 kv_iconst_1 rfl (by decide) ?_
            show it_Ev g l 2 it_m_X6_says 0 0 194 [some (.ref 45), some (.int x1), some (.int (v2 + 1)), some (.int (v3 + 1)), some (.int (S 51 (((200 * (S 45 11)) + v3) : Int32).toNatClampNeg))] [] κ (it_up S 61 (v2 : Int32).toNatClampNeg ((S 51 (((200 * (S 45 11)) + v3) : Int32).toNatClampNeg) - 100000)) (it_pi κ P)
            refine ev_goto (tgt := 16) d_X6_says_194 (by decide) ?_
            refine ev_keep [true, true, true, true, false] ?_
            exact ih16 _ _ _ h
          · have h := it_ok_f h hc20
            refine ev_aload_n d_X6_says_78 rfl ?_
            refine ev_getRr (r := 62) rfl d_X6_says_79 fl_IcedTooSoonModel_58 hm.1 rfl ?_
            refine ev_iload d_X6_says_82 rfl ?_
            obtain ⟨hb22, h⟩ := it_ok_g h
            refine ev_iald d_X6_says_84 (hm).2.2.2.2.2.2.2.2.2.2.2.2.2.2.2.2.2.1 (it_bd_in hb22) ?_
            refine ev_goto (tgt := 93) d_X6_says_85 (by decide) ?_
            obtain ⟨hb23, h⟩ := it_ok_g h
            refine ev_iast d_X6_says_93 (by decide) (hm).2.2.2.2.2.2.2.2.2.2.2.2.2.2.2.2.1 (it_bd_in hb23) ?_
            refine ev_iinc d_X6_says_94 kv_iconst_1 rfl (by decide) ?_
            show it_Ev g l 2 it_m_X6_says 0 0 97 [some (.ref 45), some (.int x1), some (.int (v2 + 1)), some (.int v3), some (.int (S 51 (((200 * (S 45 11)) + v3) : Int32).toNatClampNeg))] [] κ (it_up S 61 (v2 : Int32).toNatClampNeg (S 62 ((S 51 (((200 * (S 45 11)) + v3) : Int32).toNatClampNeg) : Int32).toNatClampNeg)) (it_pi κ P)
            refine ev_goto (tgt := 191) d_X6_says_97 (by decide) ?_
            refine ev_iinc d_X6_says_191 kv_iconst_1 rfl (by decide) ?_
            show it_Ev g l 2 it_m_X6_says 0 0 194 [some (.ref 45), some (.int x1), some (.int (v2 + 1)), some (.int (v3 + 1)), some (.int (S 51 (((200 * (S 45 11)) + v3) : Int32).toNatClampNeg))] [] κ (it_up S 61 (v2 : Int32).toNatClampNeg (S 62 ((S 51 (((200 * (S 45 11)) + v3) : Int32).toNatClampNeg) : Int32).toNatClampNeg)) (it_pi κ P)
            refine ev_goto (tgt := 16) d_X6_says_194 (by decide) ?_
            refine ev_keep [true, true, true, true, false] ?_
            exact ih16 _ _ _ h
set_option maxHeartbeats 4000000 in
set_option maxRecDepth 100000 in
theorem L_X6_says {g : it_G} {l : Launch} {κ : it_KK} {x1 : Int32} (hm : it_wm κ) {S : it_SS} {P : Int32 → it_SS → Prop} (h : it_ok (f_X6_says κ x1 S) P) : it_Cn g l 2 it_m_X6_says [.ref 45, .int x1] κ S (it_pi κ P) := by
  refine it_Cn.of (by decide +kernel) (Nat.le_of_ble_eq_true rfl) ?_
  rw [f_X6_says] at h
  show it_Ev g l 2 it_m_X6_says 0 0 0 [some (.ref 45), some (.int x1), none, none, none] [] κ S (it_pi κ P)
  refine ev_iconst d_X6_says_0 kv_iconst_0 ?_
  refine ev_istore_n d_X6_says_1 (by decide) ?_
  show it_Ev g l 2 it_m_X6_says 0 0 2 [some (.ref 45), some (.int x1), some (.int 0), none, none] [] κ S (it_pi κ P)
  refine ev_aload_n d_X6_says_2 rfl ?_
  refine ev_getRr (r := 52) rfl d_X6_says_3 fl_IcedTooSoonModel_28 hm.1 rfl ?_
  refine ev_iconst d_X6_says_6 kv_iconst_4 ?_
  refine ev_aload_n d_X6_says_7 rfl ?_
  refine ev_getI d_X6_says_8 fl_IcedTooSoonModel_99 hm.1 rfl ?_
  refine ev_imul d_X6_says_11 ?_
  refine ev_iload_n d_X6_says_12 rfl ?_
  refine ev_iadd d_X6_says_13 ?_
  obtain ⟨hb1, h⟩ := it_ok_g h
  refine ev_iald d_X6_says_14 (hm).2.2.2.2.2.2.2.1 (it_bd_in hb1) ?_
  refine ev_istore_n d_X6_says_15 (by decide) ?_
  show it_Ev g l 2 it_m_X6_says 0 0 16 [some (.ref 45), some (.int x1), some (.int 0), some (.int (S 52 (((4 * (S 45 11)) + x1) : Int32).toNatClampNeg)), none] [] κ S (it_pi κ P)
  refine ev_keep [true, true, true, true, false] ?_
  refine Llp_X6_says_16 hm (fun  S24 h => ?_) _ _ _ _ h
  show it_Ev g l 2 it_m_X6_says 0 0 197 [some (.ref 45), none, none, none, none] [] κ S24 (it_pi κ P)
  refine ev_aload_n d_X6_says_197 rfl ?_
  refine ev_getRr (r := 61) rfl d_X6_says_198 fl_IcedTooSoonModel_55 hm.1 rfl ?_
  refine ev_iconst d_X6_says_201 kv_iconst_0 ?_
  refine ev_iald d_X6_says_202 (hm).2.2.2.2.2.2.2.2.2.2.2.2.2.2.2.2.1 (it_bd_in (by decide)) ?_
  exact ev_ret (v := some (.int _)) ⟨d_X6_says_203, _, rfl, rfl⟩ (by decide) (by decide) ⟨rfl, _, rfl, it_ok_r h⟩
theorem d_X6_force_0 : decode prog_8_method_26_code 0 = .ok (.iload_n 1, 1) := by decide +kernel
theorem d_X6_force_1 : decode prog_8_method_26_code 1 = .ok (.iconst 0, 1) := by decide +kernel
theorem d_X6_force_2 : decode prog_8_method_26_code 2 = .ok (.aload_n 0, 1) := by decide +kernel
theorem d_X6_force_3 : decode prog_8_method_26_code 3 = .ok (.getfield 96, 3) := by decide +kernel
theorem d_X6_force_6 : decode prog_8_method_26_code 6 = .ok (.iconst 1, 1) := by decide +kernel
theorem d_X6_force_7 : decode prog_8_method_26_code 7 = .ok (.isub, 1) := by decide +kernel
theorem d_X6_force_8 : decode prog_8_method_26_code 8 = .ok (.invokestatic 78, 3) := by decide +kernel
theorem d_X6_force_11 : decode prog_8_method_26_code 11 = .ok (.ifCond .ne 6, 3) := by decide +kernel
theorem d_X6_force_14 : decode prog_8_method_26_code 14 = .ok (.bipush (-2), 2) := by decide +kernel
theorem d_X6_force_16 : decode prog_8_method_26_code 16 = .ok (.ireturn, 1) := by decide +kernel
theorem d_X6_force_17 : decode prog_8_method_26_code 17 = .ok (.aload_n 0, 1) := by decide +kernel
theorem d_X6_force_18 : decode prog_8_method_26_code 18 = .ok (.getfield 99, 3) := by decide +kernel
theorem d_X6_force_21 : decode prog_8_method_26_code 21 = .ok (.istore_n 2, 1) := by decide +kernel
theorem d_X6_force_22 : decode prog_8_method_26_code 22 = .ok (.aload_n 0, 1) := by decide +kernel
theorem d_X6_force_23 : decode prog_8_method_26_code 23 = .ok (.iload_n 1, 1) := by decide +kernel
theorem d_X6_force_24 : decode prog_8_method_26_code 24 = .ok (.putfield 99, 3) := by decide +kernel
theorem d_X6_force_27 : decode prog_8_method_26_code 27 = .ok (.iload_n 2, 1) := by decide +kernel
theorem d_X6_force_28 : decode prog_8_method_26_code 28 = .ok (.ireturn, 1) := by decide +kernel
def f_X6_force (κ : it_KK) (x1 : Int32) (S : it_SS) : Option (Int32 × it_SS) :=
it_bi (f_X6_in κ x1 0 ((S 45 10) - 1) S) (fun r2 S1 =>
if r2 = 0 then
some ((-2), S1)
else
some ((S1 45 11), it_up S1 45 11 x1))
set_option maxHeartbeats 4000000 in
set_option maxRecDepth 100000 in
theorem L_X6_force {g : it_G} {l : Launch} {κ : it_KK} {x1 : Int32} (hm : it_wm κ) {S : it_SS} {P : Int32 → it_SS → Prop} (h : it_ok (f_X6_force κ x1 S) P) : it_Cn g l 2 it_m_X6_force [.ref 45, .int x1] κ S (it_pi κ P) := by
  refine it_Cn.of (by decide +kernel) (Nat.le_of_ble_eq_true rfl) ?_
  rw [f_X6_force] at h
  show it_Ev g l 2 it_m_X6_force 0 0 0 [some (.ref 45), some (.int x1), none] [] κ S (it_pi κ P)
  refine ev_iload_n d_X6_force_0 rfl ?_
  refine ev_iconst d_X6_force_1 kv_iconst_0 ?_
  refine ev_aload_n d_X6_force_2 rfl ?_
  refine ev_getI d_X6_force_3 fl_IcedTooSoonModel_96 hm.1 rfl ?_
  refine ev_iconst d_X6_force_6 kv_iconst_1 ?_
  refine ev_isub d_X6_force_7 ?_
  refine ev_callS (M' := it_m_X6_in) (d' := 1) (As := [.int x1, .int 0, .int ((S 45 10) - 1)]) d_X6_force_8 ml_IcedTooSoonModel_78 rfl rfl (Nat.le_of_ble_eq_true rfl) (by decide) (by decide) (by decide) (L_X6_in  (it_ok_b h)) (fun _ _ _ _ q => by cases q.1; rfl) ?_
  rintro _ _ S1 ⟨rfl, r2, rfl, h⟩
  show it_Ev g l 2 it_m_X6_force 0 0 11 [some (.ref 45), some (.int x1), none] [.int r2] κ S1 (it_pi κ P)
  refine ev_if_ne (tgt := 17) d_X6_force_11 (by decide) (fun hc3 => ?_) (fun hc3 => ?_)
  · have h := it_ok_f h hc3
    refine ev_aload_n d_X6_force_17 rfl ?_
    refine ev_getI d_X6_force_18 fl_IcedTooSoonModel_99 hm.1 rfl ?_
    refine ev_istore_n d_X6_force_21 (by decide) ?_
    show it_Ev g l 2 it_m_X6_force 0 0 22 [some (.ref 45), some (.int x1), some (.int (S1 45 11))] [] κ S1 (it_pi κ P)
    refine ev_aload_n d_X6_force_22 rfl ?_
    refine ev_iload_n d_X6_force_23 rfl ?_
    refine ev_putI d_X6_force_24 (by decide) fl_IcedTooSoonModel_99 fw_6_11 hm.1 rfl ?_
    refine ev_iload_n d_X6_force_27 rfl ?_
    exact ev_ret (v := some (.int _)) ⟨d_X6_force_28, _, rfl, rfl⟩ (by decide) (by decide) ⟨rfl, _, rfl, it_ok_r h⟩
  · have h := it_ok_t h hc3
    refine ev_bipush d_X6_force_14 kv_bipush_m2 ?_
    exact ev_ret (v := some (.int _)) ⟨d_X6_force_16, _, rfl, rfl⟩ (by decide) (by decide) ⟨rfl, _, rfl, it_ok_r h⟩
theorem d_X6_asksOf_0 : decode prog_8_method_27_code 0 = .ok (.aload_n 0, 1) := by decide +kernel
theorem d_X6_asksOf_1 : decode prog_8_method_27_code 1 = .ok (.getfield 19, 3) := by decide +kernel
theorem d_X6_asksOf_4 : decode prog_8_method_27_code 4 = .ok (.iconst 3, 1) := by decide +kernel
theorem d_X6_asksOf_5 : decode prog_8_method_27_code 5 = .ok (.iload_n 2, 1) := by decide +kernel
theorem d_X6_asksOf_6 : decode prog_8_method_27_code 6 = .ok (.imul, 1) := by decide +kernel
theorem d_X6_asksOf_7 : decode prog_8_method_27_code 7 = .ok (.iaload, 1) := by decide +kernel
theorem d_X6_asksOf_8 : decode prog_8_method_27_code 8 = .ok (.iconst 0, 1) := by decide +kernel
theorem d_X6_asksOf_9 : decode prog_8_method_27_code 9 = .ok (.iconst 5, 1) := by decide +kernel
theorem d_X6_asksOf_10 : decode prog_8_method_27_code 10 = .ok (.invokestatic 82, 3) := by decide +kernel
theorem d_X6_asksOf_13 : decode prog_8_method_27_code 13 = .ok (.istore_n 3, 1) := by decide +kernel
theorem d_X6_asksOf_14 : decode prog_8_method_27_code 14 = .ok (.aload_n 0, 1) := by decide +kernel
theorem d_X6_asksOf_15 : decode prog_8_method_27_code 15 = .ok (.getfield 58, 3) := by decide +kernel
theorem d_X6_asksOf_18 : decode prog_8_method_27_code 18 = .ok (.iconst 0, 1) := by decide +kernel
theorem d_X6_asksOf_19 : decode prog_8_method_27_code 19 = .ok (.aload_n 0, 1) := by decide +kernel
theorem d_X6_asksOf_20 : decode prog_8_method_27_code 20 = .ok (.getfield 19, 3) := by decide +kernel
theorem d_X6_asksOf_23 : decode prog_8_method_27_code 23 = .ok (.iconst 3, 1) := by decide +kernel
theorem d_X6_asksOf_24 : decode prog_8_method_27_code 24 = .ok (.iload_n 2, 1) := by decide +kernel
theorem d_X6_asksOf_25 : decode prog_8_method_27_code 25 = .ok (.imul, 1) := by decide +kernel
theorem d_X6_asksOf_26 : decode prog_8_method_27_code 26 = .ok (.iconst 1, 1) := by decide +kernel
theorem d_X6_asksOf_27 : decode prog_8_method_27_code 27 = .ok (.iadd, 1) := by decide +kernel
theorem d_X6_asksOf_28 : decode prog_8_method_27_code 28 = .ok (.iaload, 1) := by decide +kernel
theorem d_X6_asksOf_29 : decode prog_8_method_27_code 29 = .ok (.iastore, 1) := by decide +kernel
theorem d_X6_asksOf_30 : decode prog_8_method_27_code 30 = .ok (.aload_n 0, 1) := by decide +kernel
theorem d_X6_asksOf_31 : decode prog_8_method_27_code 31 = .ok (.getfield 58, 3) := by decide +kernel
theorem d_X6_asksOf_34 : decode prog_8_method_27_code 34 = .ok (.iconst 1, 1) := by decide +kernel
theorem d_X6_asksOf_35 : decode prog_8_method_27_code 35 = .ok (.aload_n 0, 1) := by decide +kernel
theorem d_X6_asksOf_36 : decode prog_8_method_27_code 36 = .ok (.getfield 19, 3) := by decide +kernel
theorem d_X6_asksOf_39 : decode prog_8_method_27_code 39 = .ok (.iconst 3, 1) := by decide +kernel
theorem d_X6_asksOf_40 : decode prog_8_method_27_code 40 = .ok (.iload_n 2, 1) := by decide +kernel
theorem d_X6_asksOf_41 : decode prog_8_method_27_code 41 = .ok (.imul, 1) := by decide +kernel
theorem d_X6_asksOf_42 : decode prog_8_method_27_code 42 = .ok (.iconst 2, 1) := by decide +kernel
theorem d_X6_asksOf_43 : decode prog_8_method_27_code 43 = .ok (.iadd, 1) := by decide +kernel
theorem d_X6_asksOf_44 : decode prog_8_method_27_code 44 = .ok (.iaload, 1) := by decide +kernel
theorem d_X6_asksOf_45 : decode prog_8_method_27_code 45 = .ok (.iastore, 1) := by decide +kernel
theorem d_X6_asksOf_46 : decode prog_8_method_27_code 46 = .ok (.aload_n 0, 1) := by decide +kernel
theorem d_X6_asksOf_47 : decode prog_8_method_27_code 47 = .ok (.getfield 58, 3) := by decide +kernel
theorem d_X6_asksOf_50 : decode prog_8_method_27_code 50 = .ok (.iconst 2, 1) := by decide +kernel
theorem d_X6_asksOf_51 : decode prog_8_method_27_code 51 = .ok (.aload_n 0, 1) := by decide +kernel
theorem d_X6_asksOf_52 : decode prog_8_method_27_code 52 = .ok (.getfield 16, 3) := by decide +kernel
theorem d_X6_asksOf_55 : decode prog_8_method_27_code 55 = .ok (.iconst 2, 1) := by decide +kernel
theorem d_X6_asksOf_56 : decode prog_8_method_27_code 56 = .ok (.iload_n 3, 1) := by decide +kernel
theorem d_X6_asksOf_57 : decode prog_8_method_27_code 57 = .ok (.imul, 1) := by decide +kernel
theorem d_X6_asksOf_58 : decode prog_8_method_27_code 58 = .ok (.iconst 1, 1) := by decide +kernel
theorem d_X6_asksOf_59 : decode prog_8_method_27_code 59 = .ok (.iadd, 1) := by decide +kernel
theorem d_X6_asksOf_60 : decode prog_8_method_27_code 60 = .ok (.iaload, 1) := by decide +kernel
theorem d_X6_asksOf_61 : decode prog_8_method_27_code 61 = .ok (.iastore, 1) := by decide +kernel
theorem d_X6_asksOf_62 : decode prog_8_method_27_code 62 = .ok (.aload_n 0, 1) := by decide +kernel
theorem d_X6_asksOf_63 : decode prog_8_method_27_code 63 = .ok (.getfield 58, 3) := by decide +kernel
theorem d_X6_asksOf_66 : decode prog_8_method_27_code 66 = .ok (.iconst 3, 1) := by decide +kernel
theorem d_X6_asksOf_67 : decode prog_8_method_27_code 67 = .ok (.aload_n 0, 1) := by decide +kernel
theorem d_X6_asksOf_68 : decode prog_8_method_27_code 68 = .ok (.getfield 16, 3) := by decide +kernel
theorem d_X6_asksOf_71 : decode prog_8_method_27_code 71 = .ok (.iconst 2, 1) := by decide +kernel
theorem d_X6_asksOf_72 : decode prog_8_method_27_code 72 = .ok (.iload_n 3, 1) := by decide +kernel
theorem d_X6_asksOf_73 : decode prog_8_method_27_code 73 = .ok (.imul, 1) := by decide +kernel
theorem d_X6_asksOf_74 : decode prog_8_method_27_code 74 = .ok (.iaload, 1) := by decide +kernel
theorem d_X6_asksOf_75 : decode prog_8_method_27_code 75 = .ok (.iastore, 1) := by decide +kernel
theorem d_X6_asksOf_76 : decode prog_8_method_27_code 76 = .ok (.aload_n 0, 1) := by decide +kernel
theorem d_X6_asksOf_77 : decode prog_8_method_27_code 77 = .ok (.getfield 58, 3) := by decide +kernel
theorem d_X6_asksOf_80 : decode prog_8_method_27_code 80 = .ok (.iconst 4, 1) := by decide +kernel
theorem d_X6_asksOf_81 : decode prog_8_method_27_code 81 = .ok (.aload_n 0, 1) := by decide +kernel
theorem d_X6_asksOf_82 : decode prog_8_method_27_code 82 = .ok (.getfield 93, 3) := by decide +kernel
theorem d_X6_asksOf_85 : decode prog_8_method_27_code 85 = .ok (.iastore, 1) := by decide +kernel
theorem d_X6_asksOf_86 : decode prog_8_method_27_code 86 = .ok (.aload_n 0, 1) := by decide +kernel
theorem d_X6_asksOf_87 : decode prog_8_method_27_code 87 = .ok (.getfield 58, 3) := by decide +kernel
theorem d_X6_asksOf_90 : decode prog_8_method_27_code 90 = .ok (.iconst 5, 1) := by decide +kernel
theorem d_X6_asksOf_91 : decode prog_8_method_27_code 91 = .ok (.aload_n 0, 1) := by decide +kernel
theorem d_X6_asksOf_92 : decode prog_8_method_27_code 92 = .ok (.getfield 13, 3) := by decide +kernel
theorem d_X6_asksOf_95 : decode prog_8_method_27_code 95 = .ok (.iload_n 3, 1) := by decide +kernel
theorem d_X6_asksOf_96 : decode prog_8_method_27_code 96 = .ok (.iaload, 1) := by decide +kernel
theorem d_X6_asksOf_97 : decode prog_8_method_27_code 97 = .ok (.iastore, 1) := by decide +kernel
theorem d_X6_asksOf_98 : decode prog_8_method_27_code 98 = .ok (.aload_n 0, 1) := by decide +kernel
theorem d_X6_asksOf_99 : decode prog_8_method_27_code 99 = .ok (.iload_n 1, 1) := by decide +kernel
theorem d_X6_asksOf_100 : decode prog_8_method_27_code 100 = .ok (.invokevirtual 164, 3) := by decide +kernel
theorem d_X6_asksOf_103 : decode prog_8_method_27_code 103 = .ok (.iload_n 1, 1) := by decide +kernel
theorem d_X6_asksOf_104 : decode prog_8_method_27_code 104 = .ok (.iconst 1, 1) := by decide +kernel
theorem d_X6_asksOf_105 : decode prog_8_method_27_code 105 = .ok (.if_icmp .ne 8, 3) := by decide +kernel
theorem d_X6_asksOf_108 : decode prog_8_method_27_code 108 = .ok (.bipush (-99), 2) := by decide +kernel
theorem d_X6_asksOf_110 : decode prog_8_method_27_code 110 = .ok (.goto 4, 3) := by decide +kernel
theorem d_X6_asksOf_113 : decode prog_8_method_27_code 113 = .ok (.iconst 0, 1) := by decide +kernel
theorem d_X6_asksOf_114 : decode prog_8_method_27_code 114 = .ok (.bipush 99, 2) := by decide +kernel
theorem d_X6_asksOf_116 : decode prog_8_method_27_code 116 = .ok (.invokestatic 82, 3) := by decide +kernel
theorem d_X6_asksOf_119 : decode prog_8_method_27_code 119 = .ok (.ireturn, 1) := by decide +kernel
def f_X6_asksOf (κ : it_KK) (x1 : Int32) (x2 : Int32) (S : it_SS) : Option (Int32 × it_SS) :=
if it_bd (3 * x2) 30 = true then
it_bi (f_X6_within κ (S 49 ((3 * x2) : Int32).toNatClampNeg) 0 5 S) (fun r3 S2 =>
if it_bd ((3 * x2) + 1) 30 = true then
if it_bd ((3 * x2) + 2) 30 = true then
if it_bd ((2 * r3) + 1) 12 = true then
if it_bd (2 * r3) 12 = true then
if it_bd r3 6 = true then
it_bi (f_X6_says κ x1 (it_up (it_up (it_up (it_up (it_up (it_up S2 62 (0 : Int32).toNatClampNeg (S2 49 (((3 * x2) + 1) : Int32).toNatClampNeg)) 62 (1 : Int32).toNatClampNeg ((it_up S2 62 (0 : Int32).toNatClampNeg (S2 49 (((3 * x2) + 1) : Int32).toNatClampNeg)) 49 (((3 * x2) + 2) : Int32).toNatClampNeg)) 62 (2 : Int32).toNatClampNeg ((it_up (it_up S2 62 (0 : Int32).toNatClampNeg (S2 49 (((3 * x2) + 1) : Int32).toNatClampNeg)) 62 (1 : Int32).toNatClampNeg ((it_up S2 62 (0 : Int32).toNatClampNeg (S2 49 (((3 * x2) + 1) : Int32).toNatClampNeg)) 49 (((3 * x2) + 2) : Int32).toNatClampNeg)) 48 (((2 * r3) + 1) : Int32).toNatClampNeg)) 62 (3 : Int32).toNatClampNeg ((it_up (it_up (it_up S2 62 (0 : Int32).toNatClampNeg (S2 49 (((3 * x2) + 1) : Int32).toNatClampNeg)) 62 (1 : Int32).toNatClampNeg ((it_up S2 62 (0 : Int32).toNatClampNeg (S2 49 (((3 * x2) + 1) : Int32).toNatClampNeg)) 49 (((3 * x2) + 2) : Int32).toNatClampNeg)) 62 (2 : Int32).toNatClampNeg ((it_up (it_up S2 62 (0 : Int32).toNatClampNeg (S2 49 (((3 * x2) + 1) : Int32).toNatClampNeg)) 62 (1 : Int32).toNatClampNeg ((it_up S2 62 (0 : Int32).toNatClampNeg (S2 49 (((3 * x2) + 1) : Int32).toNatClampNeg)) 49 (((3 * x2) + 2) : Int32).toNatClampNeg)) 48 (((2 * r3) + 1) : Int32).toNatClampNeg)) 48 ((2 * r3) : Int32).toNatClampNeg)) 62 (4 : Int32).toNatClampNeg ((it_up (it_up (it_up (it_up S2 62 (0 : Int32).toNatClampNeg (S2 49 (((3 * x2) + 1) : Int32).toNatClampNeg)) 62 (1 : Int32).toNatClampNeg ((it_up S2 62 (0 : Int32).toNatClampNeg (S2 49 (((3 * x2) + 1) : Int32).toNatClampNeg)) 49 (((3 * x2) + 2) : Int32).toNatClampNeg)) 62 (2 : Int32).toNatClampNeg ((it_up (it_up S2 62 (0 : Int32).toNatClampNeg (S2 49 (((3 * x2) + 1) : Int32).toNatClampNeg)) 62 (1 : Int32).toNatClampNeg ((it_up S2 62 (0 : Int32).toNatClampNeg (S2 49 (((3 * x2) + 1) : Int32).toNatClampNeg)) 49 (((3 * x2) + 2) : Int32).toNatClampNeg)) 48 (((2 * r3) + 1) : Int32).toNatClampNeg)) 62 (3 : Int32).toNatClampNeg ((it_up (it_up (it_up S2 62 (0 : Int32).toNatClampNeg (S2 49 (((3 * x2) + 1) : Int32).toNatClampNeg)) 62 (1 : Int32).toNatClampNeg ((it_up S2 62 (0 : Int32).toNatClampNeg (S2 49 (((3 * x2) + 1) : Int32).toNatClampNeg)) 49 (((3 * x2) + 2) : Int32).toNatClampNeg)) 62 (2 : Int32).toNatClampNeg ((it_up (it_up S2 62 (0 : Int32).toNatClampNeg (S2 49 (((3 * x2) + 1) : Int32).toNatClampNeg)) 62 (1 : Int32).toNatClampNeg ((it_up S2 62 (0 : Int32).toNatClampNeg (S2 49 (((3 * x2) + 1) : Int32).toNatClampNeg)) 49 (((3 * x2) + 2) : Int32).toNatClampNeg)) 48 (((2 * r3) + 1) : Int32).toNatClampNeg)) 48 ((2 * r3) : Int32).toNatClampNeg)) 45 5)) 62 (5 : Int32).toNatClampNeg ((it_up (it_up (it_up (it_up (it_up S2 62 (0 : Int32).toNatClampNeg (S2 49 (((3 * x2) + 1) : Int32).toNatClampNeg)) 62 (1 : Int32).toNatClampNeg ((it_up S2 62 (0 : Int32).toNatClampNeg (S2 49 (((3 * x2) + 1) : Int32).toNatClampNeg)) 49 (((3 * x2) + 2) : Int32).toNatClampNeg)) 62 (2 : Int32).toNatClampNeg ((it_up (it_up S2 62 (0 : Int32).toNatClampNeg (S2 49 (((3 * x2) + 1) : Int32).toNatClampNeg)) 62 (1 : Int32).toNatClampNeg ((it_up S2 62 (0 : Int32).toNatClampNeg (S2 49 (((3 * x2) + 1) : Int32).toNatClampNeg)) 49 (((3 * x2) + 2) : Int32).toNatClampNeg)) 48 (((2 * r3) + 1) : Int32).toNatClampNeg)) 62 (3 : Int32).toNatClampNeg ((it_up (it_up (it_up S2 62 (0 : Int32).toNatClampNeg (S2 49 (((3 * x2) + 1) : Int32).toNatClampNeg)) 62 (1 : Int32).toNatClampNeg ((it_up S2 62 (0 : Int32).toNatClampNeg (S2 49 (((3 * x2) + 1) : Int32).toNatClampNeg)) 49 (((3 * x2) + 2) : Int32).toNatClampNeg)) 62 (2 : Int32).toNatClampNeg ((it_up (it_up S2 62 (0 : Int32).toNatClampNeg (S2 49 (((3 * x2) + 1) : Int32).toNatClampNeg)) 62 (1 : Int32).toNatClampNeg ((it_up S2 62 (0 : Int32).toNatClampNeg (S2 49 (((3 * x2) + 1) : Int32).toNatClampNeg)) 49 (((3 * x2) + 2) : Int32).toNatClampNeg)) 48 (((2 * r3) + 1) : Int32).toNatClampNeg)) 48 ((2 * r3) : Int32).toNatClampNeg)) 62 (4 : Int32).toNatClampNeg ((it_up (it_up (it_up (it_up S2 62 (0 : Int32).toNatClampNeg (S2 49 (((3 * x2) + 1) : Int32).toNatClampNeg)) 62 (1 : Int32).toNatClampNeg ((it_up S2 62 (0 : Int32).toNatClampNeg (S2 49 (((3 * x2) + 1) : Int32).toNatClampNeg)) 49 (((3 * x2) + 2) : Int32).toNatClampNeg)) 62 (2 : Int32).toNatClampNeg ((it_up (it_up S2 62 (0 : Int32).toNatClampNeg (S2 49 (((3 * x2) + 1) : Int32).toNatClampNeg)) 62 (1 : Int32).toNatClampNeg ((it_up S2 62 (0 : Int32).toNatClampNeg (S2 49 (((3 * x2) + 1) : Int32).toNatClampNeg)) 49 (((3 * x2) + 2) : Int32).toNatClampNeg)) 48 (((2 * r3) + 1) : Int32).toNatClampNeg)) 62 (3 : Int32).toNatClampNeg ((it_up (it_up (it_up S2 62 (0 : Int32).toNatClampNeg (S2 49 (((3 * x2) + 1) : Int32).toNatClampNeg)) 62 (1 : Int32).toNatClampNeg ((it_up S2 62 (0 : Int32).toNatClampNeg (S2 49 (((3 * x2) + 1) : Int32).toNatClampNeg)) 49 (((3 * x2) + 2) : Int32).toNatClampNeg)) 62 (2 : Int32).toNatClampNeg ((it_up (it_up S2 62 (0 : Int32).toNatClampNeg (S2 49 (((3 * x2) + 1) : Int32).toNatClampNeg)) 62 (1 : Int32).toNatClampNeg ((it_up S2 62 (0 : Int32).toNatClampNeg (S2 49 (((3 * x2) + 1) : Int32).toNatClampNeg)) 49 (((3 * x2) + 2) : Int32).toNatClampNeg)) 48 (((2 * r3) + 1) : Int32).toNatClampNeg)) 48 ((2 * r3) : Int32).toNatClampNeg)) 45 5)) 47 (r3 : Int32).toNatClampNeg))) (fun r10 S9 =>
if x1 = 1 then
it_bi (f_X6_within κ r10 (-99) 99 S9) (fun r15 S14 =>
some (r15, S14))
else
it_bi (f_X6_within κ r10 0 99 S9) (fun r13 S12 =>
some (r13, S12)))
else none
else none
else none
else none
else none)
else none
set_option maxHeartbeats 4000000 in
set_option maxRecDepth 100000 in
theorem L_X6_asksOf {g : it_G} {l : Launch} {κ : it_KK} {x1 : Int32} {x2 : Int32} (hm : it_wm κ) {S : it_SS} {P : Int32 → it_SS → Prop} (h : it_ok (f_X6_asksOf κ x1 x2 S) P) : it_Cn g l 3 it_m_X6_asksOf [.ref 45, .int x1, .int x2] κ S (it_pi κ P) := by
  refine it_Cn.of (by decide +kernel) (Nat.le_of_ble_eq_true rfl) ?_
  rw [f_X6_asksOf] at h
  show it_Ev g l 3 it_m_X6_asksOf 0 0 0 [some (.ref 45), some (.int x1), some (.int x2), none] [] κ S (it_pi κ P)
  refine ev_aload_n d_X6_asksOf_0 rfl ?_
  refine ev_getRr (r := 49) rfl d_X6_asksOf_1 fl_IcedTooSoonModel_19 hm.1 rfl ?_
  refine ev_iconst d_X6_asksOf_4 kv_iconst_3 ?_
  refine ev_iload_n d_X6_asksOf_5 rfl ?_
  refine ev_imul d_X6_asksOf_6 ?_
  obtain ⟨hb1, h⟩ := it_ok_g h
  refine ev_iald d_X6_asksOf_7 (hm).2.2.2.2.1 (it_bd_in hb1) ?_
  refine ev_iconst d_X6_asksOf_8 kv_iconst_0 ?_
  refine ev_iconst d_X6_asksOf_9 kv_iconst_5 ?_
  refine ev_callS (M' := it_m_X6_within) (d' := 1) (As := [.int (S 49 ((3 * x2) : Int32).toNatClampNeg), .int 0, .int 5]) d_X6_asksOf_10 ml_IcedTooSoonModel_82 rfl rfl (Nat.le_of_ble_eq_true rfl) (by decide) (by decide) (by decide) (L_X6_within  (it_ok_b h)) (fun _ _ _ _ q => by cases q.1; rfl) ?_
  rintro _ _ S2 ⟨rfl, r3, rfl, h⟩
  show it_Ev g l 3 it_m_X6_asksOf 0 0 13 [some (.ref 45), some (.int x1), some (.int x2), none] [.int r3] κ S2 (it_pi κ P)
  refine ev_istore_n d_X6_asksOf_13 (by decide) ?_
  show it_Ev g l 3 it_m_X6_asksOf 0 0 14 [some (.ref 45), some (.int x1), some (.int x2), some (.int r3)] [] κ S2 (it_pi κ P)
  refine ev_aload_n d_X6_asksOf_14 rfl ?_
  refine ev_getRr (r := 62) rfl d_X6_asksOf_15 fl_IcedTooSoonModel_58 hm.1 rfl ?_
  refine ev_iconst d_X6_asksOf_18 kv_iconst_0 ?_
  refine ev_aload_n d_X6_asksOf_19 rfl ?_
  refine ev_getRr (r := 49) rfl d_X6_asksOf_20 fl_IcedTooSoonModel_19 hm.1 rfl ?_
  refine ev_iconst d_X6_asksOf_23 kv_iconst_3 ?_
  refine ev_iload_n d_X6_asksOf_24 rfl ?_
  refine ev_imul d_X6_asksOf_25 ?_
  refine ev_iconst d_X6_asksOf_26 kv_iconst_1 ?_
  refine ev_iadd d_X6_asksOf_27 ?_
  obtain ⟨hb4, h⟩ := it_ok_g h
  refine ev_iald d_X6_asksOf_28 (hm).2.2.2.2.1 (it_bd_in hb4) ?_
  refine ev_iast d_X6_asksOf_29 (by decide) (hm).2.2.2.2.2.2.2.2.2.2.2.2.2.2.2.2.2.1 (it_bd_in (by decide)) ?_
  refine ev_aload_n d_X6_asksOf_30 rfl ?_
  refine ev_getRr (r := 62) rfl d_X6_asksOf_31 fl_IcedTooSoonModel_58 hm.1 rfl ?_
  refine ev_iconst d_X6_asksOf_34 kv_iconst_1 ?_
  refine ev_aload_n d_X6_asksOf_35 rfl ?_
  refine ev_getRr (r := 49) rfl d_X6_asksOf_36 fl_IcedTooSoonModel_19 hm.1 rfl ?_
  refine ev_iconst d_X6_asksOf_39 kv_iconst_3 ?_
  refine ev_iload_n d_X6_asksOf_40 rfl ?_
  refine ev_imul d_X6_asksOf_41 ?_
  refine ev_iconst d_X6_asksOf_42 kv_iconst_2 ?_
  refine ev_iadd d_X6_asksOf_43 ?_
  obtain ⟨hb5, h⟩ := it_ok_g h
  refine ev_iald d_X6_asksOf_44 (hm).2.2.2.2.1 (it_bd_in hb5) ?_
  refine ev_iast d_X6_asksOf_45 (by decide) (hm).2.2.2.2.2.2.2.2.2.2.2.2.2.2.2.2.2.1 (it_bd_in (by decide)) ?_
  refine ev_aload_n d_X6_asksOf_46 rfl ?_
  refine ev_getRr (r := 62) rfl d_X6_asksOf_47 fl_IcedTooSoonModel_58 hm.1 rfl ?_
  refine ev_iconst d_X6_asksOf_50 kv_iconst_2 ?_
  refine ev_aload_n d_X6_asksOf_51 rfl ?_
  refine ev_getRr (r := 48) rfl d_X6_asksOf_52 fl_IcedTooSoonModel_16 hm.1 rfl ?_
  refine ev_iconst d_X6_asksOf_55 kv_iconst_2 ?_
  refine ev_iload_n d_X6_asksOf_56 rfl ?_
  refine ev_imul d_X6_asksOf_57 ?_
  refine ev_iconst d_X6_asksOf_58 kv_iconst_1 ?_
  refine ev_iadd d_X6_asksOf_59 ?_
  obtain ⟨hb6, h⟩ := it_ok_g h
  refine ev_iald d_X6_asksOf_60 (hm).2.2.2.1 (it_bd_in hb6) ?_
  refine ev_iast d_X6_asksOf_61 (by decide) (hm).2.2.2.2.2.2.2.2.2.2.2.2.2.2.2.2.2.1 (it_bd_in (by decide)) ?_
  refine ev_aload_n d_X6_asksOf_62 rfl ?_
  refine ev_getRr (r := 62) rfl d_X6_asksOf_63 fl_IcedTooSoonModel_58 hm.1 rfl ?_
  refine ev_iconst d_X6_asksOf_66 kv_iconst_3 ?_
  refine ev_aload_n d_X6_asksOf_67 rfl ?_
  refine ev_getRr (r := 48) rfl d_X6_asksOf_68 fl_IcedTooSoonModel_16 hm.1 rfl ?_
  refine ev_iconst d_X6_asksOf_71 kv_iconst_2 ?_
  refine ev_iload_n d_X6_asksOf_72 rfl ?_
  refine ev_imul d_X6_asksOf_73 ?_
  obtain ⟨hb7, h⟩ := it_ok_g h
  refine ev_iald d_X6_asksOf_74 (hm).2.2.2.1 (it_bd_in hb7) ?_
  refine ev_iast d_X6_asksOf_75 (by decide) (hm).2.2.2.2.2.2.2.2.2.2.2.2.2.2.2.2.2.1 (it_bd_in (by decide)) ?_
  refine ev_aload_n d_X6_asksOf_76 rfl ?_
  refine ev_getRr (r := 62) rfl d_X6_asksOf_77 fl_IcedTooSoonModel_58 hm.1 rfl ?_
  refine ev_iconst d_X6_asksOf_80 kv_iconst_4 ?_
  refine ev_aload_n d_X6_asksOf_81 rfl ?_
  refine ev_getI d_X6_asksOf_82 fl_IcedTooSoonModel_93 hm.1 rfl ?_
  refine ev_iast d_X6_asksOf_85 (by decide) (hm).2.2.2.2.2.2.2.2.2.2.2.2.2.2.2.2.2.1 (it_bd_in (by decide)) ?_
  refine ev_aload_n d_X6_asksOf_86 rfl ?_
  refine ev_getRr (r := 62) rfl d_X6_asksOf_87 fl_IcedTooSoonModel_58 hm.1 rfl ?_
  refine ev_iconst d_X6_asksOf_90 kv_iconst_5 ?_
  refine ev_aload_n d_X6_asksOf_91 rfl ?_
  refine ev_getRr (r := 47) rfl d_X6_asksOf_92 fl_IcedTooSoonModel_13 hm.1 rfl ?_
  refine ev_iload_n d_X6_asksOf_95 rfl ?_
  obtain ⟨hb8, h⟩ := it_ok_g h
  refine ev_iald d_X6_asksOf_96 (hm).2.2.1 (it_bd_in hb8) ?_
  refine ev_iast d_X6_asksOf_97 (by decide) (hm).2.2.2.2.2.2.2.2.2.2.2.2.2.2.2.2.2.1 (it_bd_in (by decide)) ?_
  refine ev_aload_n d_X6_asksOf_98 rfl ?_
  refine ev_iload_n d_X6_asksOf_99 rfl ?_
  refine ev_callV (ci := 6) (b := 45) (M' := it_m_X6_says) (d' := 2) (As := [.int x1]) d_X6_asksOf_100 ml_IcedTooSoonModel_164 hm.1.1 hm.1.2.1 ⟨_, rfl, rfl⟩ rfl rfl (Nat.le_of_ble_eq_true rfl) (by decide) (by decide) (by decide) (L_X6_says hm (it_ok_b h)) (fun _ _ _ _ q => by cases q.1; rfl) ?_
  rintro _ _ S9 ⟨rfl, r10, rfl, h⟩
  show it_Ev g l 3 it_m_X6_asksOf 0 0 103 [some (.ref 45), some (.int x1), some (.int x2), some (.int r3)] [.int r10] κ S9 (it_pi κ P)
  refine ev_iload_n d_X6_asksOf_103 rfl ?_
  refine ev_iconst d_X6_asksOf_104 kv_iconst_1 ?_
  refine ev_icmp_ne (tgt := 113) d_X6_asksOf_105 (by decide) (fun hc11 => ?_) (fun hc11 => ?_)
  · have h := it_ok_f h hc11
    refine ev_iconst d_X6_asksOf_113 kv_iconst_0 ?_
    refine ev_bipush d_X6_asksOf_114 kv_bipush_99 ?_
    refine ev_callS (M' := it_m_X6_within) (d' := 1) (As := [.int r10, .int 0, .int 99]) d_X6_asksOf_116 ml_IcedTooSoonModel_82 rfl rfl (Nat.le_of_ble_eq_true rfl) (by decide) (by decide) (by decide) (L_X6_within  (it_ok_b h)) (fun _ _ _ _ q => by cases q.1; rfl) ?_
    rintro _ _ S12 ⟨rfl, r13, rfl, h⟩
    show it_Ev g l 3 it_m_X6_asksOf 0 0 119 [some (.ref 45), some (.int x1), some (.int x2), some (.int r3)] [.int r13] κ S12 (it_pi κ P)
    exact ev_ret (v := some (.int _)) ⟨d_X6_asksOf_119, _, rfl, rfl⟩ (by decide) (by decide) ⟨rfl, _, rfl, it_ok_r h⟩
  · have h := it_ok_t h hc11
    refine ev_bipush d_X6_asksOf_108 kv_bipush_m99 ?_
    refine ev_goto (tgt := 114) d_X6_asksOf_110 (by decide) ?_
    refine ev_bipush d_X6_asksOf_114 kv_bipush_99 ?_
    refine ev_callS (M' := it_m_X6_within) (d' := 1) (As := [.int r10, .int (-99), .int 99]) d_X6_asksOf_116 ml_IcedTooSoonModel_82 rfl rfl (Nat.le_of_ble_eq_true rfl) (by decide) (by decide) (by decide) (L_X6_within  (it_ok_b h)) (fun _ _ _ _ q => by cases q.1; rfl) ?_
    rintro _ _ S14 ⟨rfl, r15, rfl, h⟩
    show it_Ev g l 3 it_m_X6_asksOf 0 0 119 [some (.ref 45), some (.int x1), some (.int x2), some (.int r3)] [.int r15] κ S14 (it_pi κ P)
    exact ev_ret (v := some (.int _)) ⟨d_X6_asksOf_119, _, rfl, rfl⟩ (by decide) (by decide) ⟨rfl, _, rfl, it_ok_r h⟩
theorem d_X6_asks_0 : decode prog_8_method_28_code 0 = .ok (.iload_n 1, 1) := by decide +kernel
theorem d_X6_asks_1 : decode prog_8_method_28_code 1 = .ok (.iconst 0, 1) := by decide +kernel
theorem d_X6_asks_2 : decode prog_8_method_28_code 2 = .ok (.iconst 2, 1) := by decide +kernel
theorem d_X6_asks_3 : decode prog_8_method_28_code 3 = .ok (.invokestatic 78, 3) := by decide +kernel
theorem d_X6_asks_6 : decode prog_8_method_28_code 6 = .ok (.ifCond .eq 20, 3) := by decide +kernel
theorem d_X6_asks_9 : decode prog_8_method_28_code 9 = .ok (.aload_n 0, 1) := by decide +kernel
theorem d_X6_asks_10 : decode prog_8_method_28_code 10 = .ok (.iload_n 2, 1) := by decide +kernel
theorem d_X6_asks_11 : decode prog_8_method_28_code 11 = .ok (.invokevirtual 86, 3) := by decide +kernel
theorem d_X6_asks_14 : decode prog_8_method_28_code 14 = .ok (.ifCond .eq 12, 3) := by decide +kernel
theorem d_X6_asks_17 : decode prog_8_method_28_code 17 = .ok (.aload_n 0, 1) := by decide +kernel
theorem d_X6_asks_18 : decode prog_8_method_28_code 18 = .ok (.iload_n 1, 1) := by decide +kernel
theorem d_X6_asks_19 : decode prog_8_method_28_code 19 = .ok (.iload_n 2, 1) := by decide +kernel
theorem d_X6_asks_20 : decode prog_8_method_28_code 20 = .ok (.invokevirtual 167, 3) := by decide +kernel
theorem d_X6_asks_23 : decode prog_8_method_28_code 23 = .ok (.goto 6, 3) := by decide +kernel
theorem d_X6_asks_26 : decode prog_8_method_28_code 26 = .ok (.sipush (-1000), 3) := by decide +kernel
theorem d_X6_asks_29 : decode prog_8_method_28_code 29 = .ok (.ireturn, 1) := by decide +kernel
def f_X6_asks (κ : it_KK) (x1 : Int32) (x2 : Int32) (S : it_SS) : Option (Int32 × it_SS) :=
it_bi (f_X6_in κ x1 0 2 S) (fun r2 S1 =>
if r2 = 0 then
some ((-1000), S1)
else
it_bi (f_X6_isThere κ x2 S1) (fun r5 S4 =>
if r5 = 0 then
some ((-1000), S4)
else
it_bi (f_X6_asksOf κ x1 x2 S4) (fun r8 S7 =>
some (r8, S7))))
set_option maxHeartbeats 4000000 in
set_option maxRecDepth 100000 in
theorem L_X6_asks {g : it_G} {l : Launch} {κ : it_KK} {x1 : Int32} {x2 : Int32} (hm : it_wm κ) {S : it_SS} {P : Int32 → it_SS → Prop} (h : it_ok (f_X6_asks κ x1 x2 S) P) : it_Cn g l 4 it_m_X6_asks [.ref 45, .int x1, .int x2] κ S (it_pi κ P) := by
  refine it_Cn.of (by decide +kernel) (Nat.le_of_ble_eq_true rfl) ?_
  rw [f_X6_asks] at h
  show it_Ev g l 4 it_m_X6_asks 0 0 0 [some (.ref 45), some (.int x1), some (.int x2)] [] κ S (it_pi κ P)
  refine ev_iload_n d_X6_asks_0 rfl ?_
  refine ev_iconst d_X6_asks_1 kv_iconst_0 ?_
  refine ev_iconst d_X6_asks_2 kv_iconst_2 ?_
  refine ev_callS (M' := it_m_X6_in) (d' := 1) (As := [.int x1, .int 0, .int 2]) d_X6_asks_3 ml_IcedTooSoonModel_78 rfl rfl (Nat.le_of_ble_eq_true rfl) (by decide) (by decide) (by decide) (L_X6_in  (it_ok_b h)) (fun _ _ _ _ q => by cases q.1; rfl) ?_
  rintro _ _ S1 ⟨rfl, r2, rfl, h⟩
  show it_Ev g l 4 it_m_X6_asks 0 0 6 [some (.ref 45), some (.int x1), some (.int x2)] [.int r2] κ S1 (it_pi κ P)
  refine ev_if_eq (tgt := 26) d_X6_asks_6 (by decide) (fun hc3 => ?_) (fun hc3 => ?_)
  · have h := it_ok_t h hc3
    refine ev_sipush d_X6_asks_26 kv_sipush_m1000 ?_
    exact ev_ret (v := some (.int _)) ⟨d_X6_asks_29, _, rfl, rfl⟩ (by decide) (by decide) ⟨rfl, _, rfl, it_ok_r h⟩
  · have h := it_ok_f h hc3
    refine ev_aload_n d_X6_asks_9 rfl ?_
    refine ev_iload_n d_X6_asks_10 rfl ?_
    refine ev_callV (ci := 6) (b := 45) (M' := it_m_X6_isThere) (d' := 2) (As := [.int x2]) d_X6_asks_11 ml_IcedTooSoonModel_86 hm.1.1 hm.1.2.1 ⟨_, rfl, rfl⟩ rfl rfl (Nat.le_of_ble_eq_true rfl) (by decide) (by decide) (by decide) (L_X6_isThere hm (it_ok_b h)) (fun _ _ _ _ q => by cases q.1; rfl) ?_
    rintro _ _ S4 ⟨rfl, r5, rfl, h⟩
    show it_Ev g l 4 it_m_X6_asks 0 0 14 [some (.ref 45), some (.int x1), some (.int x2)] [.int r5] κ S4 (it_pi κ P)
    refine ev_if_eq (tgt := 26) d_X6_asks_14 (by decide) (fun hc6 => ?_) (fun hc6 => ?_)
    · have h := it_ok_t h hc6
      refine ev_sipush d_X6_asks_26 kv_sipush_m1000 ?_
      exact ev_ret (v := some (.int _)) ⟨d_X6_asks_29, _, rfl, rfl⟩ (by decide) (by decide) ⟨rfl, _, rfl, it_ok_r h⟩
    · have h := it_ok_f h hc6
      refine ev_aload_n d_X6_asks_17 rfl ?_
      refine ev_iload_n d_X6_asks_18 rfl ?_
      refine ev_iload_n d_X6_asks_19 rfl ?_
      refine ev_callV (ci := 6) (b := 45) (M' := it_m_X6_asksOf) (d' := 3) (As := [.int x1, .int x2]) d_X6_asks_20 ml_IcedTooSoonModel_167 hm.1.1 hm.1.2.1 ⟨_, rfl, rfl⟩ rfl rfl (Nat.le_of_ble_eq_true rfl) (by decide) (by decide) (by decide) (L_X6_asksOf hm (it_ok_b h)) (fun _ _ _ _ q => by cases q.1; rfl) ?_
      rintro _ _ S7 ⟨rfl, r8, rfl, h⟩
      show it_Ev g l 4 it_m_X6_asks 0 0 23 [some (.ref 45), some (.int x1), some (.int x2)] [.int r8] κ S7 (it_pi κ P)
      refine ev_goto (tgt := 29) d_X6_asks_23 (by decide) ?_
      exact ev_ret (v := some (.int _)) ⟨d_X6_asks_29, _, rfl, rfl⟩ (by decide) (by decide) ⟨rfl, _, rfl, it_ok_r h⟩
theorem d_X6_guest_0 : decode prog_8_method_29_code 0 = .ok (.iload_n 1, 1) := by decide +kernel
theorem d_X6_guest_1 : decode prog_8_method_29_code 1 = .ok (.iconst 0, 1) := by decide +kernel
theorem d_X6_guest_2 : decode prog_8_method_29_code 2 = .ok (.bipush 59, 2) := by decide +kernel
theorem d_X6_guest_4 : decode prog_8_method_29_code 4 = .ok (.invokestatic 78, 3) := by decide +kernel
theorem d_X6_guest_7 : decode prog_8_method_29_code 7 = .ok (.ifCond .eq 14, 3) := by decide +kernel
theorem d_X6_guest_10 : decode prog_8_method_29_code 10 = .ok (.iload_n 2, 1) := by decide +kernel
theorem d_X6_guest_11 : decode prog_8_method_29_code 11 = .ok (.bipush (-99), 2) := by decide +kernel
theorem d_X6_guest_13 : decode prog_8_method_29_code 13 = .ok (.bipush 99, 2) := by decide +kernel
theorem d_X6_guest_15 : decode prog_8_method_29_code 15 = .ok (.invokestatic 78, 3) := by decide +kernel
theorem d_X6_guest_18 : decode prog_8_method_29_code 18 = .ok (.ifCond .ne 6, 3) := by decide +kernel
theorem d_X6_guest_21 : decode prog_8_method_29_code 21 = .ok (.bipush (-2), 2) := by decide +kernel
theorem d_X6_guest_23 : decode prog_8_method_29_code 23 = .ok (.ireturn, 1) := by decide +kernel
theorem d_X6_guest_24 : decode prog_8_method_29_code 24 = .ok (.aload_n 0, 1) := by decide +kernel
theorem d_X6_guest_25 : decode prog_8_method_29_code 25 = .ok (.getfield 75, 3) := by decide +kernel
theorem d_X6_guest_28 : decode prog_8_method_29_code 28 = .ok (.bipush 6, 2) := by decide +kernel
theorem d_X6_guest_30 : decode prog_8_method_29_code 30 = .ok (.if_icmp .ne 6, 3) := by decide +kernel
theorem d_X6_guest_33 : decode prog_8_method_29_code 33 = .ok (.bipush (-4), 2) := by decide +kernel
theorem d_X6_guest_35 : decode prog_8_method_29_code 35 = .ok (.ireturn, 1) := by decide +kernel
theorem d_X6_guest_36 : decode prog_8_method_29_code 36 = .ok (.aload_n 0, 1) := by decide +kernel
theorem d_X6_guest_37 : decode prog_8_method_29_code 37 = .ok (.getfield 7, 3) := by decide +kernel
theorem d_X6_guest_40 : decode prog_8_method_29_code 40 = .ok (.aload_n 0, 1) := by decide +kernel
theorem d_X6_guest_41 : decode prog_8_method_29_code 41 = .ok (.getfield 75, 3) := by decide +kernel
theorem d_X6_guest_44 : decode prog_8_method_29_code 44 = .ok (.iload_n 1, 1) := by decide +kernel
theorem d_X6_guest_45 : decode prog_8_method_29_code 45 = .ok (.bipush 10, 2) := by decide +kernel
theorem d_X6_guest_47 : decode prog_8_method_29_code 47 = .ok (.idiv, 1) := by decide +kernel
theorem d_X6_guest_48 : decode prog_8_method_29_code 48 = .ok (.iastore, 1) := by decide +kernel
theorem d_X6_guest_49 : decode prog_8_method_29_code 49 = .ok (.aload_n 0, 1) := by decide +kernel
theorem d_X6_guest_50 : decode prog_8_method_29_code 50 = .ok (.getfield 13, 3) := by decide +kernel
theorem d_X6_guest_53 : decode prog_8_method_29_code 53 = .ok (.aload_n 0, 1) := by decide +kernel
theorem d_X6_guest_54 : decode prog_8_method_29_code 54 = .ok (.getfield 75, 3) := by decide +kernel
theorem d_X6_guest_57 : decode prog_8_method_29_code 57 = .ok (.iload_n 1, 1) := by decide +kernel
theorem d_X6_guest_58 : decode prog_8_method_29_code 58 = .ok (.bipush 10, 2) := by decide +kernel
theorem d_X6_guest_60 : decode prog_8_method_29_code 60 = .ok (.irem, 1) := by decide +kernel
theorem d_X6_guest_61 : decode prog_8_method_29_code 61 = .ok (.iastore, 1) := by decide +kernel
theorem d_X6_guest_62 : decode prog_8_method_29_code 62 = .ok (.aload_n 0, 1) := by decide +kernel
theorem d_X6_guest_63 : decode prog_8_method_29_code 63 = .ok (.getfield 16, 3) := by decide +kernel
theorem d_X6_guest_66 : decode prog_8_method_29_code 66 = .ok (.iconst 2, 1) := by decide +kernel
theorem d_X6_guest_67 : decode prog_8_method_29_code 67 = .ok (.aload_n 0, 1) := by decide +kernel
theorem d_X6_guest_68 : decode prog_8_method_29_code 68 = .ok (.getfield 75, 3) := by decide +kernel
theorem d_X6_guest_71 : decode prog_8_method_29_code 71 = .ok (.imul, 1) := by decide +kernel
theorem d_X6_guest_72 : decode prog_8_method_29_code 72 = .ok (.iload_n 2, 1) := by decide +kernel
theorem d_X6_guest_73 : decode prog_8_method_29_code 73 = .ok (.iastore, 1) := by decide +kernel
theorem d_X6_guest_74 : decode prog_8_method_29_code 74 = .ok (.aload_n 0, 1) := by decide +kernel
theorem d_X6_guest_75 : decode prog_8_method_29_code 75 = .ok (.getfield 16, 3) := by decide +kernel
theorem d_X6_guest_78 : decode prog_8_method_29_code 78 = .ok (.iconst 2, 1) := by decide +kernel
theorem d_X6_guest_79 : decode prog_8_method_29_code 79 = .ok (.aload_n 0, 1) := by decide +kernel
theorem d_X6_guest_80 : decode prog_8_method_29_code 80 = .ok (.getfield 75, 3) := by decide +kernel
theorem d_X6_guest_83 : decode prog_8_method_29_code 83 = .ok (.imul, 1) := by decide +kernel
theorem d_X6_guest_84 : decode prog_8_method_29_code 84 = .ok (.iconst 1, 1) := by decide +kernel
theorem d_X6_guest_85 : decode prog_8_method_29_code 85 = .ok (.iadd, 1) := by decide +kernel
theorem d_X6_guest_86 : decode prog_8_method_29_code 86 = .ok (.iconst 0, 1) := by decide +kernel
theorem d_X6_guest_87 : decode prog_8_method_29_code 87 = .ok (.iastore, 1) := by decide +kernel
theorem d_X6_guest_88 : decode prog_8_method_29_code 88 = .ok (.aload_n 0, 1) := by decide +kernel
theorem d_X6_guest_89 : decode prog_8_method_29_code 89 = .ok (.dup, 1) := by decide +kernel
theorem d_X6_guest_90 : decode prog_8_method_29_code 90 = .ok (.getfield 75, 3) := by decide +kernel
theorem d_X6_guest_93 : decode prog_8_method_29_code 93 = .ok (.iconst 1, 1) := by decide +kernel
theorem d_X6_guest_94 : decode prog_8_method_29_code 94 = .ok (.iadd, 1) := by decide +kernel
theorem d_X6_guest_95 : decode prog_8_method_29_code 95 = .ok (.putfield 75, 3) := by decide +kernel
theorem d_X6_guest_98 : decode prog_8_method_29_code 98 = .ok (.aload_n 0, 1) := by decide +kernel
theorem d_X6_guest_99 : decode prog_8_method_29_code 99 = .ok (.getfield 75, 3) := by decide +kernel
theorem d_X6_guest_102 : decode prog_8_method_29_code 102 = .ok (.iconst 1, 1) := by decide +kernel
theorem d_X6_guest_103 : decode prog_8_method_29_code 103 = .ok (.isub, 1) := by decide +kernel
theorem d_X6_guest_104 : decode prog_8_method_29_code 104 = .ok (.ireturn, 1) := by decide +kernel
def f_X6_guest (κ : it_KK) (x1 : Int32) (x2 : Int32) (S : it_SS) : Option (Int32 × it_SS) :=
it_bi (f_X6_in κ x1 0 59 S) (fun r2 S1 =>
if r2 = 0 then
some ((-2), S1)
else
it_bi (f_X6_in κ x2 (-99) 99 S1) (fun r5 S4 =>
if r5 = 0 then
some ((-2), S4)
else
if (S4 45 0) = 6 then
some ((-4), S4)
else
if it_bd (S4 45 0) 6 = true then
if it_bd ((it_up S4 46 ((S4 45 0) : Int32).toNatClampNeg (x1 / 10)) 45 0) 6 = true then
if it_bd (2 * ((it_up (it_up S4 46 ((S4 45 0) : Int32).toNatClampNeg (x1 / 10)) 47 (((it_up S4 46 ((S4 45 0) : Int32).toNatClampNeg (x1 / 10)) 45 0) : Int32).toNatClampNeg (x1 - x1 / 10 * 10)) 45 0)) 12 = true then
if it_bd ((2 * ((it_up (it_up (it_up S4 46 ((S4 45 0) : Int32).toNatClampNeg (x1 / 10)) 47 (((it_up S4 46 ((S4 45 0) : Int32).toNatClampNeg (x1 / 10)) 45 0) : Int32).toNatClampNeg (x1 - x1 / 10 * 10)) 48 ((2 * ((it_up (it_up S4 46 ((S4 45 0) : Int32).toNatClampNeg (x1 / 10)) 47 (((it_up S4 46 ((S4 45 0) : Int32).toNatClampNeg (x1 / 10)) 45 0) : Int32).toNatClampNeg (x1 - x1 / 10 * 10)) 45 0)) : Int32).toNatClampNeg x2) 45 0)) + 1) 12 = true then
some ((((it_up (it_up (it_up (it_up (it_up S4 46 ((S4 45 0) : Int32).toNatClampNeg (x1 / 10)) 47 (((it_up S4 46 ((S4 45 0) : Int32).toNatClampNeg (x1 / 10)) 45 0) : Int32).toNatClampNeg (x1 - x1 / 10 * 10)) 48 ((2 * ((it_up (it_up S4 46 ((S4 45 0) : Int32).toNatClampNeg (x1 / 10)) 47 (((it_up S4 46 ((S4 45 0) : Int32).toNatClampNeg (x1 / 10)) 45 0) : Int32).toNatClampNeg (x1 - x1 / 10 * 10)) 45 0)) : Int32).toNatClampNeg x2) 48 (((2 * ((it_up (it_up (it_up S4 46 ((S4 45 0) : Int32).toNatClampNeg (x1 / 10)) 47 (((it_up S4 46 ((S4 45 0) : Int32).toNatClampNeg (x1 / 10)) 45 0) : Int32).toNatClampNeg (x1 - x1 / 10 * 10)) 48 ((2 * ((it_up (it_up S4 46 ((S4 45 0) : Int32).toNatClampNeg (x1 / 10)) 47 (((it_up S4 46 ((S4 45 0) : Int32).toNatClampNeg (x1 / 10)) 45 0) : Int32).toNatClampNeg (x1 - x1 / 10 * 10)) 45 0)) : Int32).toNatClampNeg x2) 45 0)) + 1) : Int32).toNatClampNeg 0) 45 0 (((it_up (it_up (it_up (it_up S4 46 ((S4 45 0) : Int32).toNatClampNeg (x1 / 10)) 47 (((it_up S4 46 ((S4 45 0) : Int32).toNatClampNeg (x1 / 10)) 45 0) : Int32).toNatClampNeg (x1 - x1 / 10 * 10)) 48 ((2 * ((it_up (it_up S4 46 ((S4 45 0) : Int32).toNatClampNeg (x1 / 10)) 47 (((it_up S4 46 ((S4 45 0) : Int32).toNatClampNeg (x1 / 10)) 45 0) : Int32).toNatClampNeg (x1 - x1 / 10 * 10)) 45 0)) : Int32).toNatClampNeg x2) 48 (((2 * ((it_up (it_up (it_up S4 46 ((S4 45 0) : Int32).toNatClampNeg (x1 / 10)) 47 (((it_up S4 46 ((S4 45 0) : Int32).toNatClampNeg (x1 / 10)) 45 0) : Int32).toNatClampNeg (x1 - x1 / 10 * 10)) 48 ((2 * ((it_up (it_up S4 46 ((S4 45 0) : Int32).toNatClampNeg (x1 / 10)) 47 (((it_up S4 46 ((S4 45 0) : Int32).toNatClampNeg (x1 / 10)) 45 0) : Int32).toNatClampNeg (x1 - x1 / 10 * 10)) 45 0)) : Int32).toNatClampNeg x2) 45 0)) + 1) : Int32).toNatClampNeg 0) 45 0) + 1)) 45 0) - 1), it_up (it_up (it_up (it_up (it_up S4 46 ((S4 45 0) : Int32).toNatClampNeg (x1 / 10)) 47 (((it_up S4 46 ((S4 45 0) : Int32).toNatClampNeg (x1 / 10)) 45 0) : Int32).toNatClampNeg (x1 - x1 / 10 * 10)) 48 ((2 * ((it_up (it_up S4 46 ((S4 45 0) : Int32).toNatClampNeg (x1 / 10)) 47 (((it_up S4 46 ((S4 45 0) : Int32).toNatClampNeg (x1 / 10)) 45 0) : Int32).toNatClampNeg (x1 - x1 / 10 * 10)) 45 0)) : Int32).toNatClampNeg x2) 48 (((2 * ((it_up (it_up (it_up S4 46 ((S4 45 0) : Int32).toNatClampNeg (x1 / 10)) 47 (((it_up S4 46 ((S4 45 0) : Int32).toNatClampNeg (x1 / 10)) 45 0) : Int32).toNatClampNeg (x1 - x1 / 10 * 10)) 48 ((2 * ((it_up (it_up S4 46 ((S4 45 0) : Int32).toNatClampNeg (x1 / 10)) 47 (((it_up S4 46 ((S4 45 0) : Int32).toNatClampNeg (x1 / 10)) 45 0) : Int32).toNatClampNeg (x1 - x1 / 10 * 10)) 45 0)) : Int32).toNatClampNeg x2) 45 0)) + 1) : Int32).toNatClampNeg 0) 45 0 (((it_up (it_up (it_up (it_up S4 46 ((S4 45 0) : Int32).toNatClampNeg (x1 / 10)) 47 (((it_up S4 46 ((S4 45 0) : Int32).toNatClampNeg (x1 / 10)) 45 0) : Int32).toNatClampNeg (x1 - x1 / 10 * 10)) 48 ((2 * ((it_up (it_up S4 46 ((S4 45 0) : Int32).toNatClampNeg (x1 / 10)) 47 (((it_up S4 46 ((S4 45 0) : Int32).toNatClampNeg (x1 / 10)) 45 0) : Int32).toNatClampNeg (x1 - x1 / 10 * 10)) 45 0)) : Int32).toNatClampNeg x2) 48 (((2 * ((it_up (it_up (it_up S4 46 ((S4 45 0) : Int32).toNatClampNeg (x1 / 10)) 47 (((it_up S4 46 ((S4 45 0) : Int32).toNatClampNeg (x1 / 10)) 45 0) : Int32).toNatClampNeg (x1 - x1 / 10 * 10)) 48 ((2 * ((it_up (it_up S4 46 ((S4 45 0) : Int32).toNatClampNeg (x1 / 10)) 47 (((it_up S4 46 ((S4 45 0) : Int32).toNatClampNeg (x1 / 10)) 45 0) : Int32).toNatClampNeg (x1 - x1 / 10 * 10)) 45 0)) : Int32).toNatClampNeg x2) 45 0)) + 1) : Int32).toNatClampNeg 0) 45 0) + 1))
else none
else none
else none
else none))
set_option maxHeartbeats 4000000 in
set_option maxRecDepth 100000 in
theorem L_X6_guest {g : it_G} {l : Launch} {κ : it_KK} {x1 : Int32} {x2 : Int32} (hm : it_wm κ) {S : it_SS} {P : Int32 → it_SS → Prop} (h : it_ok (f_X6_guest κ x1 x2 S) P) : it_Cn g l 2 it_m_X6_guest [.ref 45, .int x1, .int x2] κ S (it_pi κ P) := by
  refine it_Cn.of (by decide +kernel) (Nat.le_of_ble_eq_true rfl) ?_
  rw [f_X6_guest] at h
  show it_Ev g l 2 it_m_X6_guest 0 0 0 [some (.ref 45), some (.int x1), some (.int x2)] [] κ S (it_pi κ P)
  refine ev_iload_n d_X6_guest_0 rfl ?_
  refine ev_iconst d_X6_guest_1 kv_iconst_0 ?_
  refine ev_bipush d_X6_guest_2 kv_bipush_59 ?_
  refine ev_callS (M' := it_m_X6_in) (d' := 1) (As := [.int x1, .int 0, .int 59]) d_X6_guest_4 ml_IcedTooSoonModel_78 rfl rfl (Nat.le_of_ble_eq_true rfl) (by decide) (by decide) (by decide) (L_X6_in  (it_ok_b h)) (fun _ _ _ _ q => by cases q.1; rfl) ?_
  rintro _ _ S1 ⟨rfl, r2, rfl, h⟩
  show it_Ev g l 2 it_m_X6_guest 0 0 7 [some (.ref 45), some (.int x1), some (.int x2)] [.int r2] κ S1 (it_pi κ P)
  refine ev_if_eq (tgt := 21) d_X6_guest_7 (by decide) (fun hc3 => ?_) (fun hc3 => ?_)
  · have h := it_ok_t h hc3
    refine ev_bipush d_X6_guest_21 kv_bipush_m2 ?_
    exact ev_ret (v := some (.int _)) ⟨d_X6_guest_23, _, rfl, rfl⟩ (by decide) (by decide) ⟨rfl, _, rfl, it_ok_r h⟩
  · have h := it_ok_f h hc3
    refine ev_iload_n d_X6_guest_10 rfl ?_
    refine ev_bipush d_X6_guest_11 kv_bipush_m99 ?_
    refine ev_bipush d_X6_guest_13 kv_bipush_99 ?_
    refine ev_callS (M' := it_m_X6_in) (d' := 1) (As := [.int x2, .int (-99), .int 99]) d_X6_guest_15 ml_IcedTooSoonModel_78 rfl rfl (Nat.le_of_ble_eq_true rfl) (by decide) (by decide) (by decide) (L_X6_in  (it_ok_b h)) (fun _ _ _ _ q => by cases q.1; rfl) ?_
    rintro _ _ S4 ⟨rfl, r5, rfl, h⟩
    show it_Ev g l 2 it_m_X6_guest 0 0 18 [some (.ref 45), some (.int x1), some (.int x2)] [.int r5] κ S4 (it_pi κ P)
    refine ev_if_ne (tgt := 24) d_X6_guest_18 (by decide) (fun hc6 => ?_) (fun hc6 => ?_)
    · have h := it_ok_f h hc6
      refine ev_aload_n d_X6_guest_24 rfl ?_
      refine ev_getI d_X6_guest_25 fl_IcedTooSoonModel_75 hm.1 rfl ?_
      refine ev_bipush d_X6_guest_28 kv_bipush_6 ?_
      refine ev_icmp_ne (tgt := 36) d_X6_guest_30 (by decide) (fun hc7 => ?_) (fun hc7 => ?_)
      · have h := it_ok_f h hc7
        refine ev_aload_n d_X6_guest_36 rfl ?_
        refine ev_getRr (r := 46) rfl d_X6_guest_37 fl_IcedTooSoonModel_7 hm.1 rfl ?_
        refine ev_aload_n d_X6_guest_40 rfl ?_
        refine ev_getI d_X6_guest_41 fl_IcedTooSoonModel_75 hm.1 rfl ?_
        refine ev_iload_n d_X6_guest_44 rfl ?_
        refine ev_bipush d_X6_guest_45 kv_bipush_10 ?_
        refine ev_idiv d_X6_guest_47 (by decide) ?_
        obtain ⟨hb8, h⟩ := it_ok_g h
        refine ev_iast d_X6_guest_48 (by decide) (hm).2.1 (it_bd_in hb8) ?_
        refine ev_aload_n d_X6_guest_49 rfl ?_
        refine ev_getRr (r := 47) rfl d_X6_guest_50 fl_IcedTooSoonModel_13 hm.1 rfl ?_
        refine ev_aload_n d_X6_guest_53 rfl ?_
        refine ev_getI d_X6_guest_54 fl_IcedTooSoonModel_75 hm.1 rfl ?_
        refine ev_iload_n d_X6_guest_57 rfl ?_
        refine ev_bipush d_X6_guest_58 kv_bipush_10 ?_
        refine ev_irem d_X6_guest_60 (by decide) ?_
        obtain ⟨hb9, h⟩ := it_ok_g h
        refine ev_iast d_X6_guest_61 (by decide) (hm).2.2.1 (it_bd_in hb9) ?_
        refine ev_aload_n d_X6_guest_62 rfl ?_
        refine ev_getRr (r := 48) rfl d_X6_guest_63 fl_IcedTooSoonModel_16 hm.1 rfl ?_
        refine ev_iconst d_X6_guest_66 kv_iconst_2 ?_
        refine ev_aload_n d_X6_guest_67 rfl ?_
        refine ev_getI d_X6_guest_68 fl_IcedTooSoonModel_75 hm.1 rfl ?_
        refine ev_imul d_X6_guest_71 ?_
        refine ev_iload_n d_X6_guest_72 rfl ?_
        obtain ⟨hb10, h⟩ := it_ok_g h
        refine ev_iast d_X6_guest_73 (by decide) (hm).2.2.2.1 (it_bd_in hb10) ?_
        refine ev_aload_n d_X6_guest_74 rfl ?_
        refine ev_getRr (r := 48) rfl d_X6_guest_75 fl_IcedTooSoonModel_16 hm.1 rfl ?_
        refine ev_iconst d_X6_guest_78 kv_iconst_2 ?_
        refine ev_aload_n d_X6_guest_79 rfl ?_
        refine ev_getI d_X6_guest_80 fl_IcedTooSoonModel_75 hm.1 rfl ?_
        refine ev_imul d_X6_guest_83 ?_
        refine ev_iconst d_X6_guest_84 kv_iconst_1 ?_
        refine ev_iadd d_X6_guest_85 ?_
        refine ev_iconst d_X6_guest_86 kv_iconst_0 ?_
        obtain ⟨hb11, h⟩ := it_ok_g h
        refine ev_iast d_X6_guest_87 (by decide) (hm).2.2.2.1 (it_bd_in hb11) ?_
        refine ev_aload_n d_X6_guest_88 rfl ?_
        refine ev_dup d_X6_guest_89 rfl ?_
        refine ev_getI d_X6_guest_90 fl_IcedTooSoonModel_75 hm.1 rfl ?_
        refine ev_iconst d_X6_guest_93 kv_iconst_1 ?_
        refine ev_iadd d_X6_guest_94 ?_
        refine ev_putI d_X6_guest_95 (by decide) fl_IcedTooSoonModel_75 fw_6_0 hm.1 rfl ?_
        refine ev_aload_n d_X6_guest_98 rfl ?_
        refine ev_getI d_X6_guest_99 fl_IcedTooSoonModel_75 hm.1 rfl ?_
        refine ev_iconst d_X6_guest_102 kv_iconst_1 ?_
        refine ev_isub d_X6_guest_103 ?_
        exact ev_ret (v := some (.int _)) ⟨d_X6_guest_104, _, rfl, rfl⟩ (by decide) (by decide) ⟨rfl, _, rfl, it_ok_r h⟩
      · have h := it_ok_t h hc7
        refine ev_bipush d_X6_guest_33 kv_bipush_m4 ?_
        exact ev_ret (v := some (.int _)) ⟨d_X6_guest_35, _, rfl, rfl⟩ (by decide) (by decide) ⟨rfl, _, rfl, it_ok_r h⟩
    · have h := it_ok_t h hc6
      refine ev_bipush d_X6_guest_21 kv_bipush_m2 ?_
      exact ev_ret (v := some (.int _)) ⟨d_X6_guest_23, _, rfl, rfl⟩ (by decide) (by decide) ⟨rfl, _, rfl, it_ok_r h⟩
theorem d_X6_meltsOf_0 : decode prog_8_method_30_code 0 = .ok (.aload_n 0, 1) := by decide +kernel
theorem d_X6_meltsOf_1 : decode prog_8_method_30_code 1 = .ok (.getfield 19, 3) := by decide +kernel
theorem d_X6_meltsOf_4 : decode prog_8_method_30_code 4 = .ok (.iconst 3, 1) := by decide +kernel
theorem d_X6_meltsOf_5 : decode prog_8_method_30_code 5 = .ok (.iload_n 1, 1) := by decide +kernel
theorem d_X6_meltsOf_6 : decode prog_8_method_30_code 6 = .ok (.imul, 1) := by decide +kernel
theorem d_X6_meltsOf_7 : decode prog_8_method_30_code 7 = .ok (.iaload, 1) := by decide +kernel
theorem d_X6_meltsOf_8 : decode prog_8_method_30_code 8 = .ok (.iconst 0, 1) := by decide +kernel
theorem d_X6_meltsOf_9 : decode prog_8_method_30_code 9 = .ok (.iconst 5, 1) := by decide +kernel
theorem d_X6_meltsOf_10 : decode prog_8_method_30_code 10 = .ok (.invokestatic 82, 3) := by decide +kernel
theorem d_X6_meltsOf_13 : decode prog_8_method_30_code 13 = .ok (.istore_n 2, 1) := by decide +kernel
theorem d_X6_meltsOf_14 : decode prog_8_method_30_code 14 = .ok (.aload_n 0, 1) := by decide +kernel
theorem d_X6_meltsOf_15 : decode prog_8_method_30_code 15 = .ok (.getfield 7, 3) := by decide +kernel
theorem d_X6_meltsOf_18 : decode prog_8_method_30_code 18 = .ok (.iload_n 2, 1) := by decide +kernel
theorem d_X6_meltsOf_19 : decode prog_8_method_30_code 19 = .ok (.iaload, 1) := by decide +kernel
theorem d_X6_meltsOf_20 : decode prog_8_method_30_code 20 = .ok (.iconst 5, 1) := by decide +kernel
theorem d_X6_meltsOf_21 : decode prog_8_method_30_code 21 = .ok (.if_icmp .ne 10, 3) := by decide +kernel
theorem d_X6_meltsOf_24 : decode prog_8_method_30_code 24 = .ok (.aload_n 0, 1) := by decide +kernel
theorem d_X6_meltsOf_25 : decode prog_8_method_30_code 25 = .ok (.getfield 13, 3) := by decide +kernel
theorem d_X6_meltsOf_28 : decode prog_8_method_30_code 28 = .ok (.iload_n 2, 1) := by decide +kernel
theorem d_X6_meltsOf_29 : decode prog_8_method_30_code 29 = .ok (.iaload, 1) := by decide +kernel
theorem d_X6_meltsOf_30 : decode prog_8_method_30_code 30 = .ok (.ireturn, 1) := by decide +kernel
theorem d_X6_meltsOf_31 : decode prog_8_method_30_code 31 = .ok (.aload_n 0, 1) := by decide +kernel
theorem d_X6_meltsOf_32 : decode prog_8_method_30_code 32 = .ok (.iconst 0, 1) := by decide +kernel
theorem d_X6_meltsOf_33 : decode prog_8_method_30_code 33 = .ok (.iload_n 1, 1) := by decide +kernel
theorem d_X6_meltsOf_34 : decode prog_8_method_30_code 34 = .ok (.invokevirtual 167, 3) := by decide +kernel
theorem d_X6_meltsOf_37 : decode prog_8_method_30_code 37 = .ok (.istore_n 3, 1) := by decide +kernel
theorem d_X6_meltsOf_38 : decode prog_8_method_30_code 38 = .ok (.iload_n 3, 1) := by decide +kernel
theorem d_X6_meltsOf_39 : decode prog_8_method_30_code 39 = .ok (.aload_n 0, 1) := by decide +kernel
theorem d_X6_meltsOf_40 : decode prog_8_method_30_code 40 = .ok (.getfield 13, 3) := by decide +kernel
theorem d_X6_meltsOf_43 : decode prog_8_method_30_code 43 = .ok (.iload_n 2, 1) := by decide +kernel
theorem d_X6_meltsOf_44 : decode prog_8_method_30_code 44 = .ok (.iaload, 1) := by decide +kernel
theorem d_X6_meltsOf_45 : decode prog_8_method_30_code 45 = .ok (.iadd, 1) := by decide +kernel
theorem d_X6_meltsOf_46 : decode prog_8_method_30_code 46 = .ok (.istore 4, 2) := by decide +kernel
theorem d_X6_meltsOf_48 : decode prog_8_method_30_code 48 = .ok (.aload_n 0, 1) := by decide +kernel
theorem d_X6_meltsOf_49 : decode prog_8_method_30_code 49 = .ok (.getfield 7, 3) := by decide +kernel
theorem d_X6_meltsOf_52 : decode prog_8_method_30_code 52 = .ok (.iload_n 2, 1) := by decide +kernel
theorem d_X6_meltsOf_53 : decode prog_8_method_30_code 53 = .ok (.iaload, 1) := by decide +kernel
theorem d_X6_meltsOf_54 : decode prog_8_method_30_code 54 = .ok (.tableswitch 77 2 4 #[26, 29, 52], 26) := by decide +kernel
theorem d_X6_meltsOf_80 : decode prog_8_method_30_code 80 = .ok (.iload 4, 2) := by decide +kernel
theorem d_X6_meltsOf_82 : decode prog_8_method_30_code 82 = .ok (.ireturn, 1) := by decide +kernel
theorem d_X6_meltsOf_83 : decode prog_8_method_30_code 83 = .ok (.aload_n 0, 1) := by decide +kernel
theorem d_X6_meltsOf_84 : decode prog_8_method_30_code 84 = .ok (.getfield 93, 3) := by decide +kernel
theorem d_X6_meltsOf_87 : decode prog_8_method_30_code 87 = .ok (.bipush 7, 2) := by decide +kernel
theorem d_X6_meltsOf_89 : decode prog_8_method_30_code 89 = .ok (.irem, 1) := by decide +kernel
theorem d_X6_meltsOf_90 : decode prog_8_method_30_code 90 = .ok (.aload_n 0, 1) := by decide +kernel
theorem d_X6_meltsOf_91 : decode prog_8_method_30_code 91 = .ok (.getfield 13, 3) := by decide +kernel
theorem d_X6_meltsOf_94 : decode prog_8_method_30_code 94 = .ok (.iload_n 2, 1) := by decide +kernel
theorem d_X6_meltsOf_95 : decode prog_8_method_30_code 95 = .ok (.iaload, 1) := by decide +kernel
theorem d_X6_meltsOf_96 : decode prog_8_method_30_code 96 = .ok (.if_icmp .ne 8, 3) := by decide +kernel
theorem d_X6_meltsOf_99 : decode prog_8_method_30_code 99 = .ok (.bipush 99, 2) := by decide +kernel
theorem d_X6_meltsOf_101 : decode prog_8_method_30_code 101 = .ok (.goto 4, 3) := by decide +kernel
theorem d_X6_meltsOf_104 : decode prog_8_method_30_code 104 = .ok (.iload_n 3, 1) := by decide +kernel
theorem d_X6_meltsOf_105 : decode prog_8_method_30_code 105 = .ok (.ireturn, 1) := by decide +kernel
theorem d_X6_meltsOf_106 : decode prog_8_method_30_code 106 = .ok (.aload_n 0, 1) := by decide +kernel
theorem d_X6_meltsOf_107 : decode prog_8_method_30_code 107 = .ok (.getfield 16, 3) := by decide +kernel
theorem d_X6_meltsOf_110 : decode prog_8_method_30_code 110 = .ok (.iconst 2, 1) := by decide +kernel
theorem d_X6_meltsOf_111 : decode prog_8_method_30_code 111 = .ok (.iload_n 2, 1) := by decide +kernel
theorem d_X6_meltsOf_112 : decode prog_8_method_30_code 112 = .ok (.imul, 1) := by decide +kernel
theorem d_X6_meltsOf_113 : decode prog_8_method_30_code 113 = .ok (.iconst 1, 1) := by decide +kernel
theorem d_X6_meltsOf_114 : decode prog_8_method_30_code 114 = .ok (.iadd, 1) := by decide +kernel
theorem d_X6_meltsOf_115 : decode prog_8_method_30_code 115 = .ok (.iaload, 1) := by decide +kernel
theorem d_X6_meltsOf_116 : decode prog_8_method_30_code 116 = .ok (.bipush 20, 2) := by decide +kernel
theorem d_X6_meltsOf_118 : decode prog_8_method_30_code 118 = .ok (.if_icmp .le 10, 3) := by decide +kernel
theorem d_X6_meltsOf_121 : decode prog_8_method_30_code 121 = .ok (.iload 4, 2) := by decide +kernel
theorem d_X6_meltsOf_123 : decode prog_8_method_30_code 123 = .ok (.iconst 3, 1) := by decide +kernel
theorem d_X6_meltsOf_124 : decode prog_8_method_30_code 124 = .ok (.idiv, 1) := by decide +kernel
theorem d_X6_meltsOf_125 : decode prog_8_method_30_code 125 = .ok (.goto 5, 3) := by decide +kernel
theorem d_X6_meltsOf_128 : decode prog_8_method_30_code 128 = .ok (.iload 4, 2) := by decide +kernel
theorem d_X6_meltsOf_130 : decode prog_8_method_30_code 130 = .ok (.ireturn, 1) := by decide +kernel
theorem d_X6_meltsOf_131 : decode prog_8_method_30_code 131 = .ok (.iload_n 3, 1) := by decide +kernel
theorem d_X6_meltsOf_132 : decode prog_8_method_30_code 132 = .ok (.ireturn, 1) := by decide +kernel
def f_X6_meltsOf (κ : it_KK) (x1 : Int32) (S : it_SS) : Option (Int32 × it_SS) :=
if it_bd (3 * x1) 30 = true then
it_bi (f_X6_within κ (S 49 ((3 * x1) : Int32).toNatClampNeg) 0 5 S) (fun r3 S2 =>
if it_bd r3 6 = true then
if (S2 46 (r3 : Int32).toNatClampNeg) = 5 then
some ((S2 47 (r3 : Int32).toNatClampNeg), S2)
else
it_bi (f_X6_asksOf κ 0 x1 S2) (fun r7 S6 =>
if (S6 46 (r3 : Int32).toNatClampNeg) = 2 then
some ((r7 + (S6 47 (r3 : Int32).toNatClampNeg)), S6)
else if (S6 46 (r3 : Int32).toNatClampNeg) = 3 then
if ((S6 45 5) - (S6 45 5) / 7 * 7) = (S6 47 (r3 : Int32).toNatClampNeg) then
some (99, S6)
else
some (r7, S6)
else if (S6 46 (r3 : Int32).toNatClampNeg) = 4 then
if it_bd ((2 * r3) + 1) 12 = true then
if (S6 48 (((2 * r3) + 1) : Int32).toNatClampNeg) ≤ 20 then
some ((r7 + (S6 47 (r3 : Int32).toNatClampNeg)), S6)
else
some (((r7 + (S6 47 (r3 : Int32).toNatClampNeg)) / 3), S6)
else none
else 
some (r7, S6))
else none)
else none
set_option maxHeartbeats 4000000 in
set_option maxRecDepth 100000 in
theorem L_X6_meltsOf {g : it_G} {l : Launch} {κ : it_KK} {x1 : Int32} (hm : it_wm κ) {S : it_SS} {P : Int32 → it_SS → Prop} (h : it_ok (f_X6_meltsOf κ x1 S) P) : it_Cn g l 4 it_m_X6_meltsOf [.ref 45, .int x1] κ S (it_pi κ P) := by
  refine it_Cn.of (by decide +kernel) (Nat.le_of_ble_eq_true rfl) ?_
  rw [f_X6_meltsOf] at h
  show it_Ev g l 4 it_m_X6_meltsOf 0 0 0 [some (.ref 45), some (.int x1), none, none, none] [] κ S (it_pi κ P)
  refine ev_aload_n d_X6_meltsOf_0 rfl ?_
  refine ev_getRr (r := 49) rfl d_X6_meltsOf_1 fl_IcedTooSoonModel_19 hm.1 rfl ?_
  refine ev_iconst d_X6_meltsOf_4 kv_iconst_3 ?_
  refine ev_iload_n d_X6_meltsOf_5 rfl ?_
  refine ev_imul d_X6_meltsOf_6 ?_
  obtain ⟨hb1, h⟩ := it_ok_g h
  refine ev_iald d_X6_meltsOf_7 (hm).2.2.2.2.1 (it_bd_in hb1) ?_
  refine ev_iconst d_X6_meltsOf_8 kv_iconst_0 ?_
  refine ev_iconst d_X6_meltsOf_9 kv_iconst_5 ?_
  refine ev_callS (M' := it_m_X6_within) (d' := 1) (As := [.int (S 49 ((3 * x1) : Int32).toNatClampNeg), .int 0, .int 5]) d_X6_meltsOf_10 ml_IcedTooSoonModel_82 rfl rfl (Nat.le_of_ble_eq_true rfl) (by decide) (by decide) (by decide) (L_X6_within  (it_ok_b h)) (fun _ _ _ _ q => by cases q.1; rfl) ?_
  rintro _ _ S2 ⟨rfl, r3, rfl, h⟩
  show it_Ev g l 4 it_m_X6_meltsOf 0 0 13 [some (.ref 45), some (.int x1), none, none, none] [.int r3] κ S2 (it_pi κ P)
  refine ev_istore_n d_X6_meltsOf_13 (by decide) ?_
  show it_Ev g l 4 it_m_X6_meltsOf 0 0 14 [some (.ref 45), some (.int x1), some (.int r3), none, none] [] κ S2 (it_pi κ P)
  refine ev_aload_n d_X6_meltsOf_14 rfl ?_
  refine ev_getRr (r := 46) rfl d_X6_meltsOf_15 fl_IcedTooSoonModel_7 hm.1 rfl ?_
  refine ev_iload_n d_X6_meltsOf_18 rfl ?_
  obtain ⟨hb4, h⟩ := it_ok_g h
  refine ev_iald d_X6_meltsOf_19 (hm).2.1 (it_bd_in hb4) ?_
  refine ev_iconst d_X6_meltsOf_20 kv_iconst_5 ?_
  refine ev_icmp_ne (tgt := 31) d_X6_meltsOf_21 (by decide) (fun hc5 => ?_) (fun hc5 => ?_)
  · have h := it_ok_f h hc5
    refine ev_aload_n d_X6_meltsOf_31 rfl ?_
    refine ev_iconst d_X6_meltsOf_32 kv_iconst_0 ?_
    refine ev_iload_n d_X6_meltsOf_33 rfl ?_
    refine ev_callV (ci := 6) (b := 45) (M' := it_m_X6_asksOf) (d' := 3) (As := [.int 0, .int x1]) d_X6_meltsOf_34 ml_IcedTooSoonModel_167 hm.1.1 hm.1.2.1 ⟨_, rfl, rfl⟩ rfl rfl (Nat.le_of_ble_eq_true rfl) (by decide) (by decide) (by decide) (L_X6_asksOf hm (it_ok_b h)) (fun _ _ _ _ q => by cases q.1; rfl) ?_
    rintro _ _ S6 ⟨rfl, r7, rfl, h⟩
    show it_Ev g l 4 it_m_X6_meltsOf 0 0 37 [some (.ref 45), some (.int x1), some (.int r3), none, none] [.int r7] κ S6 (it_pi κ P)
    refine ev_istore_n d_X6_meltsOf_37 (by decide) ?_
    show it_Ev g l 4 it_m_X6_meltsOf 0 0 38 [some (.ref 45), some (.int x1), some (.int r3), some (.int r7), none] [] κ S6 (it_pi κ P)
    refine ev_iload_n d_X6_meltsOf_38 rfl ?_
    refine ev_aload_n d_X6_meltsOf_39 rfl ?_
    refine ev_getRr (r := 47) rfl d_X6_meltsOf_40 fl_IcedTooSoonModel_13 hm.1 rfl ?_
    refine ev_iload_n d_X6_meltsOf_43 rfl ?_
    refine ev_iald d_X6_meltsOf_44 (hm).2.2.1 (it_bd_in hb4) ?_
    refine ev_iadd d_X6_meltsOf_45 ?_
    refine ev_istore d_X6_meltsOf_46 (by decide) ?_
    show it_Ev g l 4 it_m_X6_meltsOf 0 0 48 [some (.ref 45), some (.int x1), some (.int r3), some (.int r7), some (.int (r7 + (S6 47 (r3 : Int32).toNatClampNeg)))] [] κ S6 (it_pi κ P)
    refine ev_aload_n d_X6_meltsOf_48 rfl ?_
    refine ev_getRr (r := 46) rfl d_X6_meltsOf_49 fl_IcedTooSoonModel_7 hm.1 rfl ?_
    refine ev_iload_n d_X6_meltsOf_52 rfl ?_
    refine ev_iald d_X6_meltsOf_53 (hm).2.1 (it_bd_in hb4) ?_
    rcases Classical.em ((S6 46 (r3 : Int32).toNatClampNeg) = 2) with hc8 | hc8
    · have h := it_ok_t h hc8
      refine ev_table (c1 := 2) (off := 26) (tgt := 80) hc8 d_X6_meltsOf_54 (by decide) (by decide) (by decide) (by decide) ?_
      refine ev_iload d_X6_meltsOf_80 rfl ?_
      exact ev_ret (v := some (.int _)) ⟨d_X6_meltsOf_82, _, rfl, rfl⟩ (by decide) (by decide) ⟨rfl, _, rfl, it_ok_r h⟩
    · have h := it_ok_f h hc8
      rcases Classical.em ((S6 46 (r3 : Int32).toNatClampNeg) = 3) with hc9 | hc9
      · have h := it_ok_t h hc9
        refine ev_table (c1 := 3) (off := 29) (tgt := 83) hc9 d_X6_meltsOf_54 (by decide) (by decide) (by decide) (by decide) ?_
        refine ev_aload_n d_X6_meltsOf_83 rfl ?_
        refine ev_getI d_X6_meltsOf_84 fl_IcedTooSoonModel_93 hm.1 rfl ?_
        refine ev_bipush d_X6_meltsOf_87 kv_bipush_7 ?_
        refine ev_irem d_X6_meltsOf_89 (by decide) ?_
        refine ev_aload_n d_X6_meltsOf_90 rfl ?_
        refine ev_getRr (r := 47) rfl d_X6_meltsOf_91 fl_IcedTooSoonModel_13 hm.1 rfl ?_
        refine ev_iload_n d_X6_meltsOf_94 rfl ?_
        refine ev_iald d_X6_meltsOf_95 (hm).2.2.1 (it_bd_in hb4) ?_
        refine ev_icmp_ne (tgt := 104) d_X6_meltsOf_96 (by decide) (fun hc10 => ?_) (fun hc10 => ?_)
        · have h := it_ok_f h hc10
          refine ev_iload_n d_X6_meltsOf_104 rfl ?_
          exact ev_ret (v := some (.int _)) ⟨d_X6_meltsOf_105, _, rfl, rfl⟩ (by decide) (by decide) ⟨rfl, _, rfl, it_ok_r h⟩
        · have h := it_ok_t h hc10
          refine ev_bipush d_X6_meltsOf_99 kv_bipush_99 ?_
          refine ev_goto (tgt := 105) d_X6_meltsOf_101 (by decide) ?_
          exact ev_ret (v := some (.int _)) ⟨d_X6_meltsOf_105, _, rfl, rfl⟩ (by decide) (by decide) ⟨rfl, _, rfl, it_ok_r h⟩
      · have h := it_ok_f h hc9
        rcases Classical.em ((S6 46 (r3 : Int32).toNatClampNeg) = 4) with hc11 | hc11
        · have h := it_ok_t h hc11
          refine ev_table (c1 := 4) (off := 52) (tgt := 106) hc11 d_X6_meltsOf_54 (by decide) (by decide) (by decide) (by decide) ?_
          refine ev_aload_n d_X6_meltsOf_106 rfl ?_
          refine ev_getRr (r := 48) rfl d_X6_meltsOf_107 fl_IcedTooSoonModel_16 hm.1 rfl ?_
          refine ev_iconst d_X6_meltsOf_110 kv_iconst_2 ?_
          refine ev_iload_n d_X6_meltsOf_111 rfl ?_
          refine ev_imul d_X6_meltsOf_112 ?_
          refine ev_iconst d_X6_meltsOf_113 kv_iconst_1 ?_
          refine ev_iadd d_X6_meltsOf_114 ?_
          obtain ⟨hb12, h⟩ := it_ok_g h
          refine ev_iald d_X6_meltsOf_115 (hm).2.2.2.1 (it_bd_in hb12) ?_
          refine ev_bipush d_X6_meltsOf_116 kv_bipush_20 ?_
          refine ev_icmp_le (tgt := 128) d_X6_meltsOf_118 (by decide) (fun hc13 => ?_) (fun hc13 => ?_)
          · have h := it_ok_t h hc13
            refine ev_iload d_X6_meltsOf_128 rfl ?_
            exact ev_ret (v := some (.int _)) ⟨d_X6_meltsOf_130, _, rfl, rfl⟩ (by decide) (by decide) ⟨rfl, _, rfl, it_ok_r h⟩
          · have h := it_ok_f h hc13
            refine ev_iload d_X6_meltsOf_121 rfl ?_
            refine ev_iconst d_X6_meltsOf_123 kv_iconst_3 ?_
            refine ev_idiv d_X6_meltsOf_124 (by decide) ?_
            refine ev_goto (tgt := 130) d_X6_meltsOf_125 (by decide) ?_
            exact ev_ret (v := some (.int _)) ⟨d_X6_meltsOf_130, _, rfl, rfl⟩ (by decide) (by decide) ⟨rfl, _, rfl, it_ok_r h⟩
        · have h := it_ok_f h hc11
          refine ev_tableOut (tgt := 131) d_X6_meltsOf_54 (it_sw (fun h1 h2 => ?_)) (by decide) ?_
          · rcases (by omega : ((S6 46 (r3 : Int32).toNatClampNeg)).toInt = 2 ∨ ((S6 46 (r3 : Int32).toNatClampNeg)).toInt = 3 ∨ ((S6 46 (r3 : Int32).toNatClampNeg)).toInt = 4) with q | q | q
            · exact hc8 (Int32.toInt_inj.mp (q.trans (by decide)))
            · exact hc9 (Int32.toInt_inj.mp (q.trans (by decide)))
            · exact hc11 (Int32.toInt_inj.mp (q.trans (by decide)))
          · skip
            refine ev_iload_n d_X6_meltsOf_131 rfl ?_
            exact ev_ret (v := some (.int _)) ⟨d_X6_meltsOf_132, _, rfl, rfl⟩ (by decide) (by decide) ⟨rfl, _, rfl, it_ok_r h⟩
  · have h := it_ok_t h hc5
    refine ev_aload_n d_X6_meltsOf_24 rfl ?_
    refine ev_getRr (r := 47) rfl d_X6_meltsOf_25 fl_IcedTooSoonModel_13 hm.1 rfl ?_
    refine ev_iload_n d_X6_meltsOf_28 rfl ?_
    refine ev_iald d_X6_meltsOf_29 (hm).2.2.1 (it_bd_in hb4) ?_
    exact ev_ret (v := some (.int _)) ⟨d_X6_meltsOf_30, _, rfl, rfl⟩ (by decide) (by decide) ⟨rfl, _, rfl, it_ok_r h⟩
theorem d_X6_feelsOf_0 : decode prog_8_method_31_code 0 = .ok (.aload_n 0, 1) := by decide +kernel
theorem d_X6_feelsOf_1 : decode prog_8_method_31_code 1 = .ok (.getfield 19, 3) := by decide +kernel
theorem d_X6_feelsOf_4 : decode prog_8_method_31_code 4 = .ok (.iconst 3, 1) := by decide +kernel
theorem d_X6_feelsOf_5 : decode prog_8_method_31_code 5 = .ok (.iload_n 1, 1) := by decide +kernel
theorem d_X6_feelsOf_6 : decode prog_8_method_31_code 6 = .ok (.imul, 1) := by decide +kernel
theorem d_X6_feelsOf_7 : decode prog_8_method_31_code 7 = .ok (.iaload, 1) := by decide +kernel
theorem d_X6_feelsOf_8 : decode prog_8_method_31_code 8 = .ok (.iconst 0, 1) := by decide +kernel
theorem d_X6_feelsOf_9 : decode prog_8_method_31_code 9 = .ok (.iconst 5, 1) := by decide +kernel
theorem d_X6_feelsOf_10 : decode prog_8_method_31_code 10 = .ok (.invokestatic 82, 3) := by decide +kernel
theorem d_X6_feelsOf_13 : decode prog_8_method_31_code 13 = .ok (.istore_n 2, 1) := by decide +kernel
theorem d_X6_feelsOf_14 : decode prog_8_method_31_code 14 = .ok (.aload_n 0, 1) := by decide +kernel
theorem d_X6_feelsOf_15 : decode prog_8_method_31_code 15 = .ok (.iconst 1, 1) := by decide +kernel
theorem d_X6_feelsOf_16 : decode prog_8_method_31_code 16 = .ok (.iload_n 1, 1) := by decide +kernel
theorem d_X6_feelsOf_17 : decode prog_8_method_31_code 17 = .ok (.invokevirtual 167, 3) := by decide +kernel
theorem d_X6_feelsOf_20 : decode prog_8_method_31_code 20 = .ok (.istore_n 3, 1) := by decide +kernel
theorem d_X6_feelsOf_21 : decode prog_8_method_31_code 21 = .ok (.iload_n 3, 1) := by decide +kernel
theorem d_X6_feelsOf_22 : decode prog_8_method_31_code 22 = .ok (.ifCond .le 14, 3) := by decide +kernel
theorem d_X6_feelsOf_25 : decode prog_8_method_31_code 25 = .ok (.iload_n 3, 1) := by decide +kernel
theorem d_X6_feelsOf_26 : decode prog_8_method_31_code 26 = .ok (.aload_n 0, 1) := by decide +kernel
theorem d_X6_feelsOf_27 : decode prog_8_method_31_code 27 = .ok (.getfield 13, 3) := by decide +kernel
theorem d_X6_feelsOf_30 : decode prog_8_method_31_code 30 = .ok (.iload_n 2, 1) := by decide +kernel
theorem d_X6_feelsOf_31 : decode prog_8_method_31_code 31 = .ok (.iaload, 1) := by decide +kernel
theorem d_X6_feelsOf_32 : decode prog_8_method_31_code 32 = .ok (.iadd, 1) := by decide +kernel
theorem d_X6_feelsOf_33 : decode prog_8_method_31_code 33 = .ok (.goto 4, 3) := by decide +kernel
theorem d_X6_feelsOf_36 : decode prog_8_method_31_code 36 = .ok (.iload_n 3, 1) := by decide +kernel
theorem d_X6_feelsOf_37 : decode prog_8_method_31_code 37 = .ok (.istore 4, 2) := by decide +kernel
theorem d_X6_feelsOf_39 : decode prog_8_method_31_code 39 = .ok (.aload_n 0, 1) := by decide +kernel
theorem d_X6_feelsOf_40 : decode prog_8_method_31_code 40 = .ok (.getfield 7, 3) := by decide +kernel
theorem d_X6_feelsOf_43 : decode prog_8_method_31_code 43 = .ok (.iload_n 2, 1) := by decide +kernel
theorem d_X6_feelsOf_44 : decode prog_8_method_31_code 44 = .ok (.iaload, 1) := by decide +kernel
theorem d_X6_feelsOf_45 : decode prog_8_method_31_code 45 = .ok (.tableswitch 69 1 5 #[35, 38, 61, 38, 66], 35) := by decide +kernel
theorem d_X6_feelsOf_80 : decode prog_8_method_31_code 80 = .ok (.iload 4, 2) := by decide +kernel
theorem d_X6_feelsOf_82 : decode prog_8_method_31_code 82 = .ok (.ireturn, 1) := by decide +kernel
theorem d_X6_feelsOf_83 : decode prog_8_method_31_code 83 = .ok (.aload_n 0, 1) := by decide +kernel
theorem d_X6_feelsOf_84 : decode prog_8_method_31_code 84 = .ok (.getfield 16, 3) := by decide +kernel
theorem d_X6_feelsOf_87 : decode prog_8_method_31_code 87 = .ok (.iconst 2, 1) := by decide +kernel
theorem d_X6_feelsOf_88 : decode prog_8_method_31_code 88 = .ok (.iload_n 2, 1) := by decide +kernel
theorem d_X6_feelsOf_89 : decode prog_8_method_31_code 89 = .ok (.imul, 1) := by decide +kernel
theorem d_X6_feelsOf_90 : decode prog_8_method_31_code 90 = .ok (.iconst 1, 1) := by decide +kernel
theorem d_X6_feelsOf_91 : decode prog_8_method_31_code 91 = .ok (.iadd, 1) := by decide +kernel
theorem d_X6_feelsOf_92 : decode prog_8_method_31_code 92 = .ok (.iaload, 1) := by decide +kernel
theorem d_X6_feelsOf_93 : decode prog_8_method_31_code 93 = .ok (.bipush 50, 2) := by decide +kernel
theorem d_X6_feelsOf_95 : decode prog_8_method_31_code 95 = .ok (.if_icmp .le 7, 3) := by decide +kernel
theorem d_X6_feelsOf_98 : decode prog_8_method_31_code 98 = .ok (.iconst 0, 1) := by decide +kernel
theorem d_X6_feelsOf_99 : decode prog_8_method_31_code 99 = .ok (.goto 6, 3) := by decide +kernel
theorem d_X6_feelsOf_102 : decode prog_8_method_31_code 102 = .ok (.iload_n 3, 1) := by decide +kernel
theorem d_X6_feelsOf_103 : decode prog_8_method_31_code 103 = .ok (.iconst 2, 1) := by decide +kernel
theorem d_X6_feelsOf_104 : decode prog_8_method_31_code 104 = .ok (.idiv, 1) := by decide +kernel
theorem d_X6_feelsOf_105 : decode prog_8_method_31_code 105 = .ok (.ireturn, 1) := by decide +kernel
theorem d_X6_feelsOf_106 : decode prog_8_method_31_code 106 = .ok (.iconst 2, 1) := by decide +kernel
theorem d_X6_feelsOf_107 : decode prog_8_method_31_code 107 = .ok (.iload 4, 2) := by decide +kernel
theorem d_X6_feelsOf_109 : decode prog_8_method_31_code 109 = .ok (.imul, 1) := by decide +kernel
theorem d_X6_feelsOf_110 : decode prog_8_method_31_code 110 = .ok (.ireturn, 1) := by decide +kernel
theorem d_X6_feelsOf_111 : decode prog_8_method_31_code 111 = .ok (.iload_n 3, 1) := by decide +kernel
theorem d_X6_feelsOf_112 : decode prog_8_method_31_code 112 = .ok (.ineg, 1) := by decide +kernel
theorem d_X6_feelsOf_113 : decode prog_8_method_31_code 113 = .ok (.ireturn, 1) := by decide +kernel
theorem d_X6_feelsOf_114 : decode prog_8_method_31_code 114 = .ok (.iload_n 3, 1) := by decide +kernel
theorem d_X6_feelsOf_115 : decode prog_8_method_31_code 115 = .ok (.ireturn, 1) := by decide +kernel
def f_X6_feelsOf (κ : it_KK) (x1 : Int32) (S : it_SS) : Option (Int32 × it_SS) :=
if it_bd (3 * x1) 30 = true then
it_bi (f_X6_within κ (S 49 ((3 * x1) : Int32).toNatClampNeg) 0 5 S) (fun r3 S2 =>
it_bi (f_X6_asksOf κ 1 x1 S2) (fun r5 S4 =>
if r5 ≤ 0 then
if it_bd r3 6 = true then
if (S4 46 (r3 : Int32).toNatClampNeg) = 1 then
some (r5, S4)
else if (S4 46 (r3 : Int32).toNatClampNeg) = 2 then
if it_bd ((2 * r3) + 1) 12 = true then
if (S4 48 (((2 * r3) + 1) : Int32).toNatClampNeg) ≤ 50 then
some ((r5 / 2), S4)
else
some (0, S4)
else none
else if (S4 46 (r3 : Int32).toNatClampNeg) = 3 then
some ((2 * r5), S4)
else if (S4 46 (r3 : Int32).toNatClampNeg) = 4 then
if it_bd ((2 * r3) + 1) 12 = true then
if (S4 48 (((2 * r3) + 1) : Int32).toNatClampNeg) ≤ 50 then
some ((r5 / 2), S4)
else
some (0, S4)
else none
else if (S4 46 (r3 : Int32).toNatClampNeg) = 5 then
some ((-r5), S4)
else 
some (r5, S4)
else none
else
if it_bd r3 6 = true then
if (S4 46 (r3 : Int32).toNatClampNeg) = 1 then
some ((r5 + (S4 47 (r3 : Int32).toNatClampNeg)), S4)
else if (S4 46 (r3 : Int32).toNatClampNeg) = 2 then
if it_bd ((2 * r3) + 1) 12 = true then
if (S4 48 (((2 * r3) + 1) : Int32).toNatClampNeg) ≤ 50 then
some ((r5 / 2), S4)
else
some (0, S4)
else none
else if (S4 46 (r3 : Int32).toNatClampNeg) = 3 then
some ((2 * (r5 + (S4 47 (r3 : Int32).toNatClampNeg))), S4)
else if (S4 46 (r3 : Int32).toNatClampNeg) = 4 then
if it_bd ((2 * r3) + 1) 12 = true then
if (S4 48 (((2 * r3) + 1) : Int32).toNatClampNeg) ≤ 50 then
some ((r5 / 2), S4)
else
some (0, S4)
else none
else if (S4 46 (r3 : Int32).toNatClampNeg) = 5 then
some ((-r5), S4)
else 
some (r5, S4)
else none))
else none
set_option maxHeartbeats 4000000 in
set_option maxRecDepth 100000 in
theorem L_X6_feelsOf {g : it_G} {l : Launch} {κ : it_KK} {x1 : Int32} (hm : it_wm κ) {S : it_SS} {P : Int32 → it_SS → Prop} (h : it_ok (f_X6_feelsOf κ x1 S) P) : it_Cn g l 4 it_m_X6_feelsOf [.ref 45, .int x1] κ S (it_pi κ P) := by
  refine it_Cn.of (by decide +kernel) (Nat.le_of_ble_eq_true rfl) ?_
  rw [f_X6_feelsOf] at h
  show it_Ev g l 4 it_m_X6_feelsOf 0 0 0 [some (.ref 45), some (.int x1), none, none, none] [] κ S (it_pi κ P)
  refine ev_aload_n d_X6_feelsOf_0 rfl ?_
  refine ev_getRr (r := 49) rfl d_X6_feelsOf_1 fl_IcedTooSoonModel_19 hm.1 rfl ?_
  refine ev_iconst d_X6_feelsOf_4 kv_iconst_3 ?_
  refine ev_iload_n d_X6_feelsOf_5 rfl ?_
  refine ev_imul d_X6_feelsOf_6 ?_
  obtain ⟨hb1, h⟩ := it_ok_g h
  refine ev_iald d_X6_feelsOf_7 (hm).2.2.2.2.1 (it_bd_in hb1) ?_
  refine ev_iconst d_X6_feelsOf_8 kv_iconst_0 ?_
  refine ev_iconst d_X6_feelsOf_9 kv_iconst_5 ?_
  refine ev_callS (M' := it_m_X6_within) (d' := 1) (As := [.int (S 49 ((3 * x1) : Int32).toNatClampNeg), .int 0, .int 5]) d_X6_feelsOf_10 ml_IcedTooSoonModel_82 rfl rfl (Nat.le_of_ble_eq_true rfl) (by decide) (by decide) (by decide) (L_X6_within  (it_ok_b h)) (fun _ _ _ _ q => by cases q.1; rfl) ?_
  rintro _ _ S2 ⟨rfl, r3, rfl, h⟩
  show it_Ev g l 4 it_m_X6_feelsOf 0 0 13 [some (.ref 45), some (.int x1), none, none, none] [.int r3] κ S2 (it_pi κ P)
  refine ev_istore_n d_X6_feelsOf_13 (by decide) ?_
  show it_Ev g l 4 it_m_X6_feelsOf 0 0 14 [some (.ref 45), some (.int x1), some (.int r3), none, none] [] κ S2 (it_pi κ P)
  refine ev_aload_n d_X6_feelsOf_14 rfl ?_
  refine ev_iconst d_X6_feelsOf_15 kv_iconst_1 ?_
  refine ev_iload_n d_X6_feelsOf_16 rfl ?_
  refine ev_callV (ci := 6) (b := 45) (M' := it_m_X6_asksOf) (d' := 3) (As := [.int 1, .int x1]) d_X6_feelsOf_17 ml_IcedTooSoonModel_167 hm.1.1 hm.1.2.1 ⟨_, rfl, rfl⟩ rfl rfl (Nat.le_of_ble_eq_true rfl) (by decide) (by decide) (by decide) (L_X6_asksOf hm (it_ok_b h)) (fun _ _ _ _ q => by cases q.1; rfl) ?_
  rintro _ _ S4 ⟨rfl, r5, rfl, h⟩
  show it_Ev g l 4 it_m_X6_feelsOf 0 0 20 [some (.ref 45), some (.int x1), some (.int r3), none, none] [.int r5] κ S4 (it_pi κ P)
  refine ev_istore_n d_X6_feelsOf_20 (by decide) ?_
  show it_Ev g l 4 it_m_X6_feelsOf 0 0 21 [some (.ref 45), some (.int x1), some (.int r3), some (.int r5), none] [] κ S4 (it_pi κ P)
  refine ev_iload_n d_X6_feelsOf_21 rfl ?_
  refine ev_if_le (tgt := 36) d_X6_feelsOf_22 (by decide) (fun hc6 => ?_) (fun hc6 => ?_)
  · have h := it_ok_t h hc6
    refine ev_iload_n d_X6_feelsOf_36 rfl ?_
    refine ev_istore d_X6_feelsOf_37 (by decide) ?_
    show it_Ev g l 4 it_m_X6_feelsOf 0 0 39 [some (.ref 45), some (.int x1), some (.int r3), some (.int r5), some (.int r5)] [] κ S4 (it_pi κ P)
    refine ev_aload_n d_X6_feelsOf_39 rfl ?_
    refine ev_getRr (r := 46) rfl d_X6_feelsOf_40 fl_IcedTooSoonModel_7 hm.1 rfl ?_
    refine ev_iload_n d_X6_feelsOf_43 rfl ?_
    obtain ⟨hb7, h⟩ := it_ok_g h
    refine ev_iald d_X6_feelsOf_44 (hm).2.1 (it_bd_in hb7) ?_
    rcases Classical.em ((S4 46 (r3 : Int32).toNatClampNeg) = 1) with hc8 | hc8
    · have h := it_ok_t h hc8
      refine ev_table (c1 := 1) (off := 35) (tgt := 80) hc8 d_X6_feelsOf_45 (by decide) (by decide) (by decide) (by decide) ?_
      refine ev_iload d_X6_feelsOf_80 rfl ?_
      exact ev_ret (v := some (.int _)) ⟨d_X6_feelsOf_82, _, rfl, rfl⟩ (by decide) (by decide) ⟨rfl, _, rfl, it_ok_r h⟩
    · have h := it_ok_f h hc8
      rcases Classical.em ((S4 46 (r3 : Int32).toNatClampNeg) = 2) with hc9 | hc9
      · have h := it_ok_t h hc9
        refine ev_table (c1 := 2) (off := 38) (tgt := 83) hc9 d_X6_feelsOf_45 (by decide) (by decide) (by decide) (by decide) ?_
        refine ev_aload_n d_X6_feelsOf_83 rfl ?_
        refine ev_getRr (r := 48) rfl d_X6_feelsOf_84 fl_IcedTooSoonModel_16 hm.1 rfl ?_
        refine ev_iconst d_X6_feelsOf_87 kv_iconst_2 ?_
        refine ev_iload_n d_X6_feelsOf_88 rfl ?_
        refine ev_imul d_X6_feelsOf_89 ?_
        refine ev_iconst d_X6_feelsOf_90 kv_iconst_1 ?_
        refine ev_iadd d_X6_feelsOf_91 ?_
        obtain ⟨hb10, h⟩ := it_ok_g h
        refine ev_iald d_X6_feelsOf_92 (hm).2.2.2.1 (it_bd_in hb10) ?_
        refine ev_bipush d_X6_feelsOf_93 kv_bipush_50 ?_
        refine ev_icmp_le (tgt := 102) d_X6_feelsOf_95 (by decide) (fun hc11 => ?_) (fun hc11 => ?_)
        · have h := it_ok_t h hc11
          refine ev_iload_n d_X6_feelsOf_102 rfl ?_
          refine ev_iconst d_X6_feelsOf_103 kv_iconst_2 ?_
          refine ev_idiv d_X6_feelsOf_104 (by decide) ?_
          exact ev_ret (v := some (.int _)) ⟨d_X6_feelsOf_105, _, rfl, rfl⟩ (by decide) (by decide) ⟨rfl, _, rfl, it_ok_r h⟩
        · have h := it_ok_f h hc11
          refine ev_iconst d_X6_feelsOf_98 kv_iconst_0 ?_
          refine ev_goto (tgt := 105) d_X6_feelsOf_99 (by decide) ?_
          exact ev_ret (v := some (.int _)) ⟨d_X6_feelsOf_105, _, rfl, rfl⟩ (by decide) (by decide) ⟨rfl, _, rfl, it_ok_r h⟩
      · have h := it_ok_f h hc9
        rcases Classical.em ((S4 46 (r3 : Int32).toNatClampNeg) = 3) with hc12 | hc12
        · have h := it_ok_t h hc12
          refine ev_table (c1 := 3) (off := 61) (tgt := 106) hc12 d_X6_feelsOf_45 (by decide) (by decide) (by decide) (by decide) ?_
          refine ev_iconst d_X6_feelsOf_106 kv_iconst_2 ?_
          refine ev_iload d_X6_feelsOf_107 rfl ?_
          refine ev_imul d_X6_feelsOf_109 ?_
          exact ev_ret (v := some (.int _)) ⟨d_X6_feelsOf_110, _, rfl, rfl⟩ (by decide) (by decide) ⟨rfl, _, rfl, it_ok_r h⟩
        · have h := it_ok_f h hc12
          rcases Classical.em ((S4 46 (r3 : Int32).toNatClampNeg) = 4) with hc13 | hc13
          · have h := it_ok_t h hc13
            refine ev_table (c1 := 4) (off := 38) (tgt := 83) hc13 d_X6_feelsOf_45 (by decide) (by decide) (by decide) (by decide) ?_
            refine ev_aload_n d_X6_feelsOf_83 rfl ?_
            refine ev_getRr (r := 48) rfl d_X6_feelsOf_84 fl_IcedTooSoonModel_16 hm.1 rfl ?_
            refine ev_iconst d_X6_feelsOf_87 kv_iconst_2 ?_
            refine ev_iload_n d_X6_feelsOf_88 rfl ?_
            refine ev_imul d_X6_feelsOf_89 ?_
            refine ev_iconst d_X6_feelsOf_90 kv_iconst_1 ?_
            refine ev_iadd d_X6_feelsOf_91 ?_
            obtain ⟨hb14, h⟩ := it_ok_g h
            refine ev_iald d_X6_feelsOf_92 (hm).2.2.2.1 (it_bd_in hb14) ?_
            refine ev_bipush d_X6_feelsOf_93 kv_bipush_50 ?_
            refine ev_icmp_le (tgt := 102) d_X6_feelsOf_95 (by decide) (fun hc15 => ?_) (fun hc15 => ?_)
            · have h := it_ok_t h hc15
              refine ev_iload_n d_X6_feelsOf_102 rfl ?_
              refine ev_iconst d_X6_feelsOf_103 kv_iconst_2 ?_
              refine ev_idiv d_X6_feelsOf_104 (by decide) ?_
              exact ev_ret (v := some (.int _)) ⟨d_X6_feelsOf_105, _, rfl, rfl⟩ (by decide) (by decide) ⟨rfl, _, rfl, it_ok_r h⟩
            · have h := it_ok_f h hc15
              refine ev_iconst d_X6_feelsOf_98 kv_iconst_0 ?_
              refine ev_goto (tgt := 105) d_X6_feelsOf_99 (by decide) ?_
              exact ev_ret (v := some (.int _)) ⟨d_X6_feelsOf_105, _, rfl, rfl⟩ (by decide) (by decide) ⟨rfl, _, rfl, it_ok_r h⟩
          · have h := it_ok_f h hc13
            rcases Classical.em ((S4 46 (r3 : Int32).toNatClampNeg) = 5) with hc16 | hc16
            · have h := it_ok_t h hc16
              refine ev_table (c1 := 5) (off := 66) (tgt := 111) hc16 d_X6_feelsOf_45 (by decide) (by decide) (by decide) (by decide) ?_
              refine ev_iload_n d_X6_feelsOf_111 rfl ?_
              refine ev_ineg d_X6_feelsOf_112 ?_
              exact ev_ret (v := some (.int _)) ⟨d_X6_feelsOf_113, _, rfl, rfl⟩ (by decide) (by decide) ⟨rfl, _, rfl, it_ok_r h⟩
            · have h := it_ok_f h hc16
              refine ev_tableOut (tgt := 114) d_X6_feelsOf_45 (it_sw (fun h1 h2 => ?_)) (by decide) ?_
              · rcases (by omega : ((S4 46 (r3 : Int32).toNatClampNeg)).toInt = 1 ∨ ((S4 46 (r3 : Int32).toNatClampNeg)).toInt = 2 ∨ ((S4 46 (r3 : Int32).toNatClampNeg)).toInt = 3 ∨ ((S4 46 (r3 : Int32).toNatClampNeg)).toInt = 4 ∨ ((S4 46 (r3 : Int32).toNatClampNeg)).toInt = 5) with q | q | q | q | q
                · exact hc8 (Int32.toInt_inj.mp (q.trans (by decide)))
                · exact hc9 (Int32.toInt_inj.mp (q.trans (by decide)))
                · exact hc12 (Int32.toInt_inj.mp (q.trans (by decide)))
                · exact hc13 (Int32.toInt_inj.mp (q.trans (by decide)))
                · exact hc16 (Int32.toInt_inj.mp (q.trans (by decide)))
              · skip
                refine ev_iload_n d_X6_feelsOf_114 rfl ?_
                exact ev_ret (v := some (.int _)) ⟨d_X6_feelsOf_115, _, rfl, rfl⟩ (by decide) (by decide) ⟨rfl, _, rfl, it_ok_r h⟩
  · have h := it_ok_f h hc6
    refine ev_iload_n d_X6_feelsOf_25 rfl ?_
    refine ev_aload_n d_X6_feelsOf_26 rfl ?_
    refine ev_getRr (r := 47) rfl d_X6_feelsOf_27 fl_IcedTooSoonModel_13 hm.1 rfl ?_
    refine ev_iload_n d_X6_feelsOf_30 rfl ?_
    obtain ⟨hb17, h⟩ := it_ok_g h
    refine ev_iald d_X6_feelsOf_31 (hm).2.2.1 (it_bd_in hb17) ?_
    refine ev_iadd d_X6_feelsOf_32 ?_
    refine ev_goto (tgt := 37) d_X6_feelsOf_33 (by decide) ?_
    refine ev_istore d_X6_feelsOf_37 (by decide) ?_
    show it_Ev g l 4 it_m_X6_feelsOf 0 0 39 [some (.ref 45), some (.int x1), some (.int r3), some (.int r5), some (.int (r5 + (S4 47 (r3 : Int32).toNatClampNeg)))] [] κ S4 (it_pi κ P)
    refine ev_aload_n d_X6_feelsOf_39 rfl ?_
    refine ev_getRr (r := 46) rfl d_X6_feelsOf_40 fl_IcedTooSoonModel_7 hm.1 rfl ?_
    refine ev_iload_n d_X6_feelsOf_43 rfl ?_
    refine ev_iald d_X6_feelsOf_44 (hm).2.1 (it_bd_in hb17) ?_
    rcases Classical.em ((S4 46 (r3 : Int32).toNatClampNeg) = 1) with hc18 | hc18
    · have h := it_ok_t h hc18
      refine ev_table (c1 := 1) (off := 35) (tgt := 80) hc18 d_X6_feelsOf_45 (by decide) (by decide) (by decide) (by decide) ?_
      refine ev_iload d_X6_feelsOf_80 rfl ?_
      exact ev_ret (v := some (.int _)) ⟨d_X6_feelsOf_82, _, rfl, rfl⟩ (by decide) (by decide) ⟨rfl, _, rfl, it_ok_r h⟩
    · have h := it_ok_f h hc18
      rcases Classical.em ((S4 46 (r3 : Int32).toNatClampNeg) = 2) with hc19 | hc19
      · have h := it_ok_t h hc19
        refine ev_table (c1 := 2) (off := 38) (tgt := 83) hc19 d_X6_feelsOf_45 (by decide) (by decide) (by decide) (by decide) ?_
        refine ev_aload_n d_X6_feelsOf_83 rfl ?_
        refine ev_getRr (r := 48) rfl d_X6_feelsOf_84 fl_IcedTooSoonModel_16 hm.1 rfl ?_
        refine ev_iconst d_X6_feelsOf_87 kv_iconst_2 ?_
        refine ev_iload_n d_X6_feelsOf_88 rfl ?_
        refine ev_imul d_X6_feelsOf_89 ?_
        refine ev_iconst d_X6_feelsOf_90 kv_iconst_1 ?_
        refine ev_iadd d_X6_feelsOf_91 ?_
        obtain ⟨hb20, h⟩ := it_ok_g h
        refine ev_iald d_X6_feelsOf_92 (hm).2.2.2.1 (it_bd_in hb20) ?_
        refine ev_bipush d_X6_feelsOf_93 kv_bipush_50 ?_
        refine ev_icmp_le (tgt := 102) d_X6_feelsOf_95 (by decide) (fun hc21 => ?_) (fun hc21 => ?_)
        · have h := it_ok_t h hc21
          refine ev_iload_n d_X6_feelsOf_102 rfl ?_
          refine ev_iconst d_X6_feelsOf_103 kv_iconst_2 ?_
          refine ev_idiv d_X6_feelsOf_104 (by decide) ?_
          exact ev_ret (v := some (.int _)) ⟨d_X6_feelsOf_105, _, rfl, rfl⟩ (by decide) (by decide) ⟨rfl, _, rfl, it_ok_r h⟩
        · have h := it_ok_f h hc21
          refine ev_iconst d_X6_feelsOf_98 kv_iconst_0 ?_
          refine ev_goto (tgt := 105) d_X6_feelsOf_99 (by decide) ?_
          exact ev_ret (v := some (.int _)) ⟨d_X6_feelsOf_105, _, rfl, rfl⟩ (by decide) (by decide) ⟨rfl, _, rfl, it_ok_r h⟩
      · have h := it_ok_f h hc19
        rcases Classical.em ((S4 46 (r3 : Int32).toNatClampNeg) = 3) with hc22 | hc22
        · have h := it_ok_t h hc22
          refine ev_table (c1 := 3) (off := 61) (tgt := 106) hc22 d_X6_feelsOf_45 (by decide) (by decide) (by decide) (by decide) ?_
          refine ev_iconst d_X6_feelsOf_106 kv_iconst_2 ?_
          refine ev_iload d_X6_feelsOf_107 rfl ?_
          refine ev_imul d_X6_feelsOf_109 ?_
          exact ev_ret (v := some (.int _)) ⟨d_X6_feelsOf_110, _, rfl, rfl⟩ (by decide) (by decide) ⟨rfl, _, rfl, it_ok_r h⟩
        · have h := it_ok_f h hc22
          rcases Classical.em ((S4 46 (r3 : Int32).toNatClampNeg) = 4) with hc23 | hc23
          · have h := it_ok_t h hc23
            refine ev_table (c1 := 4) (off := 38) (tgt := 83) hc23 d_X6_feelsOf_45 (by decide) (by decide) (by decide) (by decide) ?_
            refine ev_aload_n d_X6_feelsOf_83 rfl ?_
            refine ev_getRr (r := 48) rfl d_X6_feelsOf_84 fl_IcedTooSoonModel_16 hm.1 rfl ?_
            refine ev_iconst d_X6_feelsOf_87 kv_iconst_2 ?_
            refine ev_iload_n d_X6_feelsOf_88 rfl ?_
            refine ev_imul d_X6_feelsOf_89 ?_
            refine ev_iconst d_X6_feelsOf_90 kv_iconst_1 ?_
            refine ev_iadd d_X6_feelsOf_91 ?_
            obtain ⟨hb24, h⟩ := it_ok_g h
            refine ev_iald d_X6_feelsOf_92 (hm).2.2.2.1 (it_bd_in hb24) ?_
            refine ev_bipush d_X6_feelsOf_93 kv_bipush_50 ?_
            refine ev_icmp_le (tgt := 102) d_X6_feelsOf_95 (by decide) (fun hc25 => ?_) (fun hc25 => ?_)
            · have h := it_ok_t h hc25
              refine ev_iload_n d_X6_feelsOf_102 rfl ?_
              refine ev_iconst d_X6_feelsOf_103 kv_iconst_2 ?_
              refine ev_idiv d_X6_feelsOf_104 (by decide) ?_
              exact ev_ret (v := some (.int _)) ⟨d_X6_feelsOf_105, _, rfl, rfl⟩ (by decide) (by decide) ⟨rfl, _, rfl, it_ok_r h⟩
            · have h := it_ok_f h hc25
              refine ev_iconst d_X6_feelsOf_98 kv_iconst_0 ?_
              refine ev_goto (tgt := 105) d_X6_feelsOf_99 (by decide) ?_
              exact ev_ret (v := some (.int _)) ⟨d_X6_feelsOf_105, _, rfl, rfl⟩ (by decide) (by decide) ⟨rfl, _, rfl, it_ok_r h⟩
          · have h := it_ok_f h hc23
            rcases Classical.em ((S4 46 (r3 : Int32).toNatClampNeg) = 5) with hc26 | hc26
            · have h := it_ok_t h hc26
              refine ev_table (c1 := 5) (off := 66) (tgt := 111) hc26 d_X6_feelsOf_45 (by decide) (by decide) (by decide) (by decide) ?_
              refine ev_iload_n d_X6_feelsOf_111 rfl ?_
              refine ev_ineg d_X6_feelsOf_112 ?_
              exact ev_ret (v := some (.int _)) ⟨d_X6_feelsOf_113, _, rfl, rfl⟩ (by decide) (by decide) ⟨rfl, _, rfl, it_ok_r h⟩
            · have h := it_ok_f h hc26
              refine ev_tableOut (tgt := 114) d_X6_feelsOf_45 (it_sw (fun h1 h2 => ?_)) (by decide) ?_
              · rcases (by omega : ((S4 46 (r3 : Int32).toNatClampNeg)).toInt = 1 ∨ ((S4 46 (r3 : Int32).toNatClampNeg)).toInt = 2 ∨ ((S4 46 (r3 : Int32).toNatClampNeg)).toInt = 3 ∨ ((S4 46 (r3 : Int32).toNatClampNeg)).toInt = 4 ∨ ((S4 46 (r3 : Int32).toNatClampNeg)).toInt = 5) with q | q | q | q | q
                · exact hc18 (Int32.toInt_inj.mp (q.trans (by decide)))
                · exact hc19 (Int32.toInt_inj.mp (q.trans (by decide)))
                · exact hc22 (Int32.toInt_inj.mp (q.trans (by decide)))
                · exact hc23 (Int32.toInt_inj.mp (q.trans (by decide)))
                · exact hc26 (Int32.toInt_inj.mp (q.trans (by decide)))
              · skip
                refine ev_iload_n d_X6_feelsOf_114 rfl ?_
                exact ev_ret (v := some (.int _)) ⟨d_X6_feelsOf_115, _, rfl, rfl⟩ (by decide) (by decide) ⟨rfl, _, rfl, it_ok_r h⟩
theorem d_X6_chillsOf_0 : decode prog_8_method_32_code 0 = .ok (.aload_n 0, 1) := by decide +kernel
theorem d_X6_chillsOf_1 : decode prog_8_method_32_code 1 = .ok (.getfield 19, 3) := by decide +kernel
theorem d_X6_chillsOf_4 : decode prog_8_method_32_code 4 = .ok (.iconst 3, 1) := by decide +kernel
theorem d_X6_chillsOf_5 : decode prog_8_method_32_code 5 = .ok (.iload_n 1, 1) := by decide +kernel
theorem d_X6_chillsOf_6 : decode prog_8_method_32_code 6 = .ok (.imul, 1) := by decide +kernel
theorem d_X6_chillsOf_7 : decode prog_8_method_32_code 7 = .ok (.iaload, 1) := by decide +kernel
theorem d_X6_chillsOf_8 : decode prog_8_method_32_code 8 = .ok (.iconst 0, 1) := by decide +kernel
theorem d_X6_chillsOf_9 : decode prog_8_method_32_code 9 = .ok (.iconst 5, 1) := by decide +kernel
theorem d_X6_chillsOf_10 : decode prog_8_method_32_code 10 = .ok (.invokestatic 82, 3) := by decide +kernel
theorem d_X6_chillsOf_13 : decode prog_8_method_32_code 13 = .ok (.istore_n 2, 1) := by decide +kernel
theorem d_X6_chillsOf_14 : decode prog_8_method_32_code 14 = .ok (.aload_n 0, 1) := by decide +kernel
theorem d_X6_chillsOf_15 : decode prog_8_method_32_code 15 = .ok (.iconst 2, 1) := by decide +kernel
theorem d_X6_chillsOf_16 : decode prog_8_method_32_code 16 = .ok (.iload_n 1, 1) := by decide +kernel
theorem d_X6_chillsOf_17 : decode prog_8_method_32_code 17 = .ok (.invokevirtual 167, 3) := by decide +kernel
theorem d_X6_chillsOf_20 : decode prog_8_method_32_code 20 = .ok (.istore_n 3, 1) := by decide +kernel
theorem d_X6_chillsOf_21 : decode prog_8_method_32_code 21 = .ok (.aload_n 0, 1) := by decide +kernel
theorem d_X6_chillsOf_22 : decode prog_8_method_32_code 22 = .ok (.getfield 7, 3) := by decide +kernel
theorem d_X6_chillsOf_25 : decode prog_8_method_32_code 25 = .ok (.iload_n 2, 1) := by decide +kernel
theorem d_X6_chillsOf_26 : decode prog_8_method_32_code 26 = .ok (.iaload, 1) := by decide +kernel
theorem d_X6_chillsOf_27 : decode prog_8_method_32_code 27 = .ok (.iconst 1, 1) := by decide +kernel
theorem d_X6_chillsOf_28 : decode prog_8_method_32_code 28 = .ok (.if_icmp .eq 13, 3) := by decide +kernel
theorem d_X6_chillsOf_31 : decode prog_8_method_32_code 31 = .ok (.aload_n 0, 1) := by decide +kernel
theorem d_X6_chillsOf_32 : decode prog_8_method_32_code 32 = .ok (.getfield 7, 3) := by decide +kernel
theorem d_X6_chillsOf_35 : decode prog_8_method_32_code 35 = .ok (.iload_n 2, 1) := by decide +kernel
theorem d_X6_chillsOf_36 : decode prog_8_method_32_code 36 = .ok (.iaload, 1) := by decide +kernel
theorem d_X6_chillsOf_37 : decode prog_8_method_32_code 37 = .ok (.iconst 3, 1) := by decide +kernel
theorem d_X6_chillsOf_38 : decode prog_8_method_32_code 38 = .ok (.if_icmp .ne 9, 3) := by decide +kernel
theorem d_X6_chillsOf_41 : decode prog_8_method_32_code 41 = .ok (.iload_n 3, 1) := by decide +kernel
theorem d_X6_chillsOf_42 : decode prog_8_method_32_code 42 = .ok (.iconst 2, 1) := by decide +kernel
theorem d_X6_chillsOf_43 : decode prog_8_method_32_code 43 = .ok (.idiv, 1) := by decide +kernel
theorem d_X6_chillsOf_44 : decode prog_8_method_32_code 44 = .ok (.goto 25, 3) := by decide +kernel
theorem d_X6_chillsOf_47 : decode prog_8_method_32_code 47 = .ok (.aload_n 0, 1) := by decide +kernel
theorem d_X6_chillsOf_48 : decode prog_8_method_32_code 48 = .ok (.getfield 7, 3) := by decide +kernel
theorem d_X6_chillsOf_51 : decode prog_8_method_32_code 51 = .ok (.iload_n 2, 1) := by decide +kernel
theorem d_X6_chillsOf_52 : decode prog_8_method_32_code 52 = .ok (.iaload, 1) := by decide +kernel
theorem d_X6_chillsOf_53 : decode prog_8_method_32_code 53 = .ok (.iconst 4, 1) := by decide +kernel
theorem d_X6_chillsOf_54 : decode prog_8_method_32_code 54 = .ok (.if_icmp .ne 14, 3) := by decide +kernel
theorem d_X6_chillsOf_57 : decode prog_8_method_32_code 57 = .ok (.iload_n 3, 1) := by decide +kernel
theorem d_X6_chillsOf_58 : decode prog_8_method_32_code 58 = .ok (.aload_n 0, 1) := by decide +kernel
theorem d_X6_chillsOf_59 : decode prog_8_method_32_code 59 = .ok (.getfield 13, 3) := by decide +kernel
theorem d_X6_chillsOf_62 : decode prog_8_method_32_code 62 = .ok (.iload_n 2, 1) := by decide +kernel
theorem d_X6_chillsOf_63 : decode prog_8_method_32_code 63 = .ok (.iaload, 1) := by decide +kernel
theorem d_X6_chillsOf_64 : decode prog_8_method_32_code 64 = .ok (.iadd, 1) := by decide +kernel
theorem d_X6_chillsOf_65 : decode prog_8_method_32_code 65 = .ok (.goto 4, 3) := by decide +kernel
theorem d_X6_chillsOf_68 : decode prog_8_method_32_code 68 = .ok (.iload_n 3, 1) := by decide +kernel
theorem d_X6_chillsOf_69 : decode prog_8_method_32_code 69 = .ok (.ireturn, 1) := by decide +kernel
def f_X6_chillsOf (κ : it_KK) (x1 : Int32) (S : it_SS) : Option (Int32 × it_SS) :=
if it_bd (3 * x1) 30 = true then
it_bi (f_X6_within κ (S 49 ((3 * x1) : Int32).toNatClampNeg) 0 5 S) (fun r3 S2 =>
it_bi (f_X6_asksOf κ 2 x1 S2) (fun r5 S4 =>
if it_bd r3 6 = true then
if (S4 46 (r3 : Int32).toNatClampNeg) = 1 then
some ((r5 / 2), S4)
else
if (S4 46 (r3 : Int32).toNatClampNeg) = 3 then
some ((r5 / 2), S4)
else
if (S4 46 (r3 : Int32).toNatClampNeg) = 4 then
some ((r5 + (S4 47 (r3 : Int32).toNatClampNeg)), S4)
else
some (r5, S4)
else none))
else none
set_option maxHeartbeats 4000000 in
set_option maxRecDepth 100000 in
theorem L_X6_chillsOf {g : it_G} {l : Launch} {κ : it_KK} {x1 : Int32} (hm : it_wm κ) {S : it_SS} {P : Int32 → it_SS → Prop} (h : it_ok (f_X6_chillsOf κ x1 S) P) : it_Cn g l 4 it_m_X6_chillsOf [.ref 45, .int x1] κ S (it_pi κ P) := by
  refine it_Cn.of (by decide +kernel) (Nat.le_of_ble_eq_true rfl) ?_
  rw [f_X6_chillsOf] at h
  show it_Ev g l 4 it_m_X6_chillsOf 0 0 0 [some (.ref 45), some (.int x1), none, none] [] κ S (it_pi κ P)
  refine ev_aload_n d_X6_chillsOf_0 rfl ?_
  refine ev_getRr (r := 49) rfl d_X6_chillsOf_1 fl_IcedTooSoonModel_19 hm.1 rfl ?_
  refine ev_iconst d_X6_chillsOf_4 kv_iconst_3 ?_
  refine ev_iload_n d_X6_chillsOf_5 rfl ?_
  refine ev_imul d_X6_chillsOf_6 ?_
  obtain ⟨hb1, h⟩ := it_ok_g h
  refine ev_iald d_X6_chillsOf_7 (hm).2.2.2.2.1 (it_bd_in hb1) ?_
  refine ev_iconst d_X6_chillsOf_8 kv_iconst_0 ?_
  refine ev_iconst d_X6_chillsOf_9 kv_iconst_5 ?_
  refine ev_callS (M' := it_m_X6_within) (d' := 1) (As := [.int (S 49 ((3 * x1) : Int32).toNatClampNeg), .int 0, .int 5]) d_X6_chillsOf_10 ml_IcedTooSoonModel_82 rfl rfl (Nat.le_of_ble_eq_true rfl) (by decide) (by decide) (by decide) (L_X6_within  (it_ok_b h)) (fun _ _ _ _ q => by cases q.1; rfl) ?_
  rintro _ _ S2 ⟨rfl, r3, rfl, h⟩
  show it_Ev g l 4 it_m_X6_chillsOf 0 0 13 [some (.ref 45), some (.int x1), none, none] [.int r3] κ S2 (it_pi κ P)
  refine ev_istore_n d_X6_chillsOf_13 (by decide) ?_
  show it_Ev g l 4 it_m_X6_chillsOf 0 0 14 [some (.ref 45), some (.int x1), some (.int r3), none] [] κ S2 (it_pi κ P)
  refine ev_aload_n d_X6_chillsOf_14 rfl ?_
  refine ev_iconst d_X6_chillsOf_15 kv_iconst_2 ?_
  refine ev_iload_n d_X6_chillsOf_16 rfl ?_
  refine ev_callV (ci := 6) (b := 45) (M' := it_m_X6_asksOf) (d' := 3) (As := [.int 2, .int x1]) d_X6_chillsOf_17 ml_IcedTooSoonModel_167 hm.1.1 hm.1.2.1 ⟨_, rfl, rfl⟩ rfl rfl (Nat.le_of_ble_eq_true rfl) (by decide) (by decide) (by decide) (L_X6_asksOf hm (it_ok_b h)) (fun _ _ _ _ q => by cases q.1; rfl) ?_
  rintro _ _ S4 ⟨rfl, r5, rfl, h⟩
  show it_Ev g l 4 it_m_X6_chillsOf 0 0 20 [some (.ref 45), some (.int x1), some (.int r3), none] [.int r5] κ S4 (it_pi κ P)
  refine ev_istore_n d_X6_chillsOf_20 (by decide) ?_
  show it_Ev g l 4 it_m_X6_chillsOf 0 0 21 [some (.ref 45), some (.int x1), some (.int r3), some (.int r5)] [] κ S4 (it_pi κ P)
  refine ev_aload_n d_X6_chillsOf_21 rfl ?_
  refine ev_getRr (r := 46) rfl d_X6_chillsOf_22 fl_IcedTooSoonModel_7 hm.1 rfl ?_
  refine ev_iload_n d_X6_chillsOf_25 rfl ?_
  obtain ⟨hb6, h⟩ := it_ok_g h
  refine ev_iald d_X6_chillsOf_26 (hm).2.1 (it_bd_in hb6) ?_
  refine ev_iconst d_X6_chillsOf_27 kv_iconst_1 ?_
  refine ev_icmp_eq (tgt := 41) d_X6_chillsOf_28 (by decide) (fun hc7 => ?_) (fun hc7 => ?_)
  · have h := it_ok_t h hc7
    refine ev_iload_n d_X6_chillsOf_41 rfl ?_
    refine ev_iconst d_X6_chillsOf_42 kv_iconst_2 ?_
    refine ev_idiv d_X6_chillsOf_43 (by decide) ?_
    refine ev_goto (tgt := 69) d_X6_chillsOf_44 (by decide) ?_
    exact ev_ret (v := some (.int _)) ⟨d_X6_chillsOf_69, _, rfl, rfl⟩ (by decide) (by decide) ⟨rfl, _, rfl, it_ok_r h⟩
  · have h := it_ok_f h hc7
    refine ev_aload_n d_X6_chillsOf_31 rfl ?_
    refine ev_getRr (r := 46) rfl d_X6_chillsOf_32 fl_IcedTooSoonModel_7 hm.1 rfl ?_
    refine ev_iload_n d_X6_chillsOf_35 rfl ?_
    refine ev_iald d_X6_chillsOf_36 (hm).2.1 (it_bd_in hb6) ?_
    refine ev_iconst d_X6_chillsOf_37 kv_iconst_3 ?_
    refine ev_icmp_ne (tgt := 47) d_X6_chillsOf_38 (by decide) (fun hc8 => ?_) (fun hc8 => ?_)
    · have h := it_ok_f h hc8
      refine ev_aload_n d_X6_chillsOf_47 rfl ?_
      refine ev_getRr (r := 46) rfl d_X6_chillsOf_48 fl_IcedTooSoonModel_7 hm.1 rfl ?_
      refine ev_iload_n d_X6_chillsOf_51 rfl ?_
      refine ev_iald d_X6_chillsOf_52 (hm).2.1 (it_bd_in hb6) ?_
      refine ev_iconst d_X6_chillsOf_53 kv_iconst_4 ?_
      refine ev_icmp_ne (tgt := 68) d_X6_chillsOf_54 (by decide) (fun hc9 => ?_) (fun hc9 => ?_)
      · have h := it_ok_f h hc9
        refine ev_iload_n d_X6_chillsOf_68 rfl ?_
        exact ev_ret (v := some (.int _)) ⟨d_X6_chillsOf_69, _, rfl, rfl⟩ (by decide) (by decide) ⟨rfl, _, rfl, it_ok_r h⟩
      · have h := it_ok_t h hc9
        refine ev_iload_n d_X6_chillsOf_57 rfl ?_
        refine ev_aload_n d_X6_chillsOf_58 rfl ?_
        refine ev_getRr (r := 47) rfl d_X6_chillsOf_59 fl_IcedTooSoonModel_13 hm.1 rfl ?_
        refine ev_iload_n d_X6_chillsOf_62 rfl ?_
        refine ev_iald d_X6_chillsOf_63 (hm).2.2.1 (it_bd_in hb6) ?_
        refine ev_iadd d_X6_chillsOf_64 ?_
        refine ev_goto (tgt := 69) d_X6_chillsOf_65 (by decide) ?_
        exact ev_ret (v := some (.int _)) ⟨d_X6_chillsOf_69, _, rfl, rfl⟩ (by decide) (by decide) ⟨rfl, _, rfl, it_ok_r h⟩
    · have h := it_ok_t h hc8
      refine ev_iload_n d_X6_chillsOf_41 rfl ?_
      refine ev_iconst d_X6_chillsOf_42 kv_iconst_2 ?_
      refine ev_idiv d_X6_chillsOf_43 (by decide) ?_
      refine ev_goto (tgt := 69) d_X6_chillsOf_44 (by decide) ?_
      exact ev_ret (v := some (.int _)) ⟨d_X6_chillsOf_69, _, rfl, rfl⟩ (by decide) (by decide) ⟨rfl, _, rfl, it_ok_r h⟩
theorem d_X6_ordered_0 : decode prog_8_method_33_code 0 = .ok (.iconst 0, 1) := by decide +kernel
theorem d_X6_ordered_1 : decode prog_8_method_33_code 1 = .ok (.istore 4, 2) := by decide +kernel
theorem d_X6_ordered_3 : decode prog_8_method_33_code 3 = .ok (.iload 4, 2) := by decide +kernel
theorem d_X6_ordered_5 : decode prog_8_method_33_code 5 = .ok (.bipush 10, 2) := by decide +kernel
theorem d_X6_ordered_7 : decode prog_8_method_33_code 7 = .ok (.if_icmp .ge 18, 3) := by decide +kernel
theorem d_X6_ordered_10 : decode prog_8_method_33_code 10 = .ok (.aload_n 0, 1) := by decide +kernel
theorem d_X6_ordered_11 : decode prog_8_method_33_code 11 = .ok (.iload 4, 2) := by decide +kernel
theorem d_X6_ordered_13 : decode prog_8_method_33_code 13 = .ok (.invokevirtual 86, 3) := by decide +kernel
theorem d_X6_ordered_16 : decode prog_8_method_33_code 16 = .ok (.ifCond .eq 9, 3) := by decide +kernel
theorem d_X6_ordered_19 : decode prog_8_method_33_code 19 = .ok (.iinc 4 1, 3) := by decide +kernel
theorem d_X6_ordered_22 : decode prog_8_method_33_code 22 = .ok (.goto (-19), 3) := by decide +kernel
theorem d_X6_ordered_25 : decode prog_8_method_33_code 25 = .ok (.iload 4, 2) := by decide +kernel
theorem d_X6_ordered_27 : decode prog_8_method_33_code 27 = .ok (.bipush 10, 2) := by decide +kernel
theorem d_X6_ordered_29 : decode prog_8_method_33_code 29 = .ok (.if_icmp .ne 5, 3) := by decide +kernel
theorem d_X6_ordered_32 : decode prog_8_method_33_code 32 = .ok (.iconst (-1), 1) := by decide +kernel
theorem d_X6_ordered_33 : decode prog_8_method_33_code 33 = .ok (.ireturn, 1) := by decide +kernel
theorem d_X6_ordered_34 : decode prog_8_method_33_code 34 = .ok (.aload_n 0, 1) := by decide +kernel
theorem d_X6_ordered_35 : decode prog_8_method_33_code 35 = .ok (.getfield 19, 3) := by decide +kernel
theorem d_X6_ordered_38 : decode prog_8_method_33_code 38 = .ok (.iconst 3, 1) := by decide +kernel
theorem d_X6_ordered_39 : decode prog_8_method_33_code 39 = .ok (.iload 4, 2) := by decide +kernel
theorem d_X6_ordered_41 : decode prog_8_method_33_code 41 = .ok (.imul, 1) := by decide +kernel
theorem d_X6_ordered_42 : decode prog_8_method_33_code 42 = .ok (.iload_n 1, 1) := by decide +kernel
theorem d_X6_ordered_43 : decode prog_8_method_33_code 43 = .ok (.iastore, 1) := by decide +kernel
theorem d_X6_ordered_44 : decode prog_8_method_33_code 44 = .ok (.aload_n 0, 1) := by decide +kernel
theorem d_X6_ordered_45 : decode prog_8_method_33_code 45 = .ok (.getfield 19, 3) := by decide +kernel
theorem d_X6_ordered_48 : decode prog_8_method_33_code 48 = .ok (.iconst 3, 1) := by decide +kernel
theorem d_X6_ordered_49 : decode prog_8_method_33_code 49 = .ok (.iload 4, 2) := by decide +kernel
theorem d_X6_ordered_51 : decode prog_8_method_33_code 51 = .ok (.imul, 1) := by decide +kernel
theorem d_X6_ordered_52 : decode prog_8_method_33_code 52 = .ok (.iconst 1, 1) := by decide +kernel
theorem d_X6_ordered_53 : decode prog_8_method_33_code 53 = .ok (.iadd, 1) := by decide +kernel
theorem d_X6_ordered_54 : decode prog_8_method_33_code 54 = .ok (.iload_n 2, 1) := by decide +kernel
theorem d_X6_ordered_55 : decode prog_8_method_33_code 55 = .ok (.iastore, 1) := by decide +kernel
theorem d_X6_ordered_56 : decode prog_8_method_33_code 56 = .ok (.aload_n 0, 1) := by decide +kernel
theorem d_X6_ordered_57 : decode prog_8_method_33_code 57 = .ok (.getfield 19, 3) := by decide +kernel
theorem d_X6_ordered_60 : decode prog_8_method_33_code 60 = .ok (.iconst 3, 1) := by decide +kernel
theorem d_X6_ordered_61 : decode prog_8_method_33_code 61 = .ok (.iload 4, 2) := by decide +kernel
theorem d_X6_ordered_63 : decode prog_8_method_33_code 63 = .ok (.imul, 1) := by decide +kernel
theorem d_X6_ordered_64 : decode prog_8_method_33_code 64 = .ok (.iconst 2, 1) := by decide +kernel
theorem d_X6_ordered_65 : decode prog_8_method_33_code 65 = .ok (.iadd, 1) := by decide +kernel
theorem d_X6_ordered_66 : decode prog_8_method_33_code 66 = .ok (.iload_n 3, 1) := by decide +kernel
theorem d_X6_ordered_67 : decode prog_8_method_33_code 67 = .ok (.iastore, 1) := by decide +kernel
theorem d_X6_ordered_68 : decode prog_8_method_33_code 68 = .ok (.aload_n 0, 1) := by decide +kernel
theorem d_X6_ordered_69 : decode prog_8_method_33_code 69 = .ok (.getfield 16, 3) := by decide +kernel
theorem d_X6_ordered_72 : decode prog_8_method_33_code 72 = .ok (.iconst 2, 1) := by decide +kernel
theorem d_X6_ordered_73 : decode prog_8_method_33_code 73 = .ok (.iload_n 1, 1) := by decide +kernel
theorem d_X6_ordered_74 : decode prog_8_method_33_code 74 = .ok (.imul, 1) := by decide +kernel
theorem d_X6_ordered_75 : decode prog_8_method_33_code 75 = .ok (.iconst 1, 1) := by decide +kernel
theorem d_X6_ordered_76 : decode prog_8_method_33_code 76 = .ok (.iadd, 1) := by decide +kernel
theorem d_X6_ordered_77 : decode prog_8_method_33_code 77 = .ok (.aload_n 0, 1) := by decide +kernel
theorem d_X6_ordered_78 : decode prog_8_method_33_code 78 = .ok (.getfield 16, 3) := by decide +kernel
theorem d_X6_ordered_81 : decode prog_8_method_33_code 81 = .ok (.iconst 2, 1) := by decide +kernel
theorem d_X6_ordered_82 : decode prog_8_method_33_code 82 = .ok (.iload_n 1, 1) := by decide +kernel
theorem d_X6_ordered_83 : decode prog_8_method_33_code 83 = .ok (.imul, 1) := by decide +kernel
theorem d_X6_ordered_84 : decode prog_8_method_33_code 84 = .ok (.iconst 1, 1) := by decide +kernel
theorem d_X6_ordered_85 : decode prog_8_method_33_code 85 = .ok (.iadd, 1) := by decide +kernel
theorem d_X6_ordered_86 : decode prog_8_method_33_code 86 = .ok (.iaload, 1) := by decide +kernel
theorem d_X6_ordered_87 : decode prog_8_method_33_code 87 = .ok (.aload_n 0, 1) := by decide +kernel
theorem d_X6_ordered_88 : decode prog_8_method_33_code 88 = .ok (.iload 4, 2) := by decide +kernel
theorem d_X6_ordered_90 : decode prog_8_method_33_code 90 = .ok (.invokevirtual 170, 3) := by decide +kernel
theorem d_X6_ordered_93 : decode prog_8_method_33_code 93 = .ok (.iadd, 1) := by decide +kernel
theorem d_X6_ordered_94 : decode prog_8_method_33_code 94 = .ok (.iconst 0, 1) := by decide +kernel
theorem d_X6_ordered_95 : decode prog_8_method_33_code 95 = .ok (.bipush 99, 2) := by decide +kernel
theorem d_X6_ordered_97 : decode prog_8_method_33_code 97 = .ok (.invokestatic 82, 3) := by decide +kernel
theorem d_X6_ordered_100 : decode prog_8_method_33_code 100 = .ok (.iastore, 1) := by decide +kernel
theorem d_X6_ordered_101 : decode prog_8_method_33_code 101 = .ok (.iload 4, 2) := by decide +kernel
theorem d_X6_ordered_103 : decode prog_8_method_33_code 103 = .ok (.ireturn, 1) := by decide +kernel
def lp_X6_ordered_3 (κ : it_KK) (x1 : Int32) (x2 : Int32) (x3 : Int32) (k3 : (Int32 → it_SS → Option (Int32 × it_SS))) : Nat → Int32 → it_SS → Option (Int32 × it_SS)
  | 0, _, _ => none
  | n3 + 1, v4, S => if 10 ≤ v4 then
k3 v4 S
else
it_bi (f_X6_isThere κ v4 S) (fun r3 S2 =>
if r3 = 0 then
k3 v4 S2
else
lp_X6_ordered_3 κ x1 x2 x3 k3 n3 (v4 + 1) S2)
def f_X6_ordered (κ : it_KK) (x1 : Int32) (x2 : Int32) (x3 : Int32) (S : it_SS) : Option (Int32 × it_SS) :=
lp_X6_ordered_3 κ x1 x2 x3 (fun v5 S6 =>
if v5 = 10 then
some ((-1), S6)
else
if it_bd (3 * v5) 30 = true then
if it_bd ((3 * v5) + 1) 30 = true then
if it_bd ((3 * v5) + 2) 30 = true then
if it_bd ((2 * x1) + 1) 12 = true then
it_bi (f_X6_chillsOf κ v5 (it_up (it_up (it_up S6 49 ((3 * v5) : Int32).toNatClampNeg x1) 49 (((3 * v5) + 1) : Int32).toNatClampNeg x2) 49 (((3 * v5) + 2) : Int32).toNatClampNeg x3)) (fun r13 S12 =>
it_bi (f_X6_within κ (((it_up (it_up (it_up S6 49 ((3 * v5) : Int32).toNatClampNeg x1) 49 (((3 * v5) + 1) : Int32).toNatClampNeg x2) 49 (((3 * v5) + 2) : Int32).toNatClampNeg x3) 48 (((2 * x1) + 1) : Int32).toNatClampNeg) + r13) 0 99 S12) (fun r15 S14 =>
some (v5, it_up S14 48 (((2 * x1) + 1) : Int32).toNatClampNeg r15)))
else none
else none
else none
else none) it_FU 0 S
set_option maxHeartbeats 4000000 in
set_option maxRecDepth 100000 in
theorem Llp_X6_ordered_3 {g : it_G} {l : Launch} {κ : it_KK} {x1 : Int32} {x2 : Int32} {x3 : Int32} (hm : it_wm κ) {P : Int32 → it_SS → Prop} {k3 : (Int32 → it_SS → Option (Int32 × it_SS))} (hk3 : ∀ (v4 : Int32) (S : it_SS), it_ok (k3 v4 S) P → it_Ev g l 5 it_m_X6_ordered 0 0 25 [some (.ref 45), some (.int x1), some (.int x2), some (.int x3), some (.int v4)] [] κ S (it_pi κ P)) : ∀ (n : Nat) (v4 : Int32) (S : it_SS), it_ok (lp_X6_ordered_3 κ x1 x2 x3 k3 n v4 S) P → it_Ev g l 5 it_m_X6_ordered 0 0 3 [some (.ref 45), some (.int x1), some (.int x2), some (.int x3), some (.int v4)] [] κ S (it_pi κ P) := by
  intro n
  induction n with
  | zero =>
    intro _ _ h
    exact (it_ok_n h).elim
  | succ n3 ih3 =>
    intro v4 S h
    rw [lp_X6_ordered_3] at h
    refine ev_iload d_X6_ordered_3 rfl ?_
    refine ev_bipush d_X6_ordered_5 kv_bipush_10 ?_
    refine ev_icmp_ge (tgt := 25) d_X6_ordered_7 (by decide) (fun hc1 => ?_) (fun hc1 => ?_)
    · have h := it_ok_t h hc1
      refine ev_keep [true, true, true, true, true] ?_
      exact hk3 _ _ h
    · have h := it_ok_f h hc1
      refine ev_aload_n d_X6_ordered_10 rfl ?_
      refine ev_iload d_X6_ordered_11 rfl ?_
      refine ev_callV (ci := 6) (b := 45) (M' := it_m_X6_isThere) (d' := 2) (As := [.int v4]) d_X6_ordered_13 ml_IcedTooSoonModel_86 hm.1.1 hm.1.2.1 ⟨_, rfl, rfl⟩ rfl rfl (Nat.le_of_ble_eq_true rfl) (by decide) (by decide) (by decide) (L_X6_isThere hm (it_ok_b h)) (fun _ _ _ _ q => by cases q.1; rfl) ?_
      rintro _ _ S2 ⟨rfl, r3, rfl, h⟩
      show it_Ev g l 5 it_m_X6_ordered 0 0 16 [some (.ref 45), some (.int x1), some (.int x2), some (.int x3), some (.int v4)] [.int r3] κ S2 (it_pi κ P)
      refine ev_if_eq (tgt := 25) d_X6_ordered_16 (by decide) (fun hc4 => ?_) (fun hc4 => ?_)
      · have h := it_ok_t h hc4
        refine ev_keep [true, true, true, true, true] ?_
        exact hk3 _ _ h
      · have h := it_ok_f h hc4
        refine ev_iinc d_X6_ordered_19 kv_iconst_1 rfl (by decide) ?_
        show it_Ev g l 5 it_m_X6_ordered 0 0 22 [some (.ref 45), some (.int x1), some (.int x2), some (.int x3), some (.int (v4 + 1))] [] κ S2 (it_pi κ P)
        refine ev_goto (tgt := 3) d_X6_ordered_22 (by decide) ?_
        refine ev_keep [true, true, true, true, true] ?_
        exact ih3 _ _ h
set_option maxHeartbeats 4000000 in
set_option maxRecDepth 100000 in
theorem L_X6_ordered {g : it_G} {l : Launch} {κ : it_KK} {x1 : Int32} {x2 : Int32} {x3 : Int32} (hm : it_wm κ) {S : it_SS} {P : Int32 → it_SS → Prop} (h : it_ok (f_X6_ordered κ x1 x2 x3 S) P) : it_Cn g l 5 it_m_X6_ordered [.ref 45, .int x1, .int x2, .int x3] κ S (it_pi κ P) := by
  refine it_Cn.of (by decide +kernel) (Nat.le_of_ble_eq_true rfl) ?_
  rw [f_X6_ordered] at h
  show it_Ev g l 5 it_m_X6_ordered 0 0 0 [some (.ref 45), some (.int x1), some (.int x2), some (.int x3), none] [] κ S (it_pi κ P)
  refine ev_iconst d_X6_ordered_0 kv_iconst_0 ?_
  refine ev_istore d_X6_ordered_1 (by decide) ?_
  show it_Ev g l 5 it_m_X6_ordered 0 0 3 [some (.ref 45), some (.int x1), some (.int x2), some (.int x3), some (.int 0)] [] κ S (it_pi κ P)
  refine ev_keep [true, true, true, true, true] ?_
  refine Llp_X6_ordered_3 hm (fun v5 S6 h => ?_) _ _ _ h
  show it_Ev g l 5 it_m_X6_ordered 0 0 25 [some (.ref 45), some (.int x1), some (.int x2), some (.int x3), some (.int v5)] [] κ S6 (it_pi κ P)
  refine ev_iload d_X6_ordered_25 rfl ?_
  refine ev_bipush d_X6_ordered_27 kv_bipush_10 ?_
  refine ev_icmp_ne (tgt := 34) d_X6_ordered_29 (by decide) (fun hc7 => ?_) (fun hc7 => ?_)
  · have h := it_ok_f h hc7
    refine ev_aload_n d_X6_ordered_34 rfl ?_
    refine ev_getRr (r := 49) rfl d_X6_ordered_35 fl_IcedTooSoonModel_19 hm.1 rfl ?_
    refine ev_iconst d_X6_ordered_38 kv_iconst_3 ?_
    refine ev_iload d_X6_ordered_39 rfl ?_
    refine ev_imul d_X6_ordered_41 ?_
    refine ev_iload_n d_X6_ordered_42 rfl ?_
    obtain ⟨hb8, h⟩ := it_ok_g h
    refine ev_iast d_X6_ordered_43 (by decide) (hm).2.2.2.2.1 (it_bd_in hb8) ?_
    refine ev_aload_n d_X6_ordered_44 rfl ?_
    refine ev_getRr (r := 49) rfl d_X6_ordered_45 fl_IcedTooSoonModel_19 hm.1 rfl ?_
    refine ev_iconst d_X6_ordered_48 kv_iconst_3 ?_
    refine ev_iload d_X6_ordered_49 rfl ?_
    refine ev_imul d_X6_ordered_51 ?_
    refine ev_iconst d_X6_ordered_52 kv_iconst_1 ?_
    refine ev_iadd d_X6_ordered_53 ?_
    refine ev_iload_n d_X6_ordered_54 rfl ?_
    obtain ⟨hb9, h⟩ := it_ok_g h
    refine ev_iast d_X6_ordered_55 (by decide) (hm).2.2.2.2.1 (it_bd_in hb9) ?_
    refine ev_aload_n d_X6_ordered_56 rfl ?_
    refine ev_getRr (r := 49) rfl d_X6_ordered_57 fl_IcedTooSoonModel_19 hm.1 rfl ?_
    refine ev_iconst d_X6_ordered_60 kv_iconst_3 ?_
    refine ev_iload d_X6_ordered_61 rfl ?_
    refine ev_imul d_X6_ordered_63 ?_
    refine ev_iconst d_X6_ordered_64 kv_iconst_2 ?_
    refine ev_iadd d_X6_ordered_65 ?_
    refine ev_iload_n d_X6_ordered_66 rfl ?_
    obtain ⟨hb10, h⟩ := it_ok_g h
    refine ev_iast d_X6_ordered_67 (by decide) (hm).2.2.2.2.1 (it_bd_in hb10) ?_
    refine ev_aload_n d_X6_ordered_68 rfl ?_
    refine ev_getRr (r := 48) rfl d_X6_ordered_69 fl_IcedTooSoonModel_16 hm.1 rfl ?_
    refine ev_iconst d_X6_ordered_72 kv_iconst_2 ?_
    refine ev_iload_n d_X6_ordered_73 rfl ?_
    refine ev_imul d_X6_ordered_74 ?_
    refine ev_iconst d_X6_ordered_75 kv_iconst_1 ?_
    refine ev_iadd d_X6_ordered_76 ?_
    refine ev_aload_n d_X6_ordered_77 rfl ?_
    refine ev_getRr (r := 48) rfl d_X6_ordered_78 fl_IcedTooSoonModel_16 hm.1 rfl ?_
    refine ev_iconst d_X6_ordered_81 kv_iconst_2 ?_
    refine ev_iload_n d_X6_ordered_82 rfl ?_
    refine ev_imul d_X6_ordered_83 ?_
    refine ev_iconst d_X6_ordered_84 kv_iconst_1 ?_
    refine ev_iadd d_X6_ordered_85 ?_
    obtain ⟨hb11, h⟩ := it_ok_g h
    refine ev_iald d_X6_ordered_86 (hm).2.2.2.1 (it_bd_in hb11) ?_
    refine ev_aload_n d_X6_ordered_87 rfl ?_
    refine ev_iload d_X6_ordered_88 rfl ?_
    refine ev_callV (ci := 6) (b := 45) (M' := it_m_X6_chillsOf) (d' := 4) (As := [.int v5]) d_X6_ordered_90 ml_IcedTooSoonModel_170 hm.1.1 hm.1.2.1 ⟨_, rfl, rfl⟩ rfl rfl (Nat.le_of_ble_eq_true rfl) (by decide) (by decide) (by decide) (L_X6_chillsOf hm (it_ok_b h)) (fun _ _ _ _ q => by cases q.1; rfl) ?_
    rintro _ _ S12 ⟨rfl, r13, rfl, h⟩
    show it_Ev g l 5 it_m_X6_ordered 0 0 93 [some (.ref 45), some (.int x1), some (.int x2), some (.int x3), some (.int v5)] [.int r13, .int ((it_up (it_up (it_up S6 49 ((3 * v5) : Int32).toNatClampNeg x1) 49 (((3 * v5) + 1) : Int32).toNatClampNeg x2) 49 (((3 * v5) + 2) : Int32).toNatClampNeg x3) 48 (((2 * x1) + 1) : Int32).toNatClampNeg), .int ((2 * x1) + 1), .ref 48] κ S12 (it_pi κ P)
    refine ev_iadd d_X6_ordered_93 ?_
    refine ev_iconst d_X6_ordered_94 kv_iconst_0 ?_
    refine ev_bipush d_X6_ordered_95 kv_bipush_99 ?_
    refine ev_callS (M' := it_m_X6_within) (d' := 1) (As := [.int (((it_up (it_up (it_up S6 49 ((3 * v5) : Int32).toNatClampNeg x1) 49 (((3 * v5) + 1) : Int32).toNatClampNeg x2) 49 (((3 * v5) + 2) : Int32).toNatClampNeg x3) 48 (((2 * x1) + 1) : Int32).toNatClampNeg) + r13), .int 0, .int 99]) d_X6_ordered_97 ml_IcedTooSoonModel_82 rfl rfl (Nat.le_of_ble_eq_true rfl) (by decide) (by decide) (by decide) (L_X6_within  (it_ok_b h)) (fun _ _ _ _ q => by cases q.1; rfl) ?_
    rintro _ _ S14 ⟨rfl, r15, rfl, h⟩
    show it_Ev g l 5 it_m_X6_ordered 0 0 100 [some (.ref 45), some (.int x1), some (.int x2), some (.int x3), some (.int v5)] [.int r15, .int ((2 * x1) + 1), .ref 48] κ S14 (it_pi κ P)
    refine ev_iast d_X6_ordered_100 (by decide) (hm).2.2.2.1 (it_bd_in hb11) ?_
    refine ev_iload d_X6_ordered_101 rfl ?_
    exact ev_ret (v := some (.int _)) ⟨d_X6_ordered_103, _, rfl, rfl⟩ (by decide) (by decide) ⟨rfl, _, rfl, it_ok_r h⟩
  · have h := it_ok_t h hc7
    refine ev_iconst d_X6_ordered_32 kv_iconst_m1 ?_
    exact ev_ret (v := some (.int _)) ⟨d_X6_ordered_33, _, rfl, rfl⟩ (by decide) (by decide) ⟨rfl, _, rfl, it_ok_r h⟩
theorem d_X6_order_0 : decode prog_8_method_34_code 0 = .ok (.aload_n 0, 1) := by decide +kernel
theorem d_X6_order_1 : decode prog_8_method_34_code 1 = .ok (.iload_n 1, 1) := by decide +kernel
theorem d_X6_order_2 : decode prog_8_method_34_code 2 = .ok (.invokevirtual 173, 3) := by decide +kernel
theorem d_X6_order_5 : decode prog_8_method_34_code 5 = .ok (.ifCond .ne 6, 3) := by decide +kernel
theorem d_X6_order_8 : decode prog_8_method_34_code 8 = .ok (.bipush (-5), 2) := by decide +kernel
theorem d_X6_order_10 : decode prog_8_method_34_code 10 = .ok (.ireturn, 1) := by decide +kernel
theorem d_X6_order_11 : decode prog_8_method_34_code 11 = .ok (.iload_n 2, 1) := by decide +kernel
theorem d_X6_order_12 : decode prog_8_method_34_code 12 = .ok (.bipush (-99), 2) := by decide +kernel
theorem d_X6_order_14 : decode prog_8_method_34_code 14 = .ok (.bipush 99, 2) := by decide +kernel
theorem d_X6_order_16 : decode prog_8_method_34_code 16 = .ok (.invokestatic 78, 3) := by decide +kernel
theorem d_X6_order_19 : decode prog_8_method_34_code 19 = .ok (.ifCond .eq 13, 3) := by decide +kernel
theorem d_X6_order_22 : decode prog_8_method_34_code 22 = .ok (.iload_n 3, 1) := by decide +kernel
theorem d_X6_order_23 : decode prog_8_method_34_code 23 = .ok (.iconst 1, 1) := by decide +kernel
theorem d_X6_order_24 : decode prog_8_method_34_code 24 = .ok (.bipush 99, 2) := by decide +kernel
theorem d_X6_order_26 : decode prog_8_method_34_code 26 = .ok (.invokestatic 78, 3) := by decide +kernel
theorem d_X6_order_29 : decode prog_8_method_34_code 29 = .ok (.ifCond .ne 6, 3) := by decide +kernel
theorem d_X6_order_32 : decode prog_8_method_34_code 32 = .ok (.bipush (-7), 2) := by decide +kernel
theorem d_X6_order_34 : decode prog_8_method_34_code 34 = .ok (.ireturn, 1) := by decide +kernel
theorem d_X6_order_35 : decode prog_8_method_34_code 35 = .ok (.aload_n 0, 1) := by decide +kernel
theorem d_X6_order_36 : decode prog_8_method_34_code 36 = .ok (.iload_n 1, 1) := by decide +kernel
theorem d_X6_order_37 : decode prog_8_method_34_code 37 = .ok (.iload_n 2, 1) := by decide +kernel
theorem d_X6_order_38 : decode prog_8_method_34_code 38 = .ok (.iload_n 3, 1) := by decide +kernel
theorem d_X6_order_39 : decode prog_8_method_34_code 39 = .ok (.invokevirtual 176, 3) := by decide +kernel
theorem d_X6_order_42 : decode prog_8_method_34_code 42 = .ok (.istore 4, 2) := by decide +kernel
theorem d_X6_order_44 : decode prog_8_method_34_code 44 = .ok (.iload 4, 2) := by decide +kernel
theorem d_X6_order_46 : decode prog_8_method_34_code 46 = .ok (.iconst (-1), 1) := by decide +kernel
theorem d_X6_order_47 : decode prog_8_method_34_code 47 = .ok (.if_icmp .ne 8, 3) := by decide +kernel
theorem d_X6_order_50 : decode prog_8_method_34_code 50 = .ok (.bipush (-4), 2) := by decide +kernel
theorem d_X6_order_52 : decode prog_8_method_34_code 52 = .ok (.goto 5, 3) := by decide +kernel
theorem d_X6_order_55 : decode prog_8_method_34_code 55 = .ok (.iload 4, 2) := by decide +kernel
theorem d_X6_order_57 : decode prog_8_method_34_code 57 = .ok (.ireturn, 1) := by decide +kernel
def f_X6_order (κ : it_KK) (x1 : Int32) (x2 : Int32) (x3 : Int32) (S : it_SS) : Option (Int32 × it_SS) :=
it_bi (f_X6_isOne κ x1 S) (fun r2 S1 =>
if r2 = 0 then
some ((-5), S1)
else
it_bi (f_X6_in κ x2 (-99) 99 S1) (fun r5 S4 =>
if r5 = 0 then
some ((-7), S4)
else
it_bi (f_X6_in κ x3 1 99 S4) (fun r8 S7 =>
if r8 = 0 then
some ((-7), S7)
else
it_bi (f_X6_ordered κ x1 x2 x3 S7) (fun r11 S10 =>
if r11 = (-1) then
some ((-4), S10)
else
some (r11, S10)))))
set_option maxHeartbeats 4000000 in
set_option maxRecDepth 100000 in
theorem L_X6_order {g : it_G} {l : Launch} {κ : it_KK} {x1 : Int32} {x2 : Int32} {x3 : Int32} (hm : it_wm κ) {S : it_SS} {P : Int32 → it_SS → Prop} (h : it_ok (f_X6_order κ x1 x2 x3 S) P) : it_Cn g l 6 it_m_X6_order [.ref 45, .int x1, .int x2, .int x3] κ S (it_pi κ P) := by
  refine it_Cn.of (by decide +kernel) (Nat.le_of_ble_eq_true rfl) ?_
  rw [f_X6_order] at h
  show it_Ev g l 6 it_m_X6_order 0 0 0 [some (.ref 45), some (.int x1), some (.int x2), some (.int x3), none] [] κ S (it_pi κ P)
  refine ev_aload_n d_X6_order_0 rfl ?_
  refine ev_iload_n d_X6_order_1 rfl ?_
  refine ev_callV (ci := 6) (b := 45) (M' := it_m_X6_isOne) (d' := 2) (As := [.int x1]) d_X6_order_2 ml_IcedTooSoonModel_173 hm.1.1 hm.1.2.1 ⟨_, rfl, rfl⟩ rfl rfl (Nat.le_of_ble_eq_true rfl) (by decide) (by decide) (by decide) (L_X6_isOne hm (it_ok_b h)) (fun _ _ _ _ q => by cases q.1; rfl) ?_
  rintro _ _ S1 ⟨rfl, r2, rfl, h⟩
  show it_Ev g l 6 it_m_X6_order 0 0 5 [some (.ref 45), some (.int x1), some (.int x2), some (.int x3), none] [.int r2] κ S1 (it_pi κ P)
  refine ev_if_ne (tgt := 11) d_X6_order_5 (by decide) (fun hc3 => ?_) (fun hc3 => ?_)
  · have h := it_ok_f h hc3
    refine ev_iload_n d_X6_order_11 rfl ?_
    refine ev_bipush d_X6_order_12 kv_bipush_m99 ?_
    refine ev_bipush d_X6_order_14 kv_bipush_99 ?_
    refine ev_callS (M' := it_m_X6_in) (d' := 1) (As := [.int x2, .int (-99), .int 99]) d_X6_order_16 ml_IcedTooSoonModel_78 rfl rfl (Nat.le_of_ble_eq_true rfl) (by decide) (by decide) (by decide) (L_X6_in  (it_ok_b h)) (fun _ _ _ _ q => by cases q.1; rfl) ?_
    rintro _ _ S4 ⟨rfl, r5, rfl, h⟩
    show it_Ev g l 6 it_m_X6_order 0 0 19 [some (.ref 45), some (.int x1), some (.int x2), some (.int x3), none] [.int r5] κ S4 (it_pi κ P)
    refine ev_if_eq (tgt := 32) d_X6_order_19 (by decide) (fun hc6 => ?_) (fun hc6 => ?_)
    · have h := it_ok_t h hc6
      refine ev_bipush d_X6_order_32 kv_bipush_m7 ?_
      exact ev_ret (v := some (.int _)) ⟨d_X6_order_34, _, rfl, rfl⟩ (by decide) (by decide) ⟨rfl, _, rfl, it_ok_r h⟩
    · have h := it_ok_f h hc6
      refine ev_iload_n d_X6_order_22 rfl ?_
      refine ev_iconst d_X6_order_23 kv_iconst_1 ?_
      refine ev_bipush d_X6_order_24 kv_bipush_99 ?_
      refine ev_callS (M' := it_m_X6_in) (d' := 1) (As := [.int x3, .int 1, .int 99]) d_X6_order_26 ml_IcedTooSoonModel_78 rfl rfl (Nat.le_of_ble_eq_true rfl) (by decide) (by decide) (by decide) (L_X6_in  (it_ok_b h)) (fun _ _ _ _ q => by cases q.1; rfl) ?_
      rintro _ _ S7 ⟨rfl, r8, rfl, h⟩
      show it_Ev g l 6 it_m_X6_order 0 0 29 [some (.ref 45), some (.int x1), some (.int x2), some (.int x3), none] [.int r8] κ S7 (it_pi κ P)
      refine ev_if_ne (tgt := 35) d_X6_order_29 (by decide) (fun hc9 => ?_) (fun hc9 => ?_)
      · have h := it_ok_f h hc9
        refine ev_aload_n d_X6_order_35 rfl ?_
        refine ev_iload_n d_X6_order_36 rfl ?_
        refine ev_iload_n d_X6_order_37 rfl ?_
        refine ev_iload_n d_X6_order_38 rfl ?_
        refine ev_callV (ci := 6) (b := 45) (M' := it_m_X6_ordered) (d' := 5) (As := [.int x1, .int x2, .int x3]) d_X6_order_39 ml_IcedTooSoonModel_176 hm.1.1 hm.1.2.1 ⟨_, rfl, rfl⟩ rfl rfl (Nat.le_of_ble_eq_true rfl) (by decide) (by decide) (by decide) (L_X6_ordered hm (it_ok_b h)) (fun _ _ _ _ q => by cases q.1; rfl) ?_
        rintro _ _ S10 ⟨rfl, r11, rfl, h⟩
        show it_Ev g l 6 it_m_X6_order 0 0 42 [some (.ref 45), some (.int x1), some (.int x2), some (.int x3), none] [.int r11] κ S10 (it_pi κ P)
        refine ev_istore d_X6_order_42 (by decide) ?_
        show it_Ev g l 6 it_m_X6_order 0 0 44 [some (.ref 45), some (.int x1), some (.int x2), some (.int x3), some (.int r11)] [] κ S10 (it_pi κ P)
        refine ev_iload d_X6_order_44 rfl ?_
        refine ev_iconst d_X6_order_46 kv_iconst_m1 ?_
        refine ev_icmp_ne (tgt := 55) d_X6_order_47 (by decide) (fun hc12 => ?_) (fun hc12 => ?_)
        · have h := it_ok_f h hc12
          refine ev_iload d_X6_order_55 rfl ?_
          exact ev_ret (v := some (.int _)) ⟨d_X6_order_57, _, rfl, rfl⟩ (by decide) (by decide) ⟨rfl, _, rfl, it_ok_r h⟩
        · have h := it_ok_t h hc12
          refine ev_bipush d_X6_order_50 kv_bipush_m4 ?_
          refine ev_goto (tgt := 57) d_X6_order_52 (by decide) ?_
          exact ev_ret (v := some (.int _)) ⟨d_X6_order_57, _, rfl, rfl⟩ (by decide) (by decide) ⟨rfl, _, rfl, it_ok_r h⟩
      · have h := it_ok_t h hc9
        refine ev_bipush d_X6_order_32 kv_bipush_m7 ?_
        exact ev_ret (v := some (.int _)) ⟨d_X6_order_34, _, rfl, rfl⟩ (by decide) (by decide) ⟨rfl, _, rfl, it_ok_r h⟩
  · have h := it_ok_t h hc3
    refine ev_bipush d_X6_order_8 kv_bipush_m5 ?_
    exact ev_ret (v := some (.int _)) ⟨d_X6_order_10, _, rfl, rfl⟩ (by decide) (by decide) ⟨rfl, _, rfl, it_ok_r h⟩
theorem d_X6_put_0 : decode prog_8_method_35_code 0 = .ok (.aload_n 0, 1) := by decide +kernel
theorem d_X6_put_1 : decode prog_8_method_35_code 1 = .ok (.iload_n 1, 1) := by decide +kernel
theorem d_X6_put_2 : decode prog_8_method_35_code 2 = .ok (.invokevirtual 173, 3) := by decide +kernel
theorem d_X6_put_5 : decode prog_8_method_35_code 5 = .ok (.ifCond .ne 7, 3) := by decide +kernel
theorem d_X6_put_8 : decode prog_8_method_35_code 8 = .ok (.sipush (-5000), 3) := by decide +kernel
theorem d_X6_put_11 : decode prog_8_method_35_code 11 = .ok (.ireturn, 1) := by decide +kernel
theorem d_X6_put_12 : decode prog_8_method_35_code 12 = .ok (.iload_n 2, 1) := by decide +kernel
theorem d_X6_put_13 : decode prog_8_method_35_code 13 = .ok (.iconst 0, 1) := by decide +kernel
theorem d_X6_put_14 : decode prog_8_method_35_code 14 = .ok (.iconst 1, 1) := by decide +kernel
theorem d_X6_put_15 : decode prog_8_method_35_code 15 = .ok (.invokestatic 78, 3) := by decide +kernel
theorem d_X6_put_18 : decode prog_8_method_35_code 18 = .ok (.ifCond .eq 22, 3) := by decide +kernel
theorem d_X6_put_21 : decode prog_8_method_35_code 21 = .ok (.iload_n 3, 1) := by decide +kernel
theorem d_X6_put_22 : decode prog_8_method_35_code 22 = .ok (.iload_n 2, 1) := by decide +kernel
theorem d_X6_put_23 : decode prog_8_method_35_code 23 = .ok (.ifCond .ne 8, 3) := by decide +kernel
theorem d_X6_put_26 : decode prog_8_method_35_code 26 = .ok (.bipush (-99), 2) := by decide +kernel
theorem d_X6_put_28 : decode prog_8_method_35_code 28 = .ok (.goto 4, 3) := by decide +kernel
theorem d_X6_put_31 : decode prog_8_method_35_code 31 = .ok (.iconst 0, 1) := by decide +kernel
theorem d_X6_put_32 : decode prog_8_method_35_code 32 = .ok (.bipush 99, 2) := by decide +kernel
theorem d_X6_put_34 : decode prog_8_method_35_code 34 = .ok (.invokestatic 78, 3) := by decide +kernel
theorem d_X6_put_37 : decode prog_8_method_35_code 37 = .ok (.ifCond .ne 7, 3) := by decide +kernel
theorem d_X6_put_40 : decode prog_8_method_35_code 40 = .ok (.sipush (-7000), 3) := by decide +kernel
theorem d_X6_put_43 : decode prog_8_method_35_code 43 = .ok (.ireturn, 1) := by decide +kernel
theorem d_X6_put_44 : decode prog_8_method_35_code 44 = .ok (.aload_n 0, 1) := by decide +kernel
theorem d_X6_put_45 : decode prog_8_method_35_code 45 = .ok (.getfield 16, 3) := by decide +kernel
theorem d_X6_put_48 : decode prog_8_method_35_code 48 = .ok (.iconst 2, 1) := by decide +kernel
theorem d_X6_put_49 : decode prog_8_method_35_code 49 = .ok (.iload_n 1, 1) := by decide +kernel
theorem d_X6_put_50 : decode prog_8_method_35_code 50 = .ok (.imul, 1) := by decide +kernel
theorem d_X6_put_51 : decode prog_8_method_35_code 51 = .ok (.iload_n 2, 1) := by decide +kernel
theorem d_X6_put_52 : decode prog_8_method_35_code 52 = .ok (.iadd, 1) := by decide +kernel
theorem d_X6_put_53 : decode prog_8_method_35_code 53 = .ok (.iaload, 1) := by decide +kernel
theorem d_X6_put_54 : decode prog_8_method_35_code 54 = .ok (.istore 4, 2) := by decide +kernel
theorem d_X6_put_56 : decode prog_8_method_35_code 56 = .ok (.aload_n 0, 1) := by decide +kernel
theorem d_X6_put_57 : decode prog_8_method_35_code 57 = .ok (.getfield 16, 3) := by decide +kernel
theorem d_X6_put_60 : decode prog_8_method_35_code 60 = .ok (.iconst 2, 1) := by decide +kernel
theorem d_X6_put_61 : decode prog_8_method_35_code 61 = .ok (.iload_n 1, 1) := by decide +kernel
theorem d_X6_put_62 : decode prog_8_method_35_code 62 = .ok (.imul, 1) := by decide +kernel
theorem d_X6_put_63 : decode prog_8_method_35_code 63 = .ok (.iload_n 2, 1) := by decide +kernel
theorem d_X6_put_64 : decode prog_8_method_35_code 64 = .ok (.iadd, 1) := by decide +kernel
theorem d_X6_put_65 : decode prog_8_method_35_code 65 = .ok (.iload_n 3, 1) := by decide +kernel
theorem d_X6_put_66 : decode prog_8_method_35_code 66 = .ok (.iastore, 1) := by decide +kernel
theorem d_X6_put_67 : decode prog_8_method_35_code 67 = .ok (.iload 4, 2) := by decide +kernel
theorem d_X6_put_69 : decode prog_8_method_35_code 69 = .ok (.ireturn, 1) := by decide +kernel
def f_X6_put (κ : it_KK) (x1 : Int32) (x2 : Int32) (x3 : Int32) (S : it_SS) : Option (Int32 × it_SS) :=
it_bi (f_X6_isOne κ x1 S) (fun r2 S1 =>
if r2 = 0 then
some ((-5000), S1)
else
it_bi (f_X6_in κ x2 0 1 S1) (fun r5 S4 =>
if r5 = 0 then
some ((-7000), S4)
else
if x2 = 0 then
it_bi (f_X6_in κ x3 (-99) 99 S4) (fun r13 S12 =>
if r13 = 0 then
some ((-7000), S12)
else
if it_bd ((2 * x1) + x2) 12 = true then
some ((S12 48 (((2 * x1) + x2) : Int32).toNatClampNeg), it_up S12 48 (((2 * x1) + x2) : Int32).toNatClampNeg x3)
else none)
else
it_bi (f_X6_in κ x3 0 99 S4) (fun r9 S8 =>
if r9 = 0 then
some ((-7000), S8)
else
if it_bd ((2 * x1) + x2) 12 = true then
some ((S8 48 (((2 * x1) + x2) : Int32).toNatClampNeg), it_up S8 48 (((2 * x1) + x2) : Int32).toNatClampNeg x3)
else none)))
set_option maxHeartbeats 4000000 in
set_option maxRecDepth 100000 in
theorem L_X6_put {g : it_G} {l : Launch} {κ : it_KK} {x1 : Int32} {x2 : Int32} {x3 : Int32} (hm : it_wm κ) {S : it_SS} {P : Int32 → it_SS → Prop} (h : it_ok (f_X6_put κ x1 x2 x3 S) P) : it_Cn g l 3 it_m_X6_put [.ref 45, .int x1, .int x2, .int x3] κ S (it_pi κ P) := by
  refine it_Cn.of (by decide +kernel) (Nat.le_of_ble_eq_true rfl) ?_
  rw [f_X6_put] at h
  show it_Ev g l 3 it_m_X6_put 0 0 0 [some (.ref 45), some (.int x1), some (.int x2), some (.int x3), none] [] κ S (it_pi κ P)
  refine ev_aload_n d_X6_put_0 rfl ?_
  refine ev_iload_n d_X6_put_1 rfl ?_
  refine ev_callV (ci := 6) (b := 45) (M' := it_m_X6_isOne) (d' := 2) (As := [.int x1]) d_X6_put_2 ml_IcedTooSoonModel_173 hm.1.1 hm.1.2.1 ⟨_, rfl, rfl⟩ rfl rfl (Nat.le_of_ble_eq_true rfl) (by decide) (by decide) (by decide) (L_X6_isOne hm (it_ok_b h)) (fun _ _ _ _ q => by cases q.1; rfl) ?_
  rintro _ _ S1 ⟨rfl, r2, rfl, h⟩
  show it_Ev g l 3 it_m_X6_put 0 0 5 [some (.ref 45), some (.int x1), some (.int x2), some (.int x3), none] [.int r2] κ S1 (it_pi κ P)
  refine ev_if_ne (tgt := 12) d_X6_put_5 (by decide) (fun hc3 => ?_) (fun hc3 => ?_)
  · have h := it_ok_f h hc3
    refine ev_iload_n d_X6_put_12 rfl ?_
    refine ev_iconst d_X6_put_13 kv_iconst_0 ?_
    refine ev_iconst d_X6_put_14 kv_iconst_1 ?_
    refine ev_callS (M' := it_m_X6_in) (d' := 1) (As := [.int x2, .int 0, .int 1]) d_X6_put_15 ml_IcedTooSoonModel_78 rfl rfl (Nat.le_of_ble_eq_true rfl) (by decide) (by decide) (by decide) (L_X6_in  (it_ok_b h)) (fun _ _ _ _ q => by cases q.1; rfl) ?_
    rintro _ _ S4 ⟨rfl, r5, rfl, h⟩
    show it_Ev g l 3 it_m_X6_put 0 0 18 [some (.ref 45), some (.int x1), some (.int x2), some (.int x3), none] [.int r5] κ S4 (it_pi κ P)
    refine ev_if_eq (tgt := 40) d_X6_put_18 (by decide) (fun hc6 => ?_) (fun hc6 => ?_)
    · have h := it_ok_t h hc6
      refine ev_sipush d_X6_put_40 kv_sipush_m7000 ?_
      exact ev_ret (v := some (.int _)) ⟨d_X6_put_43, _, rfl, rfl⟩ (by decide) (by decide) ⟨rfl, _, rfl, it_ok_r h⟩
    · have h := it_ok_f h hc6
      refine ev_iload_n d_X6_put_21 rfl ?_
      refine ev_iload_n d_X6_put_22 rfl ?_
      refine ev_if_ne (tgt := 31) d_X6_put_23 (by decide) (fun hc7 => ?_) (fun hc7 => ?_)
      · have h := it_ok_f h hc7
        refine ev_iconst d_X6_put_31 kv_iconst_0 ?_
        refine ev_bipush d_X6_put_32 kv_bipush_99 ?_
        refine ev_callS (M' := it_m_X6_in) (d' := 1) (As := [.int x3, .int 0, .int 99]) d_X6_put_34 ml_IcedTooSoonModel_78 rfl rfl (Nat.le_of_ble_eq_true rfl) (by decide) (by decide) (by decide) (L_X6_in  (it_ok_b h)) (fun _ _ _ _ q => by cases q.1; rfl) ?_
        rintro _ _ S8 ⟨rfl, r9, rfl, h⟩
        show it_Ev g l 3 it_m_X6_put 0 0 37 [some (.ref 45), some (.int x1), some (.int x2), some (.int x3), none] [.int r9] κ S8 (it_pi κ P)
        refine ev_if_ne (tgt := 44) d_X6_put_37 (by decide) (fun hc10 => ?_) (fun hc10 => ?_)
        · have h := it_ok_f h hc10
          refine ev_aload_n d_X6_put_44 rfl ?_
          refine ev_getRr (r := 48) rfl d_X6_put_45 fl_IcedTooSoonModel_16 hm.1 rfl ?_
          refine ev_iconst d_X6_put_48 kv_iconst_2 ?_
          refine ev_iload_n d_X6_put_49 rfl ?_
          refine ev_imul d_X6_put_50 ?_
          refine ev_iload_n d_X6_put_51 rfl ?_
          refine ev_iadd d_X6_put_52 ?_
          obtain ⟨hb11, h⟩ := it_ok_g h
          refine ev_iald d_X6_put_53 (hm).2.2.2.1 (it_bd_in hb11) ?_
          refine ev_istore d_X6_put_54 (by decide) ?_
          show it_Ev g l 3 it_m_X6_put 0 0 56 [some (.ref 45), some (.int x1), some (.int x2), some (.int x3), some (.int (S8 48 (((2 * x1) + x2) : Int32).toNatClampNeg))] [] κ S8 (it_pi κ P)
          refine ev_aload_n d_X6_put_56 rfl ?_
          refine ev_getRr (r := 48) rfl d_X6_put_57 fl_IcedTooSoonModel_16 hm.1 rfl ?_
          refine ev_iconst d_X6_put_60 kv_iconst_2 ?_
          refine ev_iload_n d_X6_put_61 rfl ?_
          refine ev_imul d_X6_put_62 ?_
          refine ev_iload_n d_X6_put_63 rfl ?_
          refine ev_iadd d_X6_put_64 ?_
          refine ev_iload_n d_X6_put_65 rfl ?_
          refine ev_iast d_X6_put_66 (by decide) (hm).2.2.2.1 (it_bd_in hb11) ?_
          refine ev_iload d_X6_put_67 rfl ?_
          exact ev_ret (v := some (.int _)) ⟨d_X6_put_69, _, rfl, rfl⟩ (by decide) (by decide) ⟨rfl, _, rfl, it_ok_r h⟩
        · have h := it_ok_t h hc10
          refine ev_sipush d_X6_put_40 kv_sipush_m7000 ?_
          exact ev_ret (v := some (.int _)) ⟨d_X6_put_43, _, rfl, rfl⟩ (by decide) (by decide) ⟨rfl, _, rfl, it_ok_r h⟩
      · have h := it_ok_t h hc7
        refine ev_bipush d_X6_put_26 kv_bipush_m99 ?_
        refine ev_goto (tgt := 32) d_X6_put_28 (by decide) ?_
        refine ev_bipush d_X6_put_32 kv_bipush_99 ?_
        refine ev_callS (M' := it_m_X6_in) (d' := 1) (As := [.int x3, .int (-99), .int 99]) d_X6_put_34 ml_IcedTooSoonModel_78 rfl rfl (Nat.le_of_ble_eq_true rfl) (by decide) (by decide) (by decide) (L_X6_in  (it_ok_b h)) (fun _ _ _ _ q => by cases q.1; rfl) ?_
        rintro _ _ S12 ⟨rfl, r13, rfl, h⟩
        show it_Ev g l 3 it_m_X6_put 0 0 37 [some (.ref 45), some (.int x1), some (.int x2), some (.int x3), none] [.int r13] κ S12 (it_pi κ P)
        refine ev_if_ne (tgt := 44) d_X6_put_37 (by decide) (fun hc14 => ?_) (fun hc14 => ?_)
        · have h := it_ok_f h hc14
          refine ev_aload_n d_X6_put_44 rfl ?_
          refine ev_getRr (r := 48) rfl d_X6_put_45 fl_IcedTooSoonModel_16 hm.1 rfl ?_
          refine ev_iconst d_X6_put_48 kv_iconst_2 ?_
          refine ev_iload_n d_X6_put_49 rfl ?_
          refine ev_imul d_X6_put_50 ?_
          refine ev_iload_n d_X6_put_51 rfl ?_
          refine ev_iadd d_X6_put_52 ?_
          obtain ⟨hb15, h⟩ := it_ok_g h
          refine ev_iald d_X6_put_53 (hm).2.2.2.1 (it_bd_in hb15) ?_
          refine ev_istore d_X6_put_54 (by decide) ?_
          show it_Ev g l 3 it_m_X6_put 0 0 56 [some (.ref 45), some (.int x1), some (.int x2), some (.int x3), some (.int (S12 48 (((2 * x1) + x2) : Int32).toNatClampNeg))] [] κ S12 (it_pi κ P)
          refine ev_aload_n d_X6_put_56 rfl ?_
          refine ev_getRr (r := 48) rfl d_X6_put_57 fl_IcedTooSoonModel_16 hm.1 rfl ?_
          refine ev_iconst d_X6_put_60 kv_iconst_2 ?_
          refine ev_iload_n d_X6_put_61 rfl ?_
          refine ev_imul d_X6_put_62 ?_
          refine ev_iload_n d_X6_put_63 rfl ?_
          refine ev_iadd d_X6_put_64 ?_
          refine ev_iload_n d_X6_put_65 rfl ?_
          refine ev_iast d_X6_put_66 (by decide) (hm).2.2.2.1 (it_bd_in hb15) ?_
          refine ev_iload d_X6_put_67 rfl ?_
          exact ev_ret (v := some (.int _)) ⟨d_X6_put_69, _, rfl, rfl⟩ (by decide) (by decide) ⟨rfl, _, rfl, it_ok_r h⟩
        · have h := it_ok_t h hc14
          refine ev_sipush d_X6_put_40 kv_sipush_m7000 ?_
          exact ev_ret (v := some (.int _)) ⟨d_X6_put_43, _, rfl, rfl⟩ (by decide) (by decide) ⟨rfl, _, rfl, it_ok_r h⟩
  · have h := it_ok_t h hc3
    refine ev_sipush d_X6_put_8 kv_sipush_m5000 ?_
    exact ev_ret (v := some (.int _)) ⟨d_X6_put_11, _, rfl, rfl⟩ (by decide) (by decide) ⟨rfl, _, rfl, it_ok_r h⟩
theorem d_X6_glassesOf_0 : decode prog_8_method_36_code 0 = .ok (.iconst 0, 1) := by decide +kernel
theorem d_X6_glassesOf_1 : decode prog_8_method_36_code 1 = .ok (.istore_n 2, 1) := by decide +kernel
theorem d_X6_glassesOf_2 : decode prog_8_method_36_code 2 = .ok (.iconst 0, 1) := by decide +kernel
theorem d_X6_glassesOf_3 : decode prog_8_method_36_code 3 = .ok (.istore_n 3, 1) := by decide +kernel
theorem d_X6_glassesOf_4 : decode prog_8_method_36_code 4 = .ok (.iload_n 3, 1) := by decide +kernel
theorem d_X6_glassesOf_5 : decode prog_8_method_36_code 5 = .ok (.bipush 10, 2) := by decide +kernel
theorem d_X6_glassesOf_7 : decode prog_8_method_36_code 7 = .ok (.if_icmp .ge 31, 3) := by decide +kernel
theorem d_X6_glassesOf_10 : decode prog_8_method_36_code 10 = .ok (.iload_n 2, 1) := by decide +kernel
theorem d_X6_glassesOf_11 : decode prog_8_method_36_code 11 = .ok (.aload_n 0, 1) := by decide +kernel
theorem d_X6_glassesOf_12 : decode prog_8_method_36_code 12 = .ok (.getfield 19, 3) := by decide +kernel
theorem d_X6_glassesOf_15 : decode prog_8_method_36_code 15 = .ok (.iconst 3, 1) := by decide +kernel
theorem d_X6_glassesOf_16 : decode prog_8_method_36_code 16 = .ok (.iload_n 3, 1) := by decide +kernel
theorem d_X6_glassesOf_17 : decode prog_8_method_36_code 17 = .ok (.imul, 1) := by decide +kernel
theorem d_X6_glassesOf_18 : decode prog_8_method_36_code 18 = .ok (.iaload, 1) := by decide +kernel
theorem d_X6_glassesOf_19 : decode prog_8_method_36_code 19 = .ok (.iload_n 1, 1) := by decide +kernel
theorem d_X6_glassesOf_20 : decode prog_8_method_36_code 20 = .ok (.if_icmp .ne 9, 3) := by decide +kernel
theorem d_X6_glassesOf_23 : decode prog_8_method_36_code 23 = .ok (.iconst 1, 1) := by decide +kernel
theorem d_X6_glassesOf_24 : decode prog_8_method_36_code 24 = .ok (.iload_n 3, 1) := by decide +kernel
theorem d_X6_glassesOf_25 : decode prog_8_method_36_code 25 = .ok (.ishl, 1) := by decide +kernel
theorem d_X6_glassesOf_26 : decode prog_8_method_36_code 26 = .ok (.goto 4, 3) := by decide +kernel
theorem d_X6_glassesOf_29 : decode prog_8_method_36_code 29 = .ok (.iconst 0, 1) := by decide +kernel
theorem d_X6_glassesOf_30 : decode prog_8_method_36_code 30 = .ok (.ior, 1) := by decide +kernel
theorem d_X6_glassesOf_31 : decode prog_8_method_36_code 31 = .ok (.istore_n 2, 1) := by decide +kernel
theorem d_X6_glassesOf_32 : decode prog_8_method_36_code 32 = .ok (.iinc 3 1, 3) := by decide +kernel
theorem d_X6_glassesOf_35 : decode prog_8_method_36_code 35 = .ok (.goto (-31), 3) := by decide +kernel
theorem d_X6_glassesOf_38 : decode prog_8_method_36_code 38 = .ok (.iload_n 2, 1) := by decide +kernel
theorem d_X6_glassesOf_39 : decode prog_8_method_36_code 39 = .ok (.ireturn, 1) := by decide +kernel
def lp_X6_glassesOf_4 (κ : it_KK) (x1 : Int32) (k4 : (Int32 → it_SS → Option (Int32 × it_SS))) : Nat → Int32 → Int32 → it_SS → Option (Int32 × it_SS)
  | 0, _, _, _ => none
  | n4 + 1, v2, v3, S => if 10 ≤ v3 then
k4 v2 S
else
if it_bd (3 * v3) 30 = true then
if (S 49 ((3 * v3) : Int32).toNatClampNeg) = x1 then
lp_X6_glassesOf_4 κ x1 k4 n4 (v2 ||| (1 <<< (v3 &&& 31))) (v3 + 1) S
else
lp_X6_glassesOf_4 κ x1 k4 n4 (v2 ||| 0) (v3 + 1) S
else none
def f_X6_glassesOf (κ : it_KK) (x1 : Int32) (S : it_SS) : Option (Int32 × it_SS) :=
lp_X6_glassesOf_4 κ x1 (fun v4 S5 =>
some (v4, S5)) it_FU 0 0 S
set_option maxHeartbeats 4000000 in
set_option maxRecDepth 100000 in
theorem Llp_X6_glassesOf_4 {g : it_G} {l : Launch} {κ : it_KK} {x1 : Int32} (hm : it_wm κ) {P : Int32 → it_SS → Prop} {k4 : (Int32 → it_SS → Option (Int32 × it_SS))} (hk4 : ∀ (v2 : Int32) (S : it_SS), it_ok (k4 v2 S) P → it_Ev g l 1 it_m_X6_glassesOf 0 0 38 [none, none, some (.int v2), none] [] κ S (it_pi κ P)) : ∀ (n : Nat) (v2 : Int32) (v3 : Int32) (S : it_SS), it_ok (lp_X6_glassesOf_4 κ x1 k4 n v2 v3 S) P → it_Ev g l 1 it_m_X6_glassesOf 0 0 4 [some (.ref 45), some (.int x1), some (.int v2), some (.int v3)] [] κ S (it_pi κ P) := by
  intro n
  induction n with
  | zero =>
    intro _ _ _ h
    exact (it_ok_n h).elim
  | succ n4 ih4 =>
    intro v2 v3 S h
    rw [lp_X6_glassesOf_4] at h
    refine ev_iload_n d_X6_glassesOf_4 rfl ?_
    refine ev_bipush d_X6_glassesOf_5 kv_bipush_10 ?_
    refine ev_icmp_ge (tgt := 38) d_X6_glassesOf_7 (by decide) (fun hc1 => ?_) (fun hc1 => ?_)
    · have h := it_ok_t h hc1
      refine ev_keep [false, false, true, false] ?_
      exact hk4 _ _ h
    · have h := it_ok_f h hc1
      refine ev_iload_n d_X6_glassesOf_10 rfl ?_
      refine ev_aload_n d_X6_glassesOf_11 rfl ?_
      refine ev_getRr (r := 49) rfl d_X6_glassesOf_12 fl_IcedTooSoonModel_19 hm.1 rfl ?_
      refine ev_iconst d_X6_glassesOf_15 kv_iconst_3 ?_
      refine ev_iload_n d_X6_glassesOf_16 rfl ?_
      refine ev_imul d_X6_glassesOf_17 ?_
      obtain ⟨hb2, h⟩ := it_ok_g h
      refine ev_iald d_X6_glassesOf_18 (hm).2.2.2.2.1 (it_bd_in hb2) ?_
      refine ev_iload_n d_X6_glassesOf_19 rfl ?_
      refine ev_icmp_ne (tgt := 29) d_X6_glassesOf_20 (by decide) (fun hc3 => ?_) (fun hc3 => ?_)
      · have h := it_ok_f h hc3
        refine ev_iconst d_X6_glassesOf_29 kv_iconst_0 ?_
        refine ev_ior d_X6_glassesOf_30 ?_
        refine ev_istore_n d_X6_glassesOf_31 (by decide) ?_
        show it_Ev g l 1 it_m_X6_glassesOf 0 0 32 [some (.ref 45), some (.int x1), some (.int (v2 ||| 0)), some (.int v3)] [] κ S (it_pi κ P)
        refine ev_iinc d_X6_glassesOf_32 kv_iconst_1 rfl (by decide) ?_
        show it_Ev g l 1 it_m_X6_glassesOf 0 0 35 [some (.ref 45), some (.int x1), some (.int (v2 ||| 0)), some (.int (v3 + 1))] [] κ S (it_pi κ P)
        refine ev_goto (tgt := 4) d_X6_glassesOf_35 (by decide) ?_
        refine ev_keep [true, true, true, true] ?_
        exact ih4 _ _ _ h
      · have h := it_ok_t h hc3
        refine ev_iconst d_X6_glassesOf_23 kv_iconst_1 ?_
        refine ev_iload_n d_X6_glassesOf_24 rfl ?_
        refine ev_ishl d_X6_glassesOf_25 ?_
        refine ev_goto (tgt := 30) d_X6_glassesOf_26 (by decide) ?_
        refine ev_ior d_X6_glassesOf_30 ?_
        refine ev_istore_n d_X6_glassesOf_31 (by decide) ?_
        show it_Ev g l 1 it_m_X6_glassesOf 0 0 32 [some (.ref 45), some (.int x1), some (.int (v2 ||| (1 <<< (v3 &&& 31)))), some (.int v3)] [] κ S (it_pi κ P)
        refine ev_iinc d_X6_glassesOf_32 kv_iconst_1 rfl (by decide) ?_
        show it_Ev g l 1 it_m_X6_glassesOf 0 0 35 [some (.ref 45), some (.int x1), some (.int (v2 ||| (1 <<< (v3 &&& 31)))), some (.int (v3 + 1))] [] κ S (it_pi κ P)
        refine ev_goto (tgt := 4) d_X6_glassesOf_35 (by decide) ?_
        refine ev_keep [true, true, true, true] ?_
        exact ih4 _ _ _ h
set_option maxHeartbeats 4000000 in
set_option maxRecDepth 100000 in
theorem L_X6_glassesOf {g : it_G} {l : Launch} {κ : it_KK} {x1 : Int32} (hm : it_wm κ) {S : it_SS} {P : Int32 → it_SS → Prop} (h : it_ok (f_X6_glassesOf κ x1 S) P) : it_Cn g l 1 it_m_X6_glassesOf [.ref 45, .int x1] κ S (it_pi κ P) := by
  refine it_Cn.of (by decide +kernel) (Nat.le_of_ble_eq_true rfl) ?_
  rw [f_X6_glassesOf] at h
  show it_Ev g l 1 it_m_X6_glassesOf 0 0 0 [some (.ref 45), some (.int x1), none, none] [] κ S (it_pi κ P)
  refine ev_iconst d_X6_glassesOf_0 kv_iconst_0 ?_
  refine ev_istore_n d_X6_glassesOf_1 (by decide) ?_
  show it_Ev g l 1 it_m_X6_glassesOf 0 0 2 [some (.ref 45), some (.int x1), some (.int 0), none] [] κ S (it_pi κ P)
  refine ev_iconst d_X6_glassesOf_2 kv_iconst_0 ?_
  refine ev_istore_n d_X6_glassesOf_3 (by decide) ?_
  show it_Ev g l 1 it_m_X6_glassesOf 0 0 4 [some (.ref 45), some (.int x1), some (.int 0), some (.int 0)] [] κ S (it_pi κ P)
  refine ev_keep [true, true, true, true] ?_
  refine Llp_X6_glassesOf_4 hm (fun v4 S5 h => ?_) _ _ _ _ h
  show it_Ev g l 1 it_m_X6_glassesOf 0 0 38 [none, none, some (.int v4), none] [] κ S5 (it_pi κ P)
  refine ev_iload_n d_X6_glassesOf_38 rfl ?_
  exact ev_ret (v := some (.int _)) ⟨d_X6_glassesOf_39, _, rfl, rfl⟩ (by decide) (by decide) ⟨rfl, _, rfl, it_ok_r h⟩
theorem d_X6_keeps_0 : decode prog_8_method_43_code 0 = .ok (.iconst 0, 1) := by decide +kernel
theorem d_X6_keeps_1 : decode prog_8_method_43_code 1 = .ok (.istore_n 1, 1) := by decide +kernel
theorem d_X6_keeps_2 : decode prog_8_method_43_code 2 = .ok (.iload_n 1, 1) := by decide +kernel
theorem d_X6_keeps_3 : decode prog_8_method_43_code 3 = .ok (.bipush 12, 2) := by decide +kernel
theorem d_X6_keeps_5 : decode prog_8_method_43_code 5 = .ok (.if_icmp .ge 21, 3) := by decide +kernel
theorem d_X6_keeps_8 : decode prog_8_method_43_code 8 = .ok (.aload_n 0, 1) := by decide +kernel
theorem d_X6_keeps_9 : decode prog_8_method_43_code 9 = .ok (.getfield 61, 3) := by decide +kernel
theorem d_X6_keeps_12 : decode prog_8_method_43_code 12 = .ok (.iload_n 1, 1) := by decide +kernel
theorem d_X6_keeps_13 : decode prog_8_method_43_code 13 = .ok (.aload_n 0, 1) := by decide +kernel
theorem d_X6_keeps_14 : decode prog_8_method_43_code 14 = .ok (.getfield 16, 3) := by decide +kernel
theorem d_X6_keeps_17 : decode prog_8_method_43_code 17 = .ok (.iload_n 1, 1) := by decide +kernel
theorem d_X6_keeps_18 : decode prog_8_method_43_code 18 = .ok (.iaload, 1) := by decide +kernel
theorem d_X6_keeps_19 : decode prog_8_method_43_code 19 = .ok (.iastore, 1) := by decide +kernel
theorem d_X6_keeps_20 : decode prog_8_method_43_code 20 = .ok (.iinc 1 1, 3) := by decide +kernel
theorem d_X6_keeps_23 : decode prog_8_method_43_code 23 = .ok (.goto (-21), 3) := by decide +kernel
theorem d_X6_keeps_26 : decode prog_8_method_43_code 26 = .ok (.iconst 0, 1) := by decide +kernel
theorem d_X6_keeps_27 : decode prog_8_method_43_code 27 = .ok (.istore_n 1, 1) := by decide +kernel
theorem d_X6_keeps_28 : decode prog_8_method_43_code 28 = .ok (.iload_n 1, 1) := by decide +kernel
theorem d_X6_keeps_29 : decode prog_8_method_43_code 29 = .ok (.bipush 30, 2) := by decide +kernel
theorem d_X6_keeps_31 : decode prog_8_method_43_code 31 = .ok (.if_icmp .ge 24, 3) := by decide +kernel
theorem d_X6_keeps_34 : decode prog_8_method_43_code 34 = .ok (.aload_n 0, 1) := by decide +kernel
theorem d_X6_keeps_35 : decode prog_8_method_43_code 35 = .ok (.getfield 61, 3) := by decide +kernel
theorem d_X6_keeps_38 : decode prog_8_method_43_code 38 = .ok (.bipush 12, 2) := by decide +kernel
theorem d_X6_keeps_40 : decode prog_8_method_43_code 40 = .ok (.iload_n 1, 1) := by decide +kernel
theorem d_X6_keeps_41 : decode prog_8_method_43_code 41 = .ok (.iadd, 1) := by decide +kernel
theorem d_X6_keeps_42 : decode prog_8_method_43_code 42 = .ok (.aload_n 0, 1) := by decide +kernel
theorem d_X6_keeps_43 : decode prog_8_method_43_code 43 = .ok (.getfield 19, 3) := by decide +kernel
theorem d_X6_keeps_46 : decode prog_8_method_43_code 46 = .ok (.iload_n 1, 1) := by decide +kernel
theorem d_X6_keeps_47 : decode prog_8_method_43_code 47 = .ok (.iaload, 1) := by decide +kernel
theorem d_X6_keeps_48 : decode prog_8_method_43_code 48 = .ok (.iastore, 1) := by decide +kernel
theorem d_X6_keeps_49 : decode prog_8_method_43_code 49 = .ok (.iinc 1 1, 3) := by decide +kernel
theorem d_X6_keeps_52 : decode prog_8_method_43_code 52 = .ok (.goto (-24), 3) := by decide +kernel
theorem d_X6_keeps_55 : decode prog_8_method_43_code 55 = .ok (.aload_n 0, 1) := by decide +kernel
theorem d_X6_keeps_56 : decode prog_8_method_43_code 56 = .ok (.getfield 61, 3) := by decide +kernel
theorem d_X6_keeps_59 : decode prog_8_method_43_code 59 = .ok (.bipush 42, 2) := by decide +kernel
theorem d_X6_keeps_61 : decode prog_8_method_43_code 61 = .ok (.aload_n 0, 1) := by decide +kernel
theorem d_X6_keeps_62 : decode prog_8_method_43_code 62 = .ok (.getfield 93, 3) := by decide +kernel
theorem d_X6_keeps_65 : decode prog_8_method_43_code 65 = .ok (.iastore, 1) := by decide +kernel
theorem d_X6_keeps_66 : decode prog_8_method_43_code 66 = .ok (.return_, 1) := by decide +kernel
def lp_X6_keeps_2 (κ : it_KK)  (k2 : (it_SS → Option (Unit × it_SS))) : Nat → Int32 → it_SS → Option (Unit × it_SS)
  | 0, _, _ => none
  | n2 + 1, v1, S => if 12 ≤ v1 then
k2  S
else
if it_bd v1 12 = true then
if it_bd v1 43 = true then
lp_X6_keeps_2 κ  k2 n2 (v1 + 1) (it_up S 63 (v1 : Int32).toNatClampNeg (S 48 (v1 : Int32).toNatClampNeg))
else none
else none
def lp_X6_keeps_28 (κ : it_KK)  (k28 : (it_SS → Option (Unit × it_SS))) : Nat → Int32 → it_SS → Option (Unit × it_SS)
  | 0, _, _ => none
  | n28 + 1, v1, S => if 30 ≤ v1 then
k28  S
else
if it_bd v1 30 = true then
if it_bd (12 + v1) 43 = true then
lp_X6_keeps_28 κ  k28 n28 (v1 + 1) (it_up S 63 ((12 + v1) : Int32).toNatClampNeg (S 49 (v1 : Int32).toNatClampNeg))
else none
else none
def f_X6_keeps (κ : it_KK)  (S : it_SS) : Option (Unit × it_SS) :=
lp_X6_keeps_2 κ  (fun  S4 =>
lp_X6_keeps_28 κ  (fun  S8 =>
some ((), it_up S8 63 (42 : Int32).toNatClampNeg (S8 45 5))) it_FU 0 S4) it_FU 0 S
set_option maxHeartbeats 4000000 in
set_option maxRecDepth 100000 in
theorem Llp_X6_keeps_2 {g : it_G} {l : Launch} {κ : it_KK} (hm : it_wm κ) {P : Unit → it_SS → Prop} {k2 : (it_SS → Option (Unit × it_SS))} (hk2 : ∀  (S : it_SS), it_ok (k2  S) P → it_Ev g l 1 it_m_X6_keeps 0 0 26 [some (.ref 45), none] [] κ S (it_pv κ P)) : ∀ (n : Nat) (v1 : Int32) (S : it_SS), it_ok (lp_X6_keeps_2 κ  k2 n v1 S) P → it_Ev g l 1 it_m_X6_keeps 0 0 2 [some (.ref 45), some (.int v1)] [] κ S (it_pv κ P) := by
  intro n
  induction n with
  | zero =>
    intro _ _ h
    exact (it_ok_n h).elim
  | succ n2 ih2 =>
    intro v1 S h
    rw [lp_X6_keeps_2] at h
    refine ev_iload_n d_X6_keeps_2 rfl ?_
    refine ev_bipush d_X6_keeps_3 kv_bipush_12 ?_
    refine ev_icmp_ge (tgt := 26) d_X6_keeps_5 (by decide) (fun hc1 => ?_) (fun hc1 => ?_)
    · have h := it_ok_t h hc1
      refine ev_keep [true, false] ?_
      exact hk2  _ h
    · have h := it_ok_f h hc1
      refine ev_aload_n d_X6_keeps_8 rfl ?_
      refine ev_getRr (r := 63) rfl d_X6_keeps_9 fl_IcedTooSoonModel_61 hm.1 rfl ?_
      refine ev_iload_n d_X6_keeps_12 rfl ?_
      refine ev_aload_n d_X6_keeps_13 rfl ?_
      refine ev_getRr (r := 48) rfl d_X6_keeps_14 fl_IcedTooSoonModel_16 hm.1 rfl ?_
      refine ev_iload_n d_X6_keeps_17 rfl ?_
      obtain ⟨hb2, h⟩ := it_ok_g h
      refine ev_iald d_X6_keeps_18 (hm).2.2.2.1 (it_bd_in hb2) ?_
      obtain ⟨hb3, h⟩ := it_ok_g h
      refine ev_iast d_X6_keeps_19 (by decide) (hm).2.2.2.2.2.2.2.2.2.2.2.2.2.2.2.2.2.2.1 (it_bd_in hb3) ?_
      refine ev_iinc d_X6_keeps_20 kv_iconst_1 rfl (by decide) ?_
      show it_Ev g l 1 it_m_X6_keeps 0 0 23 [some (.ref 45), some (.int (v1 + 1))] [] κ (it_up S 63 (v1 : Int32).toNatClampNeg (S 48 (v1 : Int32).toNatClampNeg)) (it_pv κ P)
      refine ev_goto (tgt := 2) d_X6_keeps_23 (by decide) ?_
      refine ev_keep [true, true] ?_
      exact ih2 _ _ h
set_option maxHeartbeats 4000000 in
set_option maxRecDepth 100000 in
theorem Llp_X6_keeps_28 {g : it_G} {l : Launch} {κ : it_KK} (hm : it_wm κ) {P : Unit → it_SS → Prop} {k28 : (it_SS → Option (Unit × it_SS))} (hk28 : ∀  (S : it_SS), it_ok (k28  S) P → it_Ev g l 1 it_m_X6_keeps 0 0 55 [some (.ref 45), none] [] κ S (it_pv κ P)) : ∀ (n : Nat) (v1 : Int32) (S : it_SS), it_ok (lp_X6_keeps_28 κ  k28 n v1 S) P → it_Ev g l 1 it_m_X6_keeps 0 0 28 [some (.ref 45), some (.int v1)] [] κ S (it_pv κ P) := by
  intro n
  induction n with
  | zero =>
    intro _ _ h
    exact (it_ok_n h).elim
  | succ n28 ih28 =>
    intro v1 S h
    rw [lp_X6_keeps_28] at h
    refine ev_iload_n d_X6_keeps_28 rfl ?_
    refine ev_bipush d_X6_keeps_29 kv_bipush_30 ?_
    refine ev_icmp_ge (tgt := 55) d_X6_keeps_31 (by decide) (fun hc5 => ?_) (fun hc5 => ?_)
    · have h := it_ok_t h hc5
      refine ev_keep [true, false] ?_
      exact hk28  _ h
    · have h := it_ok_f h hc5
      refine ev_aload_n d_X6_keeps_34 rfl ?_
      refine ev_getRr (r := 63) rfl d_X6_keeps_35 fl_IcedTooSoonModel_61 hm.1 rfl ?_
      refine ev_bipush d_X6_keeps_38 kv_bipush_12 ?_
      refine ev_iload_n d_X6_keeps_40 rfl ?_
      refine ev_iadd d_X6_keeps_41 ?_
      refine ev_aload_n d_X6_keeps_42 rfl ?_
      refine ev_getRr (r := 49) rfl d_X6_keeps_43 fl_IcedTooSoonModel_19 hm.1 rfl ?_
      refine ev_iload_n d_X6_keeps_46 rfl ?_
      obtain ⟨hb6, h⟩ := it_ok_g h
      refine ev_iald d_X6_keeps_47 (hm).2.2.2.2.1 (it_bd_in hb6) ?_
      obtain ⟨hb7, h⟩ := it_ok_g h
      refine ev_iast d_X6_keeps_48 (by decide) (hm).2.2.2.2.2.2.2.2.2.2.2.2.2.2.2.2.2.2.1 (it_bd_in hb7) ?_
      refine ev_iinc d_X6_keeps_49 kv_iconst_1 rfl (by decide) ?_
      show it_Ev g l 1 it_m_X6_keeps 0 0 52 [some (.ref 45), some (.int (v1 + 1))] [] κ (it_up S 63 ((12 + v1) : Int32).toNatClampNeg (S 49 (v1 : Int32).toNatClampNeg)) (it_pv κ P)
      refine ev_goto (tgt := 28) d_X6_keeps_52 (by decide) ?_
      refine ev_keep [true, true] ?_
      exact ih28 _ _ h
set_option maxHeartbeats 4000000 in
set_option maxRecDepth 100000 in
theorem L_X6_keeps {g : it_G} {l : Launch} {κ : it_KK} (hm : it_wm κ) {S : it_SS} {P : Unit → it_SS → Prop} (h : it_ok (f_X6_keeps κ  S) P) : it_Cn g l 1 it_m_X6_keeps [.ref 45] κ S (it_pv κ P) := by
  refine it_Cn.of (by decide +kernel) (Nat.le_of_ble_eq_true rfl) ?_
  rw [f_X6_keeps] at h
  show it_Ev g l 1 it_m_X6_keeps 0 0 0 [some (.ref 45), none] [] κ S (it_pv κ P)
  refine ev_iconst d_X6_keeps_0 kv_iconst_0 ?_
  refine ev_istore_n d_X6_keeps_1 (by decide) ?_
  show it_Ev g l 1 it_m_X6_keeps 0 0 2 [some (.ref 45), some (.int 0)] [] κ S (it_pv κ P)
  refine ev_keep [true, true] ?_
  refine Llp_X6_keeps_2 hm (fun  S4 h => ?_) _ _ _ h
  show it_Ev g l 1 it_m_X6_keeps 0 0 26 [some (.ref 45), none] [] κ S4 (it_pv κ P)
  refine ev_iconst d_X6_keeps_26 kv_iconst_0 ?_
  refine ev_istore_n d_X6_keeps_27 (by decide) ?_
  show it_Ev g l 1 it_m_X6_keeps 0 0 28 [some (.ref 45), some (.int 0)] [] κ S4 (it_pv κ P)
  refine ev_keep [true, true] ?_
  refine Llp_X6_keeps_28 hm (fun  S8 h => ?_) _ _ _ h
  show it_Ev g l 1 it_m_X6_keeps 0 0 55 [some (.ref 45), none] [] κ S8 (it_pv κ P)
  refine ev_aload_n d_X6_keeps_55 rfl ?_
  refine ev_getRr (r := 63) rfl d_X6_keeps_56 fl_IcedTooSoonModel_61 hm.1 rfl ?_
  refine ev_bipush d_X6_keeps_59 kv_bipush_42 ?_
  refine ev_aload_n d_X6_keeps_61 rfl ?_
  refine ev_getI d_X6_keeps_62 fl_IcedTooSoonModel_93 hm.1 rfl ?_
  refine ev_iast d_X6_keeps_65 (by decide) (hm).2.2.2.2.2.2.2.2.2.2.2.2.2.2.2.2.2.2.1 (it_bd_in (by decide)) ?_
  exact ev_ret (v := none) ⟨d_X6_keeps_66, rfl⟩ (by decide) (by decide) ⟨rfl, rfl, it_ok_r h⟩
theorem d_X6_dayOf_0 : decode prog_8_method_39_code 0 = .ok (.iconst 0, 1) := by decide +kernel
theorem d_X6_dayOf_1 : decode prog_8_method_39_code 1 = .ok (.istore_n 1, 1) := by decide +kernel
theorem d_X6_dayOf_2 : decode prog_8_method_39_code 2 = .ok (.iconst 0, 1) := by decide +kernel
theorem d_X6_dayOf_3 : decode prog_8_method_39_code 3 = .ok (.istore_n 2, 1) := by decide +kernel
theorem d_X6_dayOf_4 : decode prog_8_method_39_code 4 = .ok (.iload_n 2, 1) := by decide +kernel
theorem d_X6_dayOf_5 : decode prog_8_method_39_code 5 = .ok (.bipush 10, 2) := by decide +kernel
theorem d_X6_dayOf_7 : decode prog_8_method_39_code 7 = .ok (.if_icmp .ge 118, 3) := by decide +kernel
theorem d_X6_dayOf_10 : decode prog_8_method_39_code 10 = .ok (.aload_n 0, 1) := by decide +kernel
theorem d_X6_dayOf_11 : decode prog_8_method_39_code 11 = .ok (.iload_n 2, 1) := by decide +kernel
theorem d_X6_dayOf_12 : decode prog_8_method_39_code 12 = .ok (.invokevirtual 86, 3) := by decide +kernel
theorem d_X6_dayOf_15 : decode prog_8_method_39_code 15 = .ok (.ifCond .eq 104, 3) := by decide +kernel
theorem d_X6_dayOf_18 : decode prog_8_method_39_code 18 = .ok (.aload_n 0, 1) := by decide +kernel
theorem d_X6_dayOf_19 : decode prog_8_method_39_code 19 = .ok (.getfield 19, 3) := by decide +kernel
theorem d_X6_dayOf_22 : decode prog_8_method_39_code 22 = .ok (.iconst 3, 1) := by decide +kernel
theorem d_X6_dayOf_23 : decode prog_8_method_39_code 23 = .ok (.iload_n 2, 1) := by decide +kernel
theorem d_X6_dayOf_24 : decode prog_8_method_39_code 24 = .ok (.imul, 1) := by decide +kernel
theorem d_X6_dayOf_25 : decode prog_8_method_39_code 25 = .ok (.iconst 2, 1) := by decide +kernel
theorem d_X6_dayOf_26 : decode prog_8_method_39_code 26 = .ok (.iadd, 1) := by decide +kernel
theorem d_X6_dayOf_27 : decode prog_8_method_39_code 27 = .ok (.iaload, 1) := by decide +kernel
theorem d_X6_dayOf_28 : decode prog_8_method_39_code 28 = .ok (.aload_n 0, 1) := by decide +kernel
theorem d_X6_dayOf_29 : decode prog_8_method_39_code 29 = .ok (.iload_n 2, 1) := by decide +kernel
theorem d_X6_dayOf_30 : decode prog_8_method_39_code 30 = .ok (.invokevirtual 185, 3) := by decide +kernel
theorem d_X6_dayOf_33 : decode prog_8_method_39_code 33 = .ok (.isub, 1) := by decide +kernel
theorem d_X6_dayOf_34 : decode prog_8_method_39_code 34 = .ok (.istore_n 3, 1) := by decide +kernel
theorem d_X6_dayOf_35 : decode prog_8_method_39_code 35 = .ok (.aload_n 0, 1) := by decide +kernel
theorem d_X6_dayOf_36 : decode prog_8_method_39_code 36 = .ok (.getfield 19, 3) := by decide +kernel
theorem d_X6_dayOf_39 : decode prog_8_method_39_code 39 = .ok (.iconst 3, 1) := by decide +kernel
theorem d_X6_dayOf_40 : decode prog_8_method_39_code 40 = .ok (.iload_n 2, 1) := by decide +kernel
theorem d_X6_dayOf_41 : decode prog_8_method_39_code 41 = .ok (.imul, 1) := by decide +kernel
theorem d_X6_dayOf_42 : decode prog_8_method_39_code 42 = .ok (.iconst 2, 1) := by decide +kernel
theorem d_X6_dayOf_43 : decode prog_8_method_39_code 43 = .ok (.iadd, 1) := by decide +kernel
theorem d_X6_dayOf_44 : decode prog_8_method_39_code 44 = .ok (.iload_n 3, 1) := by decide +kernel
theorem d_X6_dayOf_45 : decode prog_8_method_39_code 45 = .ok (.ifCond .ge 7, 3) := by decide +kernel
theorem d_X6_dayOf_48 : decode prog_8_method_39_code 48 = .ok (.iconst 0, 1) := by decide +kernel
theorem d_X6_dayOf_49 : decode prog_8_method_39_code 49 = .ok (.goto 4, 3) := by decide +kernel
theorem d_X6_dayOf_52 : decode prog_8_method_39_code 52 = .ok (.iload_n 3, 1) := by decide +kernel
theorem d_X6_dayOf_53 : decode prog_8_method_39_code 53 = .ok (.iastore, 1) := by decide +kernel
theorem d_X6_dayOf_54 : decode prog_8_method_39_code 54 = .ok (.iload_n 3, 1) := by decide +kernel
theorem d_X6_dayOf_55 : decode prog_8_method_39_code 55 = .ok (.ifCond .gt 64, 3) := by decide +kernel
theorem d_X6_dayOf_58 : decode prog_8_method_39_code 58 = .ok (.aload_n 0, 1) := by decide +kernel
theorem d_X6_dayOf_59 : decode prog_8_method_39_code 59 = .ok (.getfield 19, 3) := by decide +kernel
theorem d_X6_dayOf_62 : decode prog_8_method_39_code 62 = .ok (.iconst 3, 1) := by decide +kernel
theorem d_X6_dayOf_63 : decode prog_8_method_39_code 63 = .ok (.iload_n 2, 1) := by decide +kernel
theorem d_X6_dayOf_64 : decode prog_8_method_39_code 64 = .ok (.imul, 1) := by decide +kernel
theorem d_X6_dayOf_65 : decode prog_8_method_39_code 65 = .ok (.iaload, 1) := by decide +kernel
theorem d_X6_dayOf_66 : decode prog_8_method_39_code 66 = .ok (.iconst 0, 1) := by decide +kernel
theorem d_X6_dayOf_67 : decode prog_8_method_39_code 67 = .ok (.iconst 5, 1) := by decide +kernel
theorem d_X6_dayOf_68 : decode prog_8_method_39_code 68 = .ok (.invokestatic 82, 3) := by decide +kernel
theorem d_X6_dayOf_71 : decode prog_8_method_39_code 71 = .ok (.istore 4, 2) := by decide +kernel
theorem d_X6_dayOf_73 : decode prog_8_method_39_code 73 = .ok (.aload_n 0, 1) := by decide +kernel
theorem d_X6_dayOf_74 : decode prog_8_method_39_code 74 = .ok (.getfield 16, 3) := by decide +kernel
theorem d_X6_dayOf_77 : decode prog_8_method_39_code 77 = .ok (.iconst 2, 1) := by decide +kernel
theorem d_X6_dayOf_78 : decode prog_8_method_39_code 78 = .ok (.iload 4, 2) := by decide +kernel
theorem d_X6_dayOf_80 : decode prog_8_method_39_code 80 = .ok (.imul, 1) := by decide +kernel
theorem d_X6_dayOf_81 : decode prog_8_method_39_code 81 = .ok (.aload_n 0, 1) := by decide +kernel
theorem d_X6_dayOf_82 : decode prog_8_method_39_code 82 = .ok (.getfield 16, 3) := by decide +kernel
theorem d_X6_dayOf_85 : decode prog_8_method_39_code 85 = .ok (.iconst 2, 1) := by decide +kernel
theorem d_X6_dayOf_86 : decode prog_8_method_39_code 86 = .ok (.iload 4, 2) := by decide +kernel
theorem d_X6_dayOf_88 : decode prog_8_method_39_code 88 = .ok (.imul, 1) := by decide +kernel
theorem d_X6_dayOf_89 : decode prog_8_method_39_code 89 = .ok (.iaload, 1) := by decide +kernel
theorem d_X6_dayOf_90 : decode prog_8_method_39_code 90 = .ok (.aload_n 0, 1) := by decide +kernel
theorem d_X6_dayOf_91 : decode prog_8_method_39_code 91 = .ok (.iload_n 2, 1) := by decide +kernel
theorem d_X6_dayOf_92 : decode prog_8_method_39_code 92 = .ok (.invokevirtual 188, 3) := by decide +kernel
theorem d_X6_dayOf_95 : decode prog_8_method_39_code 95 = .ok (.iadd, 1) := by decide +kernel
theorem d_X6_dayOf_96 : decode prog_8_method_39_code 96 = .ok (.bipush (-99), 2) := by decide +kernel
theorem d_X6_dayOf_98 : decode prog_8_method_39_code 98 = .ok (.bipush 99, 2) := by decide +kernel
theorem d_X6_dayOf_100 : decode prog_8_method_39_code 100 = .ok (.invokestatic 82, 3) := by decide +kernel
theorem d_X6_dayOf_103 : decode prog_8_method_39_code 103 = .ok (.iastore, 1) := by decide +kernel
theorem d_X6_dayOf_104 : decode prog_8_method_39_code 104 = .ok (.aload_n 0, 1) := by decide +kernel
theorem d_X6_dayOf_105 : decode prog_8_method_39_code 105 = .ok (.getfield 19, 3) := by decide +kernel
theorem d_X6_dayOf_108 : decode prog_8_method_39_code 108 = .ok (.iconst 3, 1) := by decide +kernel
theorem d_X6_dayOf_109 : decode prog_8_method_39_code 109 = .ok (.iload_n 2, 1) := by decide +kernel
theorem d_X6_dayOf_110 : decode prog_8_method_39_code 110 = .ok (.imul, 1) := by decide +kernel
theorem d_X6_dayOf_111 : decode prog_8_method_39_code 111 = .ok (.iconst (-1), 1) := by decide +kernel
theorem d_X6_dayOf_112 : decode prog_8_method_39_code 112 = .ok (.iastore, 1) := by decide +kernel
theorem d_X6_dayOf_113 : decode prog_8_method_39_code 113 = .ok (.iload_n 1, 1) := by decide +kernel
theorem d_X6_dayOf_114 : decode prog_8_method_39_code 114 = .ok (.iconst 1, 1) := by decide +kernel
theorem d_X6_dayOf_115 : decode prog_8_method_39_code 115 = .ok (.iload_n 2, 1) := by decide +kernel
theorem d_X6_dayOf_116 : decode prog_8_method_39_code 116 = .ok (.ishl, 1) := by decide +kernel
theorem d_X6_dayOf_117 : decode prog_8_method_39_code 117 = .ok (.ior, 1) := by decide +kernel
theorem d_X6_dayOf_118 : decode prog_8_method_39_code 118 = .ok (.istore_n 1, 1) := by decide +kernel
theorem d_X6_dayOf_119 : decode prog_8_method_39_code 119 = .ok (.iinc 2 1, 3) := by decide +kernel
theorem d_X6_dayOf_122 : decode prog_8_method_39_code 122 = .ok (.goto (-118), 3) := by decide +kernel
theorem d_X6_dayOf_125 : decode prog_8_method_39_code 125 = .ok (.iconst 0, 1) := by decide +kernel
theorem d_X6_dayOf_126 : decode prog_8_method_39_code 126 = .ok (.istore_n 2, 1) := by decide +kernel
theorem d_X6_dayOf_127 : decode prog_8_method_39_code 127 = .ok (.iload_n 2, 1) := by decide +kernel
theorem d_X6_dayOf_128 : decode prog_8_method_39_code 128 = .ok (.aload_n 0, 1) := by decide +kernel
theorem d_X6_dayOf_129 : decode prog_8_method_39_code 129 = .ok (.getfield 75, 3) := by decide +kernel
theorem d_X6_dayOf_132 : decode prog_8_method_39_code 132 = .ok (.if_icmp .ge 37, 3) := by decide +kernel
theorem d_X6_dayOf_135 : decode prog_8_method_39_code 135 = .ok (.aload_n 0, 1) := by decide +kernel
theorem d_X6_dayOf_136 : decode prog_8_method_39_code 136 = .ok (.getfield 16, 3) := by decide +kernel
theorem d_X6_dayOf_139 : decode prog_8_method_39_code 139 = .ok (.iconst 2, 1) := by decide +kernel
theorem d_X6_dayOf_140 : decode prog_8_method_39_code 140 = .ok (.iload_n 2, 1) := by decide +kernel
theorem d_X6_dayOf_141 : decode prog_8_method_39_code 141 = .ok (.imul, 1) := by decide +kernel
theorem d_X6_dayOf_142 : decode prog_8_method_39_code 142 = .ok (.iconst 1, 1) := by decide +kernel
theorem d_X6_dayOf_143 : decode prog_8_method_39_code 143 = .ok (.iadd, 1) := by decide +kernel
theorem d_X6_dayOf_144 : decode prog_8_method_39_code 144 = .ok (.aload_n 0, 1) := by decide +kernel
theorem d_X6_dayOf_145 : decode prog_8_method_39_code 145 = .ok (.getfield 16, 3) := by decide +kernel
theorem d_X6_dayOf_148 : decode prog_8_method_39_code 148 = .ok (.iconst 2, 1) := by decide +kernel
theorem d_X6_dayOf_149 : decode prog_8_method_39_code 149 = .ok (.iload_n 2, 1) := by decide +kernel
theorem d_X6_dayOf_150 : decode prog_8_method_39_code 150 = .ok (.imul, 1) := by decide +kernel
theorem d_X6_dayOf_151 : decode prog_8_method_39_code 151 = .ok (.iconst 1, 1) := by decide +kernel
theorem d_X6_dayOf_152 : decode prog_8_method_39_code 152 = .ok (.iadd, 1) := by decide +kernel
theorem d_X6_dayOf_153 : decode prog_8_method_39_code 153 = .ok (.iaload, 1) := by decide +kernel
theorem d_X6_dayOf_154 : decode prog_8_method_39_code 154 = .ok (.iconst 2, 1) := by decide +kernel
theorem d_X6_dayOf_155 : decode prog_8_method_39_code 155 = .ok (.isub, 1) := by decide +kernel
theorem d_X6_dayOf_156 : decode prog_8_method_39_code 156 = .ok (.iconst 0, 1) := by decide +kernel
theorem d_X6_dayOf_157 : decode prog_8_method_39_code 157 = .ok (.bipush 99, 2) := by decide +kernel
theorem d_X6_dayOf_159 : decode prog_8_method_39_code 159 = .ok (.invokestatic 82, 3) := by decide +kernel
theorem d_X6_dayOf_162 : decode prog_8_method_39_code 162 = .ok (.iastore, 1) := by decide +kernel
theorem d_X6_dayOf_163 : decode prog_8_method_39_code 163 = .ok (.iinc 2 1, 3) := by decide +kernel
theorem d_X6_dayOf_166 : decode prog_8_method_39_code 166 = .ok (.goto (-39), 3) := by decide +kernel
theorem d_X6_dayOf_169 : decode prog_8_method_39_code 169 = .ok (.aload_n 0, 1) := by decide +kernel
theorem d_X6_dayOf_170 : decode prog_8_method_39_code 170 = .ok (.dup, 1) := by decide +kernel
theorem d_X6_dayOf_171 : decode prog_8_method_39_code 171 = .ok (.getfield 93, 3) := by decide +kernel
theorem d_X6_dayOf_174 : decode prog_8_method_39_code 174 = .ok (.iconst 1, 1) := by decide +kernel
theorem d_X6_dayOf_175 : decode prog_8_method_39_code 175 = .ok (.iadd, 1) := by decide +kernel
theorem d_X6_dayOf_176 : decode prog_8_method_39_code 176 = .ok (.putfield 93, 3) := by decide +kernel
theorem d_X6_dayOf_179 : decode prog_8_method_39_code 179 = .ok (.iload_n 1, 1) := by decide +kernel
theorem d_X6_dayOf_180 : decode prog_8_method_39_code 180 = .ok (.ireturn, 1) := by decide +kernel
def lp_X6_dayOf_4 (κ : it_KK)  (k4 : (Int32 → it_SS → Option (Int32 × it_SS))) : Nat → Int32 → Int32 → it_SS → Option (Int32 × it_SS)
  | 0, _, _, _ => none
  | n4 + 1, v1, v2, S => if 10 ≤ v2 then
k4 v1 S
else
it_bi (f_X6_isThere κ v2 S) (fun r3 S2 =>
if r3 = 0 then
lp_X6_dayOf_4 κ  k4 n4 v1 (v2 + 1) S2
else
if it_bd ((3 * v2) + 2) 30 = true then
it_bi (f_X6_meltsOf κ v2 S2) (fun r7 S6 =>
if 0 ≤ ((S2 49 (((3 * v2) + 2) : Int32).toNatClampNeg) - r7) then
if 0 < ((S2 49 (((3 * v2) + 2) : Int32).toNatClampNeg) - r7) then
lp_X6_dayOf_4 κ  k4 n4 v1 (v2 + 1) (it_up S6 49 (((3 * v2) + 2) : Int32).toNatClampNeg ((S2 49 (((3 * v2) + 2) : Int32).toNatClampNeg) - r7))
else
if it_bd (3 * v2) 30 = true then
it_bi (f_X6_within κ ((it_up S6 49 (((3 * v2) + 2) : Int32).toNatClampNeg ((S2 49 (((3 * v2) + 2) : Int32).toNatClampNeg) - r7)) 49 ((3 * v2) : Int32).toNatClampNeg) 0 5 (it_up S6 49 (((3 * v2) + 2) : Int32).toNatClampNeg ((S2 49 (((3 * v2) + 2) : Int32).toNatClampNeg) - r7))) (fun r12 S11 =>
if it_bd (2 * r12) 12 = true then
it_bi (f_X6_feelsOf κ v2 S11) (fun r15 S14 =>
it_bi (f_X6_within κ ((S11 48 ((2 * r12) : Int32).toNatClampNeg) + r15) (-99) 99 S14) (fun r17 S16 =>
lp_X6_dayOf_4 κ  k4 n4 (v1 ||| (1 <<< (v2 &&& 31))) (v2 + 1) (it_up (it_up S16 48 ((2 * r12) : Int32).toNatClampNeg r17) 49 ((3 * v2) : Int32).toNatClampNeg (-1))))
else none)
else none
else
if 0 < ((S2 49 (((3 * v2) + 2) : Int32).toNatClampNeg) - r7) then
lp_X6_dayOf_4 κ  k4 n4 v1 (v2 + 1) (it_up S6 49 (((3 * v2) + 2) : Int32).toNatClampNeg 0)
else
if it_bd (3 * v2) 30 = true then
it_bi (f_X6_within κ ((it_up S6 49 (((3 * v2) + 2) : Int32).toNatClampNeg 0) 49 ((3 * v2) : Int32).toNatClampNeg) 0 5 (it_up S6 49 (((3 * v2) + 2) : Int32).toNatClampNeg 0)) (fun r21 S20 =>
if it_bd (2 * r21) 12 = true then
it_bi (f_X6_feelsOf κ v2 S20) (fun r24 S23 =>
it_bi (f_X6_within κ ((S20 48 ((2 * r21) : Int32).toNatClampNeg) + r24) (-99) 99 S23) (fun r26 S25 =>
lp_X6_dayOf_4 κ  k4 n4 (v1 ||| (1 <<< (v2 &&& 31))) (v2 + 1) (it_up (it_up S25 48 ((2 * r21) : Int32).toNatClampNeg r26) 49 ((3 * v2) : Int32).toNatClampNeg (-1))))
else none)
else none)
else none)
def lp_X6_dayOf_127 (κ : it_KK)  (k127 : (Int32 → it_SS → Option (Int32 × it_SS))) : Nat → Int32 → Int32 → it_SS → Option (Int32 × it_SS)
  | 0, _, _, _ => none
  | n127 + 1, v1, v2, S => if (S 45 0) ≤ v2 then
k127 v1 S
else
if it_bd ((2 * v2) + 1) 12 = true then
it_bi (f_X6_within κ ((S 48 (((2 * v2) + 1) : Int32).toNatClampNeg) - 2) 0 99 S) (fun r32 S31 =>
lp_X6_dayOf_127 κ  k127 n127 v1 (v2 + 1) (it_up S31 48 (((2 * v2) + 1) : Int32).toNatClampNeg r32))
else none
def f_X6_dayOf (κ : it_KK)  (S : it_SS) : Option (Int32 × it_SS) :=
lp_X6_dayOf_4 κ  (fun v27 S28 =>
lp_X6_dayOf_127 κ  (fun v33 S34 =>
some (v33, it_up S34 45 5 ((S34 45 5) + 1))) it_FU v27 0 S28) it_FU 0 0 S
set_option maxHeartbeats 4000000 in
set_option maxRecDepth 100000 in
theorem Llp_X6_dayOf_4 {g : it_G} {l : Launch} {κ : it_KK} (hm : it_wm κ) {P : Int32 → it_SS → Prop} {k4 : (Int32 → it_SS → Option (Int32 × it_SS))} (hk4 : ∀ (v1 : Int32) (S : it_SS), it_ok (k4 v1 S) P → it_Ev g l 5 it_m_X6_dayOf 0 0 125 [some (.ref 45), some (.int v1), none, none, none] [] κ S (it_pi κ P)) : ∀ (n : Nat) (v1 : Int32) (v2 : Int32) (S : it_SS), it_ok (lp_X6_dayOf_4 κ  k4 n v1 v2 S) P → it_Ev g l 5 it_m_X6_dayOf 0 0 4 [some (.ref 45), some (.int v1), some (.int v2), none, none] [] κ S (it_pi κ P) := by
  intro n
  induction n with
  | zero =>
    intro _ _ _ h
    exact (it_ok_n h).elim
  | succ n4 ih4 =>
    intro v1 v2 S h
    rw [lp_X6_dayOf_4] at h
    refine ev_iload_n d_X6_dayOf_4 rfl ?_
    refine ev_bipush d_X6_dayOf_5 kv_bipush_10 ?_
    refine ev_icmp_ge (tgt := 125) d_X6_dayOf_7 (by decide) (fun hc1 => ?_) (fun hc1 => ?_)
    · have h := it_ok_t h hc1
      refine ev_keep [true, true, false, false, false] ?_
      exact hk4 _ _ h
    · have h := it_ok_f h hc1
      refine ev_aload_n d_X6_dayOf_10 rfl ?_
      refine ev_iload_n d_X6_dayOf_11 rfl ?_
      refine ev_callV (ci := 6) (b := 45) (M' := it_m_X6_isThere) (d' := 2) (As := [.int v2]) d_X6_dayOf_12 ml_IcedTooSoonModel_86 hm.1.1 hm.1.2.1 ⟨_, rfl, rfl⟩ rfl rfl (Nat.le_of_ble_eq_true rfl) (by decide) (by decide) (by decide) (L_X6_isThere hm (it_ok_b h)) (fun _ _ _ _ q => by cases q.1; rfl) ?_
      rintro _ _ S2 ⟨rfl, r3, rfl, h⟩
      show it_Ev g l 5 it_m_X6_dayOf 0 0 15 [some (.ref 45), some (.int v1), some (.int v2), none, none] [.int r3] κ S2 (it_pi κ P)
      refine ev_if_eq (tgt := 119) d_X6_dayOf_15 (by decide) (fun hc4 => ?_) (fun hc4 => ?_)
      · have h := it_ok_t h hc4
        refine ev_iinc d_X6_dayOf_119 kv_iconst_1 rfl (by decide) ?_
        show it_Ev g l 5 it_m_X6_dayOf 0 0 122 [some (.ref 45), some (.int v1), some (.int (v2 + 1)), none, none] [] κ S2 (it_pi κ P)
        refine ev_goto (tgt := 4) d_X6_dayOf_122 (by decide) ?_
        refine ev_keep [true, true, true, false, false] ?_
        exact ih4 _ _ _ h
      · have h := it_ok_f h hc4
        refine ev_aload_n d_X6_dayOf_18 rfl ?_
        refine ev_getRr (r := 49) rfl d_X6_dayOf_19 fl_IcedTooSoonModel_19 hm.1 rfl ?_
        refine ev_iconst d_X6_dayOf_22 kv_iconst_3 ?_
        refine ev_iload_n d_X6_dayOf_23 rfl ?_
        refine ev_imul d_X6_dayOf_24 ?_
        refine ev_iconst d_X6_dayOf_25 kv_iconst_2 ?_
        refine ev_iadd d_X6_dayOf_26 ?_
        obtain ⟨hb5, h⟩ := it_ok_g h
        refine ev_iald d_X6_dayOf_27 (hm).2.2.2.2.1 (it_bd_in hb5) ?_
        refine ev_aload_n d_X6_dayOf_28 rfl ?_
        refine ev_iload_n d_X6_dayOf_29 rfl ?_
        refine ev_callV (ci := 6) (b := 45) (M' := it_m_X6_meltsOf) (d' := 4) (As := [.int v2]) d_X6_dayOf_30 ml_IcedTooSoonModel_185 hm.1.1 hm.1.2.1 ⟨_, rfl, rfl⟩ rfl rfl (Nat.le_of_ble_eq_true rfl) (by decide) (by decide) (by decide) (L_X6_meltsOf hm (it_ok_b h)) (fun _ _ _ _ q => by cases q.1; rfl) ?_
        rintro _ _ S6 ⟨rfl, r7, rfl, h⟩
        show it_Ev g l 5 it_m_X6_dayOf 0 0 33 [some (.ref 45), some (.int v1), some (.int v2), none, none] [.int r7, .int (S2 49 (((3 * v2) + 2) : Int32).toNatClampNeg)] κ S6 (it_pi κ P)
        refine ev_isub d_X6_dayOf_33 ?_
        refine ev_istore_n d_X6_dayOf_34 (by decide) ?_
        show it_Ev g l 5 it_m_X6_dayOf 0 0 35 [some (.ref 45), some (.int v1), some (.int v2), some (.int ((S2 49 (((3 * v2) + 2) : Int32).toNatClampNeg) - r7)), none] [] κ S6 (it_pi κ P)
        refine ev_aload_n d_X6_dayOf_35 rfl ?_
        refine ev_getRr (r := 49) rfl d_X6_dayOf_36 fl_IcedTooSoonModel_19 hm.1 rfl ?_
        refine ev_iconst d_X6_dayOf_39 kv_iconst_3 ?_
        refine ev_iload_n d_X6_dayOf_40 rfl ?_
        refine ev_imul d_X6_dayOf_41 ?_
        refine ev_iconst d_X6_dayOf_42 kv_iconst_2 ?_
        refine ev_iadd d_X6_dayOf_43 ?_
        refine ev_iload_n d_X6_dayOf_44 rfl ?_
        refine ev_if_ge (tgt := 52) d_X6_dayOf_45 (by decide) (fun hc8 => ?_) (fun hc8 => ?_)
        · have h := it_ok_t h hc8
          refine ev_iload_n d_X6_dayOf_52 rfl ?_
          refine ev_iast d_X6_dayOf_53 (by decide) (hm).2.2.2.2.1 (it_bd_in hb5) ?_
          refine ev_iload_n d_X6_dayOf_54 rfl ?_
          refine ev_if_gt (tgt := 119) d_X6_dayOf_55 (by decide) (fun hc9 => ?_) (fun hc9 => ?_)
          · have h := it_ok_t h hc9
            refine ev_iinc d_X6_dayOf_119 kv_iconst_1 rfl (by decide) ?_
            show it_Ev g l 5 it_m_X6_dayOf 0 0 122 [some (.ref 45), some (.int v1), some (.int (v2 + 1)), some (.int ((S2 49 (((3 * v2) + 2) : Int32).toNatClampNeg) - r7)), none] [] κ (it_up S6 49 (((3 * v2) + 2) : Int32).toNatClampNeg ((S2 49 (((3 * v2) + 2) : Int32).toNatClampNeg) - r7)) (it_pi κ P)
            refine ev_goto (tgt := 4) d_X6_dayOf_122 (by decide) ?_
            refine ev_keep [true, true, true, false, false] ?_
            exact ih4 _ _ _ h
          · have h := it_ok_f h hc9
            refine ev_aload_n d_X6_dayOf_58 rfl ?_
            refine ev_getRr (r := 49) rfl d_X6_dayOf_59 fl_IcedTooSoonModel_19 hm.1 rfl ?_
            refine ev_iconst d_X6_dayOf_62 kv_iconst_3 ?_
            refine ev_iload_n d_X6_dayOf_63 rfl ?_
            refine ev_imul d_X6_dayOf_64 ?_
            obtain ⟨hb10, h⟩ := it_ok_g h
            refine ev_iald d_X6_dayOf_65 (hm).2.2.2.2.1 (it_bd_in hb10) ?_
            refine ev_iconst d_X6_dayOf_66 kv_iconst_0 ?_
            refine ev_iconst d_X6_dayOf_67 kv_iconst_5 ?_
            refine ev_callS (M' := it_m_X6_within) (d' := 1) (As := [.int ((it_up S6 49 (((3 * v2) + 2) : Int32).toNatClampNeg ((S2 49 (((3 * v2) + 2) : Int32).toNatClampNeg) - r7)) 49 ((3 * v2) : Int32).toNatClampNeg), .int 0, .int 5]) d_X6_dayOf_68 ml_IcedTooSoonModel_82 rfl rfl (Nat.le_of_ble_eq_true rfl) (by decide) (by decide) (by decide) (L_X6_within  (it_ok_b h)) (fun _ _ _ _ q => by cases q.1; rfl) ?_
            rintro _ _ S11 ⟨rfl, r12, rfl, h⟩
            show it_Ev g l 5 it_m_X6_dayOf 0 0 71 [some (.ref 45), some (.int v1), some (.int v2), some (.int ((S2 49 (((3 * v2) + 2) : Int32).toNatClampNeg) - r7)), none] [.int r12] κ S11 (it_pi κ P)
            refine ev_istore d_X6_dayOf_71 (by decide) ?_
            show it_Ev g l 5 it_m_X6_dayOf 0 0 73 [some (.ref 45), some (.int v1), some (.int v2), some (.int ((S2 49 (((3 * v2) + 2) : Int32).toNatClampNeg) - r7)), some (.int r12)] [] κ S11 (it_pi κ P)
            refine ev_aload_n d_X6_dayOf_73 rfl ?_
            refine ev_getRr (r := 48) rfl d_X6_dayOf_74 fl_IcedTooSoonModel_16 hm.1 rfl ?_
            refine ev_iconst d_X6_dayOf_77 kv_iconst_2 ?_
            refine ev_iload d_X6_dayOf_78 rfl ?_
            refine ev_imul d_X6_dayOf_80 ?_
            refine ev_aload_n d_X6_dayOf_81 rfl ?_
            refine ev_getRr (r := 48) rfl d_X6_dayOf_82 fl_IcedTooSoonModel_16 hm.1 rfl ?_
            refine ev_iconst d_X6_dayOf_85 kv_iconst_2 ?_
            refine ev_iload d_X6_dayOf_86 rfl ?_
            refine ev_imul d_X6_dayOf_88 ?_
            obtain ⟨hb13, h⟩ := it_ok_g h
            refine ev_iald d_X6_dayOf_89 (hm).2.2.2.1 (it_bd_in hb13) ?_
            refine ev_aload_n d_X6_dayOf_90 rfl ?_
            refine ev_iload_n d_X6_dayOf_91 rfl ?_
            refine ev_callV (ci := 6) (b := 45) (M' := it_m_X6_feelsOf) (d' := 4) (As := [.int v2]) d_X6_dayOf_92 ml_IcedTooSoonModel_188 hm.1.1 hm.1.2.1 ⟨_, rfl, rfl⟩ rfl rfl (Nat.le_of_ble_eq_true rfl) (by decide) (by decide) (by decide) (L_X6_feelsOf hm (it_ok_b h)) (fun _ _ _ _ q => by cases q.1; rfl) ?_
            rintro _ _ S14 ⟨rfl, r15, rfl, h⟩
            show it_Ev g l 5 it_m_X6_dayOf 0 0 95 [some (.ref 45), some (.int v1), some (.int v2), some (.int ((S2 49 (((3 * v2) + 2) : Int32).toNatClampNeg) - r7)), some (.int r12)] [.int r15, .int (S11 48 ((2 * r12) : Int32).toNatClampNeg), .int (2 * r12), .ref 48] κ S14 (it_pi κ P)
            refine ev_iadd d_X6_dayOf_95 ?_
            refine ev_bipush d_X6_dayOf_96 kv_bipush_m99 ?_
            refine ev_bipush d_X6_dayOf_98 kv_bipush_99 ?_
            refine ev_callS (M' := it_m_X6_within) (d' := 1) (As := [.int ((S11 48 ((2 * r12) : Int32).toNatClampNeg) + r15), .int (-99), .int 99]) d_X6_dayOf_100 ml_IcedTooSoonModel_82 rfl rfl (Nat.le_of_ble_eq_true rfl) (by decide) (by decide) (by decide) (L_X6_within  (it_ok_b h)) (fun _ _ _ _ q => by cases q.1; rfl) ?_
            rintro _ _ S16 ⟨rfl, r17, rfl, h⟩
            show it_Ev g l 5 it_m_X6_dayOf 0 0 103 [some (.ref 45), some (.int v1), some (.int v2), some (.int ((S2 49 (((3 * v2) + 2) : Int32).toNatClampNeg) - r7)), some (.int r12)] [.int r17, .int (2 * r12), .ref 48] κ S16 (it_pi κ P)
            refine ev_iast d_X6_dayOf_103 (by decide) (hm).2.2.2.1 (it_bd_in hb13) ?_
            refine ev_aload_n d_X6_dayOf_104 rfl ?_
            refine ev_getRr (r := 49) rfl d_X6_dayOf_105 fl_IcedTooSoonModel_19 hm.1 rfl ?_
            refine ev_iconst d_X6_dayOf_108 kv_iconst_3 ?_
            refine ev_iload_n d_X6_dayOf_109 rfl ?_
            refine ev_imul d_X6_dayOf_110 ?_
            refine ev_iconst d_X6_dayOf_111 kv_iconst_m1 ?_
            refine ev_iast d_X6_dayOf_112 (by decide) (hm).2.2.2.2.1 (it_bd_in hb10) ?_
            refine ev_iload_n d_X6_dayOf_113 rfl ?_
            refine ev_iconst d_X6_dayOf_114 kv_iconst_1 ?_
            refine ev_iload_n d_X6_dayOf_115 rfl ?_
            refine ev_ishl d_X6_dayOf_116 ?_
            refine ev_ior d_X6_dayOf_117 ?_
            refine ev_istore_n d_X6_dayOf_118 (by decide) ?_
            show it_Ev g l 5 it_m_X6_dayOf 0 0 119 [some (.ref 45), some (.int (v1 ||| (1 <<< (v2 &&& 31)))), some (.int v2), some (.int ((S2 49 (((3 * v2) + 2) : Int32).toNatClampNeg) - r7)), some (.int r12)] [] κ (it_up (it_up S16 48 ((2 * r12) : Int32).toNatClampNeg r17) 49 ((3 * v2) : Int32).toNatClampNeg (-1)) (it_pi κ P)
            refine ev_iinc d_X6_dayOf_119 kv_iconst_1 rfl (by decide) ?_
            show it_Ev g l 5 it_m_X6_dayOf 0 0 122 [some (.ref 45), some (.int (v1 ||| (1 <<< (v2 &&& 31)))), some (.int (v2 + 1)), some (.int ((S2 49 (((3 * v2) + 2) : Int32).toNatClampNeg) - r7)), some (.int r12)] [] κ (it_up (it_up S16 48 ((2 * r12) : Int32).toNatClampNeg r17) 49 ((3 * v2) : Int32).toNatClampNeg (-1)) (it_pi κ P)
            refine ev_goto (tgt := 4) d_X6_dayOf_122 (by decide) ?_
            refine ev_keep [true, true, true, false, false] ?_
            exact ih4 _ _ _ h
        · have h := it_ok_f h hc8
          refine ev_iconst d_X6_dayOf_48 kv_iconst_0 ?_
          refine ev_goto (tgt := 53) d_X6_dayOf_49 (by decide) ?_
          refine ev_iast d_X6_dayOf_53 (by decide) (hm).2.2.2.2.1 (it_bd_in hb5) ?_
          refine ev_iload_n d_X6_dayOf_54 rfl ?_
          refine ev_if_gt (tgt := 119) d_X6_dayOf_55 (by decide) (fun hc18 => ?_) (fun hc18 => ?_)
          · have h := it_ok_t h hc18
            refine ev_iinc d_X6_dayOf_119 kv_iconst_1 rfl (by decide) ?_
            show it_Ev g l 5 it_m_X6_dayOf 0 0 122 [some (.ref 45), some (.int v1), some (.int (v2 + 1)), some (.int ((S2 49 (((3 * v2) + 2) : Int32).toNatClampNeg) - r7)), none] [] κ (it_up S6 49 (((3 * v2) + 2) : Int32).toNatClampNeg 0) (it_pi κ P)
            refine ev_goto (tgt := 4) d_X6_dayOf_122 (by decide) ?_
            refine ev_keep [true, true, true, false, false] ?_
            exact ih4 _ _ _ h
          · have h := it_ok_f h hc18
            refine ev_aload_n d_X6_dayOf_58 rfl ?_
            refine ev_getRr (r := 49) rfl d_X6_dayOf_59 fl_IcedTooSoonModel_19 hm.1 rfl ?_
            refine ev_iconst d_X6_dayOf_62 kv_iconst_3 ?_
            refine ev_iload_n d_X6_dayOf_63 rfl ?_
            refine ev_imul d_X6_dayOf_64 ?_
            obtain ⟨hb19, h⟩ := it_ok_g h
            refine ev_iald d_X6_dayOf_65 (hm).2.2.2.2.1 (it_bd_in hb19) ?_
            refine ev_iconst d_X6_dayOf_66 kv_iconst_0 ?_
            refine ev_iconst d_X6_dayOf_67 kv_iconst_5 ?_
            refine ev_callS (M' := it_m_X6_within) (d' := 1) (As := [.int ((it_up S6 49 (((3 * v2) + 2) : Int32).toNatClampNeg 0) 49 ((3 * v2) : Int32).toNatClampNeg), .int 0, .int 5]) d_X6_dayOf_68 ml_IcedTooSoonModel_82 rfl rfl (Nat.le_of_ble_eq_true rfl) (by decide) (by decide) (by decide) (L_X6_within  (it_ok_b h)) (fun _ _ _ _ q => by cases q.1; rfl) ?_
            rintro _ _ S20 ⟨rfl, r21, rfl, h⟩
            show it_Ev g l 5 it_m_X6_dayOf 0 0 71 [some (.ref 45), some (.int v1), some (.int v2), some (.int ((S2 49 (((3 * v2) + 2) : Int32).toNatClampNeg) - r7)), none] [.int r21] κ S20 (it_pi κ P)
            refine ev_istore d_X6_dayOf_71 (by decide) ?_
            show it_Ev g l 5 it_m_X6_dayOf 0 0 73 [some (.ref 45), some (.int v1), some (.int v2), some (.int ((S2 49 (((3 * v2) + 2) : Int32).toNatClampNeg) - r7)), some (.int r21)] [] κ S20 (it_pi κ P)
            refine ev_aload_n d_X6_dayOf_73 rfl ?_
            refine ev_getRr (r := 48) rfl d_X6_dayOf_74 fl_IcedTooSoonModel_16 hm.1 rfl ?_
            refine ev_iconst d_X6_dayOf_77 kv_iconst_2 ?_
            refine ev_iload d_X6_dayOf_78 rfl ?_
            refine ev_imul d_X6_dayOf_80 ?_
            refine ev_aload_n d_X6_dayOf_81 rfl ?_
            refine ev_getRr (r := 48) rfl d_X6_dayOf_82 fl_IcedTooSoonModel_16 hm.1 rfl ?_
            refine ev_iconst d_X6_dayOf_85 kv_iconst_2 ?_
            refine ev_iload d_X6_dayOf_86 rfl ?_
            refine ev_imul d_X6_dayOf_88 ?_
            obtain ⟨hb22, h⟩ := it_ok_g h
            refine ev_iald d_X6_dayOf_89 (hm).2.2.2.1 (it_bd_in hb22) ?_
            refine ev_aload_n d_X6_dayOf_90 rfl ?_
            refine ev_iload_n d_X6_dayOf_91 rfl ?_
            refine ev_callV (ci := 6) (b := 45) (M' := it_m_X6_feelsOf) (d' := 4) (As := [.int v2]) d_X6_dayOf_92 ml_IcedTooSoonModel_188 hm.1.1 hm.1.2.1 ⟨_, rfl, rfl⟩ rfl rfl (Nat.le_of_ble_eq_true rfl) (by decide) (by decide) (by decide) (L_X6_feelsOf hm (it_ok_b h)) (fun _ _ _ _ q => by cases q.1; rfl) ?_
            rintro _ _ S23 ⟨rfl, r24, rfl, h⟩
            show it_Ev g l 5 it_m_X6_dayOf 0 0 95 [some (.ref 45), some (.int v1), some (.int v2), some (.int ((S2 49 (((3 * v2) + 2) : Int32).toNatClampNeg) - r7)), some (.int r21)] [.int r24, .int (S20 48 ((2 * r21) : Int32).toNatClampNeg), .int (2 * r21), .ref 48] κ S23 (it_pi κ P)
            refine ev_iadd d_X6_dayOf_95 ?_
            refine ev_bipush d_X6_dayOf_96 kv_bipush_m99 ?_
            refine ev_bipush d_X6_dayOf_98 kv_bipush_99 ?_
            refine ev_callS (M' := it_m_X6_within) (d' := 1) (As := [.int ((S20 48 ((2 * r21) : Int32).toNatClampNeg) + r24), .int (-99), .int 99]) d_X6_dayOf_100 ml_IcedTooSoonModel_82 rfl rfl (Nat.le_of_ble_eq_true rfl) (by decide) (by decide) (by decide) (L_X6_within  (it_ok_b h)) (fun _ _ _ _ q => by cases q.1; rfl) ?_
            rintro _ _ S25 ⟨rfl, r26, rfl, h⟩
            show it_Ev g l 5 it_m_X6_dayOf 0 0 103 [some (.ref 45), some (.int v1), some (.int v2), some (.int ((S2 49 (((3 * v2) + 2) : Int32).toNatClampNeg) - r7)), some (.int r21)] [.int r26, .int (2 * r21), .ref 48] κ S25 (it_pi κ P)
            refine ev_iast d_X6_dayOf_103 (by decide) (hm).2.2.2.1 (it_bd_in hb22) ?_
            refine ev_aload_n d_X6_dayOf_104 rfl ?_
            refine ev_getRr (r := 49) rfl d_X6_dayOf_105 fl_IcedTooSoonModel_19 hm.1 rfl ?_
            refine ev_iconst d_X6_dayOf_108 kv_iconst_3 ?_
            refine ev_iload_n d_X6_dayOf_109 rfl ?_
            refine ev_imul d_X6_dayOf_110 ?_
            refine ev_iconst d_X6_dayOf_111 kv_iconst_m1 ?_
            refine ev_iast d_X6_dayOf_112 (by decide) (hm).2.2.2.2.1 (it_bd_in hb19) ?_
            refine ev_iload_n d_X6_dayOf_113 rfl ?_
            refine ev_iconst d_X6_dayOf_114 kv_iconst_1 ?_
            refine ev_iload_n d_X6_dayOf_115 rfl ?_
            refine ev_ishl d_X6_dayOf_116 ?_
            refine ev_ior d_X6_dayOf_117 ?_
            refine ev_istore_n d_X6_dayOf_118 (by decide) ?_
            show it_Ev g l 5 it_m_X6_dayOf 0 0 119 [some (.ref 45), some (.int (v1 ||| (1 <<< (v2 &&& 31)))), some (.int v2), some (.int ((S2 49 (((3 * v2) + 2) : Int32).toNatClampNeg) - r7)), some (.int r21)] [] κ (it_up (it_up S25 48 ((2 * r21) : Int32).toNatClampNeg r26) 49 ((3 * v2) : Int32).toNatClampNeg (-1)) (it_pi κ P)
            refine ev_iinc d_X6_dayOf_119 kv_iconst_1 rfl (by decide) ?_
            show it_Ev g l 5 it_m_X6_dayOf 0 0 122 [some (.ref 45), some (.int (v1 ||| (1 <<< (v2 &&& 31)))), some (.int (v2 + 1)), some (.int ((S2 49 (((3 * v2) + 2) : Int32).toNatClampNeg) - r7)), some (.int r21)] [] κ (it_up (it_up S25 48 ((2 * r21) : Int32).toNatClampNeg r26) 49 ((3 * v2) : Int32).toNatClampNeg (-1)) (it_pi κ P)
            refine ev_goto (tgt := 4) d_X6_dayOf_122 (by decide) ?_
            refine ev_keep [true, true, true, false, false] ?_
            exact ih4 _ _ _ h
set_option maxHeartbeats 4000000 in
set_option maxRecDepth 100000 in
theorem Llp_X6_dayOf_127 {g : it_G} {l : Launch} {κ : it_KK} (hm : it_wm κ) {P : Int32 → it_SS → Prop} {k127 : (Int32 → it_SS → Option (Int32 × it_SS))} (hk127 : ∀ (v1 : Int32) (S : it_SS), it_ok (k127 v1 S) P → it_Ev g l 5 it_m_X6_dayOf 0 0 169 [some (.ref 45), some (.int v1), none, none, none] [] κ S (it_pi κ P)) : ∀ (n : Nat) (v1 : Int32) (v2 : Int32) (S : it_SS), it_ok (lp_X6_dayOf_127 κ  k127 n v1 v2 S) P → it_Ev g l 5 it_m_X6_dayOf 0 0 127 [some (.ref 45), some (.int v1), some (.int v2), none, none] [] κ S (it_pi κ P) := by
  intro n
  induction n with
  | zero =>
    intro _ _ _ h
    exact (it_ok_n h).elim
  | succ n127 ih127 =>
    intro v1 v2 S h
    rw [lp_X6_dayOf_127] at h
    refine ev_iload_n d_X6_dayOf_127 rfl ?_
    refine ev_aload_n d_X6_dayOf_128 rfl ?_
    refine ev_getI d_X6_dayOf_129 fl_IcedTooSoonModel_75 hm.1 rfl ?_
    refine ev_icmp_ge (tgt := 169) d_X6_dayOf_132 (by decide) (fun hc29 => ?_) (fun hc29 => ?_)
    · have h := it_ok_t h hc29
      refine ev_keep [true, true, false, false, false] ?_
      exact hk127 _ _ h
    · have h := it_ok_f h hc29
      refine ev_aload_n d_X6_dayOf_135 rfl ?_
      refine ev_getRr (r := 48) rfl d_X6_dayOf_136 fl_IcedTooSoonModel_16 hm.1 rfl ?_
      refine ev_iconst d_X6_dayOf_139 kv_iconst_2 ?_
      refine ev_iload_n d_X6_dayOf_140 rfl ?_
      refine ev_imul d_X6_dayOf_141 ?_
      refine ev_iconst d_X6_dayOf_142 kv_iconst_1 ?_
      refine ev_iadd d_X6_dayOf_143 ?_
      refine ev_aload_n d_X6_dayOf_144 rfl ?_
      refine ev_getRr (r := 48) rfl d_X6_dayOf_145 fl_IcedTooSoonModel_16 hm.1 rfl ?_
      refine ev_iconst d_X6_dayOf_148 kv_iconst_2 ?_
      refine ev_iload_n d_X6_dayOf_149 rfl ?_
      refine ev_imul d_X6_dayOf_150 ?_
      refine ev_iconst d_X6_dayOf_151 kv_iconst_1 ?_
      refine ev_iadd d_X6_dayOf_152 ?_
      obtain ⟨hb30, h⟩ := it_ok_g h
      refine ev_iald d_X6_dayOf_153 (hm).2.2.2.1 (it_bd_in hb30) ?_
      refine ev_iconst d_X6_dayOf_154 kv_iconst_2 ?_
      refine ev_isub d_X6_dayOf_155 ?_
      refine ev_iconst d_X6_dayOf_156 kv_iconst_0 ?_
      refine ev_bipush d_X6_dayOf_157 kv_bipush_99 ?_
      refine ev_callS (M' := it_m_X6_within) (d' := 1) (As := [.int ((S 48 (((2 * v2) + 1) : Int32).toNatClampNeg) - 2), .int 0, .int 99]) d_X6_dayOf_159 ml_IcedTooSoonModel_82 rfl rfl (Nat.le_of_ble_eq_true rfl) (by decide) (by decide) (by decide) (L_X6_within  (it_ok_b h)) (fun _ _ _ _ q => by cases q.1; rfl) ?_
      rintro _ _ S31 ⟨rfl, r32, rfl, h⟩
      show it_Ev g l 5 it_m_X6_dayOf 0 0 162 [some (.ref 45), some (.int v1), some (.int v2), none, none] [.int r32, .int ((2 * v2) + 1), .ref 48] κ S31 (it_pi κ P)
      refine ev_iast d_X6_dayOf_162 (by decide) (hm).2.2.2.1 (it_bd_in hb30) ?_
      refine ev_iinc d_X6_dayOf_163 kv_iconst_1 rfl (by decide) ?_
      show it_Ev g l 5 it_m_X6_dayOf 0 0 166 [some (.ref 45), some (.int v1), some (.int (v2 + 1)), none, none] [] κ (it_up S31 48 (((2 * v2) + 1) : Int32).toNatClampNeg r32) (it_pi κ P)
      refine ev_goto (tgt := 127) d_X6_dayOf_166 (by decide) ?_
      refine ev_keep [true, true, true, false, false] ?_
      exact ih127 _ _ _ h
set_option maxHeartbeats 4000000 in
set_option maxRecDepth 100000 in
theorem L_X6_dayOf {g : it_G} {l : Launch} {κ : it_KK} (hm : it_wm κ) {S : it_SS} {P : Int32 → it_SS → Prop} (h : it_ok (f_X6_dayOf κ  S) P) : it_Cn g l 5 it_m_X6_dayOf [.ref 45] κ S (it_pi κ P) := by
  refine it_Cn.of (by decide +kernel) (Nat.le_of_ble_eq_true rfl) ?_
  rw [f_X6_dayOf] at h
  show it_Ev g l 5 it_m_X6_dayOf 0 0 0 [some (.ref 45), none, none, none, none] [] κ S (it_pi κ P)
  refine ev_iconst d_X6_dayOf_0 kv_iconst_0 ?_
  refine ev_istore_n d_X6_dayOf_1 (by decide) ?_
  show it_Ev g l 5 it_m_X6_dayOf 0 0 2 [some (.ref 45), some (.int 0), none, none, none] [] κ S (it_pi κ P)
  refine ev_iconst d_X6_dayOf_2 kv_iconst_0 ?_
  refine ev_istore_n d_X6_dayOf_3 (by decide) ?_
  show it_Ev g l 5 it_m_X6_dayOf 0 0 4 [some (.ref 45), some (.int 0), some (.int 0), none, none] [] κ S (it_pi κ P)
  refine ev_keep [true, true, true, false, false] ?_
  refine Llp_X6_dayOf_4 hm (fun v27 S28 h => ?_) _ _ _ _ h
  show it_Ev g l 5 it_m_X6_dayOf 0 0 125 [some (.ref 45), some (.int v27), none, none, none] [] κ S28 (it_pi κ P)
  refine ev_iconst d_X6_dayOf_125 kv_iconst_0 ?_
  refine ev_istore_n d_X6_dayOf_126 (by decide) ?_
  show it_Ev g l 5 it_m_X6_dayOf 0 0 127 [some (.ref 45), some (.int v27), some (.int 0), none, none] [] κ S28 (it_pi κ P)
  refine ev_keep [true, true, true, false, false] ?_
  refine Llp_X6_dayOf_127 hm (fun v33 S34 h => ?_) _ _ _ _ h
  show it_Ev g l 5 it_m_X6_dayOf 0 0 169 [some (.ref 45), some (.int v33), none, none, none] [] κ S34 (it_pi κ P)
  refine ev_aload_n d_X6_dayOf_169 rfl ?_
  refine ev_dup d_X6_dayOf_170 rfl ?_
  refine ev_getI d_X6_dayOf_171 fl_IcedTooSoonModel_93 hm.1 rfl ?_
  refine ev_iconst d_X6_dayOf_174 kv_iconst_1 ?_
  refine ev_iadd d_X6_dayOf_175 ?_
  refine ev_putI d_X6_dayOf_176 (by decide) fl_IcedTooSoonModel_93 fw_6_5 hm.1 rfl ?_
  refine ev_iload_n d_X6_dayOf_179 rfl ?_
  exact ev_ret (v := some (.int _)) ⟨d_X6_dayOf_180, _, rfl, rfl⟩ (by decide) (by decide) ⟨rfl, _, rfl, it_ok_r h⟩
theorem d_X6_lays_0 : decode prog_8_method_44_code 0 = .ok (.iconst 0, 1) := by decide +kernel
theorem d_X6_lays_1 : decode prog_8_method_44_code 1 = .ok (.istore_n 1, 1) := by decide +kernel
theorem d_X6_lays_2 : decode prog_8_method_44_code 2 = .ok (.iload_n 1, 1) := by decide +kernel
theorem d_X6_lays_3 : decode prog_8_method_44_code 3 = .ok (.bipush 12, 2) := by decide +kernel
theorem d_X6_lays_5 : decode prog_8_method_44_code 5 = .ok (.if_icmp .ge 21, 3) := by decide +kernel
theorem d_X6_lays_8 : decode prog_8_method_44_code 8 = .ok (.aload_n 0, 1) := by decide +kernel
theorem d_X6_lays_9 : decode prog_8_method_44_code 9 = .ok (.getfield 16, 3) := by decide +kernel
theorem d_X6_lays_12 : decode prog_8_method_44_code 12 = .ok (.iload_n 1, 1) := by decide +kernel
theorem d_X6_lays_13 : decode prog_8_method_44_code 13 = .ok (.aload_n 0, 1) := by decide +kernel
theorem d_X6_lays_14 : decode prog_8_method_44_code 14 = .ok (.getfield 61, 3) := by decide +kernel
theorem d_X6_lays_17 : decode prog_8_method_44_code 17 = .ok (.iload_n 1, 1) := by decide +kernel
theorem d_X6_lays_18 : decode prog_8_method_44_code 18 = .ok (.iaload, 1) := by decide +kernel
theorem d_X6_lays_19 : decode prog_8_method_44_code 19 = .ok (.iastore, 1) := by decide +kernel
theorem d_X6_lays_20 : decode prog_8_method_44_code 20 = .ok (.iinc 1 1, 3) := by decide +kernel
theorem d_X6_lays_23 : decode prog_8_method_44_code 23 = .ok (.goto (-21), 3) := by decide +kernel
theorem d_X6_lays_26 : decode prog_8_method_44_code 26 = .ok (.iconst 0, 1) := by decide +kernel
theorem d_X6_lays_27 : decode prog_8_method_44_code 27 = .ok (.istore_n 1, 1) := by decide +kernel
theorem d_X6_lays_28 : decode prog_8_method_44_code 28 = .ok (.iload_n 1, 1) := by decide +kernel
theorem d_X6_lays_29 : decode prog_8_method_44_code 29 = .ok (.bipush 30, 2) := by decide +kernel
theorem d_X6_lays_31 : decode prog_8_method_44_code 31 = .ok (.if_icmp .ge 24, 3) := by decide +kernel
theorem d_X6_lays_34 : decode prog_8_method_44_code 34 = .ok (.aload_n 0, 1) := by decide +kernel
theorem d_X6_lays_35 : decode prog_8_method_44_code 35 = .ok (.getfield 19, 3) := by decide +kernel
theorem d_X6_lays_38 : decode prog_8_method_44_code 38 = .ok (.iload_n 1, 1) := by decide +kernel
theorem d_X6_lays_39 : decode prog_8_method_44_code 39 = .ok (.aload_n 0, 1) := by decide +kernel
theorem d_X6_lays_40 : decode prog_8_method_44_code 40 = .ok (.getfield 61, 3) := by decide +kernel
theorem d_X6_lays_43 : decode prog_8_method_44_code 43 = .ok (.bipush 12, 2) := by decide +kernel
theorem d_X6_lays_45 : decode prog_8_method_44_code 45 = .ok (.iload_n 1, 1) := by decide +kernel
theorem d_X6_lays_46 : decode prog_8_method_44_code 46 = .ok (.iadd, 1) := by decide +kernel
theorem d_X6_lays_47 : decode prog_8_method_44_code 47 = .ok (.iaload, 1) := by decide +kernel
theorem d_X6_lays_48 : decode prog_8_method_44_code 48 = .ok (.iastore, 1) := by decide +kernel
theorem d_X6_lays_49 : decode prog_8_method_44_code 49 = .ok (.iinc 1 1, 3) := by decide +kernel
theorem d_X6_lays_52 : decode prog_8_method_44_code 52 = .ok (.goto (-24), 3) := by decide +kernel
theorem d_X6_lays_55 : decode prog_8_method_44_code 55 = .ok (.aload_n 0, 1) := by decide +kernel
theorem d_X6_lays_56 : decode prog_8_method_44_code 56 = .ok (.aload_n 0, 1) := by decide +kernel
theorem d_X6_lays_57 : decode prog_8_method_44_code 57 = .ok (.getfield 61, 3) := by decide +kernel
theorem d_X6_lays_60 : decode prog_8_method_44_code 60 = .ok (.bipush 42, 2) := by decide +kernel
theorem d_X6_lays_62 : decode prog_8_method_44_code 62 = .ok (.iaload, 1) := by decide +kernel
theorem d_X6_lays_63 : decode prog_8_method_44_code 63 = .ok (.putfield 93, 3) := by decide +kernel
theorem d_X6_lays_66 : decode prog_8_method_44_code 66 = .ok (.return_, 1) := by decide +kernel
def lp_X6_lays_2 (κ : it_KK)  (k2 : (it_SS → Option (Unit × it_SS))) : Nat → Int32 → it_SS → Option (Unit × it_SS)
  | 0, _, _ => none
  | n2 + 1, v1, S => if 12 ≤ v1 then
k2  S
else
if it_bd v1 43 = true then
if it_bd v1 12 = true then
lp_X6_lays_2 κ  k2 n2 (v1 + 1) (it_up S 48 (v1 : Int32).toNatClampNeg (S 63 (v1 : Int32).toNatClampNeg))
else none
else none
def lp_X6_lays_28 (κ : it_KK)  (k28 : (it_SS → Option (Unit × it_SS))) : Nat → Int32 → it_SS → Option (Unit × it_SS)
  | 0, _, _ => none
  | n28 + 1, v1, S => if 30 ≤ v1 then
k28  S
else
if it_bd (12 + v1) 43 = true then
if it_bd v1 30 = true then
lp_X6_lays_28 κ  k28 n28 (v1 + 1) (it_up S 49 (v1 : Int32).toNatClampNeg (S 63 ((12 + v1) : Int32).toNatClampNeg))
else none
else none
def f_X6_lays (κ : it_KK)  (S : it_SS) : Option (Unit × it_SS) :=
lp_X6_lays_2 κ  (fun  S4 =>
lp_X6_lays_28 κ  (fun  S8 =>
some ((), it_up S8 45 5 (S8 63 (42 : Int32).toNatClampNeg))) it_FU 0 S4) it_FU 0 S
set_option maxHeartbeats 4000000 in
set_option maxRecDepth 100000 in
theorem Llp_X6_lays_2 {g : it_G} {l : Launch} {κ : it_KK} (hm : it_wm κ) {P : Unit → it_SS → Prop} {k2 : (it_SS → Option (Unit × it_SS))} (hk2 : ∀  (S : it_SS), it_ok (k2  S) P → it_Ev g l 1 it_m_X6_lays 0 0 26 [some (.ref 45), none] [] κ S (it_pv κ P)) : ∀ (n : Nat) (v1 : Int32) (S : it_SS), it_ok (lp_X6_lays_2 κ  k2 n v1 S) P → it_Ev g l 1 it_m_X6_lays 0 0 2 [some (.ref 45), some (.int v1)] [] κ S (it_pv κ P) := by
  intro n
  induction n with
  | zero =>
    intro _ _ h
    exact (it_ok_n h).elim
  | succ n2 ih2 =>
    intro v1 S h
    rw [lp_X6_lays_2] at h
    refine ev_iload_n d_X6_lays_2 rfl ?_
    refine ev_bipush d_X6_lays_3 kv_bipush_12 ?_
    refine ev_icmp_ge (tgt := 26) d_X6_lays_5 (by decide) (fun hc1 => ?_) (fun hc1 => ?_)
    · have h := it_ok_t h hc1
      refine ev_keep [true, false] ?_
      exact hk2  _ h
    · have h := it_ok_f h hc1
      refine ev_aload_n d_X6_lays_8 rfl ?_
      refine ev_getRr (r := 48) rfl d_X6_lays_9 fl_IcedTooSoonModel_16 hm.1 rfl ?_
      refine ev_iload_n d_X6_lays_12 rfl ?_
      refine ev_aload_n d_X6_lays_13 rfl ?_
      refine ev_getRr (r := 63) rfl d_X6_lays_14 fl_IcedTooSoonModel_61 hm.1 rfl ?_
      refine ev_iload_n d_X6_lays_17 rfl ?_
      obtain ⟨hb2, h⟩ := it_ok_g h
      refine ev_iald d_X6_lays_18 (hm).2.2.2.2.2.2.2.2.2.2.2.2.2.2.2.2.2.2.1 (it_bd_in hb2) ?_
      obtain ⟨hb3, h⟩ := it_ok_g h
      refine ev_iast d_X6_lays_19 (by decide) (hm).2.2.2.1 (it_bd_in hb3) ?_
      refine ev_iinc d_X6_lays_20 kv_iconst_1 rfl (by decide) ?_
      show it_Ev g l 1 it_m_X6_lays 0 0 23 [some (.ref 45), some (.int (v1 + 1))] [] κ (it_up S 48 (v1 : Int32).toNatClampNeg (S 63 (v1 : Int32).toNatClampNeg)) (it_pv κ P)
      refine ev_goto (tgt := 2) d_X6_lays_23 (by decide) ?_
      refine ev_keep [true, true] ?_
      exact ih2 _ _ h
set_option maxHeartbeats 4000000 in
set_option maxRecDepth 100000 in
theorem Llp_X6_lays_28 {g : it_G} {l : Launch} {κ : it_KK} (hm : it_wm κ) {P : Unit → it_SS → Prop} {k28 : (it_SS → Option (Unit × it_SS))} (hk28 : ∀  (S : it_SS), it_ok (k28  S) P → it_Ev g l 1 it_m_X6_lays 0 0 55 [some (.ref 45), none] [] κ S (it_pv κ P)) : ∀ (n : Nat) (v1 : Int32) (S : it_SS), it_ok (lp_X6_lays_28 κ  k28 n v1 S) P → it_Ev g l 1 it_m_X6_lays 0 0 28 [some (.ref 45), some (.int v1)] [] κ S (it_pv κ P) := by
  intro n
  induction n with
  | zero =>
    intro _ _ h
    exact (it_ok_n h).elim
  | succ n28 ih28 =>
    intro v1 S h
    rw [lp_X6_lays_28] at h
    refine ev_iload_n d_X6_lays_28 rfl ?_
    refine ev_bipush d_X6_lays_29 kv_bipush_30 ?_
    refine ev_icmp_ge (tgt := 55) d_X6_lays_31 (by decide) (fun hc5 => ?_) (fun hc5 => ?_)
    · have h := it_ok_t h hc5
      refine ev_keep [true, false] ?_
      exact hk28  _ h
    · have h := it_ok_f h hc5
      refine ev_aload_n d_X6_lays_34 rfl ?_
      refine ev_getRr (r := 49) rfl d_X6_lays_35 fl_IcedTooSoonModel_19 hm.1 rfl ?_
      refine ev_iload_n d_X6_lays_38 rfl ?_
      refine ev_aload_n d_X6_lays_39 rfl ?_
      refine ev_getRr (r := 63) rfl d_X6_lays_40 fl_IcedTooSoonModel_61 hm.1 rfl ?_
      refine ev_bipush d_X6_lays_43 kv_bipush_12 ?_
      refine ev_iload_n d_X6_lays_45 rfl ?_
      refine ev_iadd d_X6_lays_46 ?_
      obtain ⟨hb6, h⟩ := it_ok_g h
      refine ev_iald d_X6_lays_47 (hm).2.2.2.2.2.2.2.2.2.2.2.2.2.2.2.2.2.2.1 (it_bd_in hb6) ?_
      obtain ⟨hb7, h⟩ := it_ok_g h
      refine ev_iast d_X6_lays_48 (by decide) (hm).2.2.2.2.1 (it_bd_in hb7) ?_
      refine ev_iinc d_X6_lays_49 kv_iconst_1 rfl (by decide) ?_
      show it_Ev g l 1 it_m_X6_lays 0 0 52 [some (.ref 45), some (.int (v1 + 1))] [] κ (it_up S 49 (v1 : Int32).toNatClampNeg (S 63 ((12 + v1) : Int32).toNatClampNeg)) (it_pv κ P)
      refine ev_goto (tgt := 28) d_X6_lays_52 (by decide) ?_
      refine ev_keep [true, true] ?_
      exact ih28 _ _ h
set_option maxHeartbeats 4000000 in
set_option maxRecDepth 100000 in
theorem L_X6_lays {g : it_G} {l : Launch} {κ : it_KK} (hm : it_wm κ) {S : it_SS} {P : Unit → it_SS → Prop} (h : it_ok (f_X6_lays κ  S) P) : it_Cn g l 1 it_m_X6_lays [.ref 45] κ S (it_pv κ P) := by
  refine it_Cn.of (by decide +kernel) (Nat.le_of_ble_eq_true rfl) ?_
  rw [f_X6_lays] at h
  show it_Ev g l 1 it_m_X6_lays 0 0 0 [some (.ref 45), none] [] κ S (it_pv κ P)
  refine ev_iconst d_X6_lays_0 kv_iconst_0 ?_
  refine ev_istore_n d_X6_lays_1 (by decide) ?_
  show it_Ev g l 1 it_m_X6_lays 0 0 2 [some (.ref 45), some (.int 0)] [] κ S (it_pv κ P)
  refine ev_keep [true, true] ?_
  refine Llp_X6_lays_2 hm (fun  S4 h => ?_) _ _ _ h
  show it_Ev g l 1 it_m_X6_lays 0 0 26 [some (.ref 45), none] [] κ S4 (it_pv κ P)
  refine ev_iconst d_X6_lays_26 kv_iconst_0 ?_
  refine ev_istore_n d_X6_lays_27 (by decide) ?_
  show it_Ev g l 1 it_m_X6_lays 0 0 28 [some (.ref 45), some (.int 0)] [] κ S4 (it_pv κ P)
  refine ev_keep [true, true] ?_
  refine Llp_X6_lays_28 hm (fun  S8 h => ?_) _ _ _ h
  show it_Ev g l 1 it_m_X6_lays 0 0 55 [some (.ref 45), none] [] κ S8 (it_pv κ P)
  refine ev_aload_n d_X6_lays_55 rfl ?_
  refine ev_aload_n d_X6_lays_56 rfl ?_
  refine ev_getRr (r := 63) rfl d_X6_lays_57 fl_IcedTooSoonModel_61 hm.1 rfl ?_
  refine ev_bipush d_X6_lays_60 kv_bipush_42 ?_
  refine ev_iald d_X6_lays_62 (hm).2.2.2.2.2.2.2.2.2.2.2.2.2.2.2.2.2.2.1 (it_bd_in (by decide)) ?_
  refine ev_putI d_X6_lays_63 (by decide) fl_IcedTooSoonModel_93 fw_6_5 hm.1 rfl ?_
  exact ev_ret (v := none) ⟨d_X6_lays_66, rfl⟩ (by decide) (by decide) ⟨rfl, rfl, it_ok_r h⟩
theorem d_X6_firstOff_0 : decode prog_8_method_46_code 0 = .ok (.iconst (-1), 1) := by decide +kernel
theorem d_X6_firstOff_1 : decode prog_8_method_46_code 1 = .ok (.istore_n 2, 1) := by decide +kernel
theorem d_X6_firstOff_2 : decode prog_8_method_46_code 2 = .ok (.aload_n 0, 1) := by decide +kernel
theorem d_X6_firstOff_3 : decode prog_8_method_46_code 3 = .ok (.invokevirtual 194, 3) := by decide +kernel
theorem d_X6_firstOff_6 : decode prog_8_method_46_code 6 = .ok (.iconst 0, 1) := by decide +kernel
theorem d_X6_firstOff_7 : decode prog_8_method_46_code 7 = .ok (.istore_n 3, 1) := by decide +kernel
theorem d_X6_firstOff_8 : decode prog_8_method_46_code 8 = .ok (.iload_n 3, 1) := by decide +kernel
theorem d_X6_firstOff_9 : decode prog_8_method_46_code 9 = .ok (.bipush 60, 2) := by decide +kernel
theorem d_X6_firstOff_11 : decode prog_8_method_46_code 11 = .ok (.if_icmp .ge 55, 3) := by decide +kernel
theorem d_X6_firstOff_14 : decode prog_8_method_46_code 14 = .ok (.iload_n 2, 1) := by decide +kernel
theorem d_X6_firstOff_15 : decode prog_8_method_46_code 15 = .ok (.iconst (-1), 1) := by decide +kernel
theorem d_X6_firstOff_16 : decode prog_8_method_46_code 16 = .ok (.if_icmp .ne 50, 3) := by decide +kernel
theorem d_X6_firstOff_19 : decode prog_8_method_46_code 19 = .ok (.aload_n 0, 1) := by decide +kernel
theorem d_X6_firstOff_20 : decode prog_8_method_46_code 20 = .ok (.invokevirtual 191, 3) := by decide +kernel
theorem d_X6_firstOff_23 : decode prog_8_method_46_code 23 = .ok (.iload_n 1, 1) := by decide +kernel
theorem d_X6_firstOff_24 : decode prog_8_method_46_code 24 = .ok (.iand, 1) := by decide +kernel
theorem d_X6_firstOff_25 : decode prog_8_method_46_code 25 = .ok (.istore 4, 2) := by decide +kernel
theorem d_X6_firstOff_27 : decode prog_8_method_46_code 27 = .ok (.bipush 9, 2) := by decide +kernel
theorem d_X6_firstOff_29 : decode prog_8_method_46_code 29 = .ok (.istore 5, 2) := by decide +kernel
theorem d_X6_firstOff_31 : decode prog_8_method_46_code 31 = .ok (.iload 5, 2) := by decide +kernel
theorem d_X6_firstOff_33 : decode prog_8_method_46_code 33 = .ok (.ifCond .lt 27, 3) := by decide +kernel
theorem d_X6_firstOff_36 : decode prog_8_method_46_code 36 = .ok (.iload 4, 2) := by decide +kernel
theorem d_X6_firstOff_38 : decode prog_8_method_46_code 38 = .ok (.iload 5, 2) := by decide +kernel
theorem d_X6_firstOff_40 : decode prog_8_method_46_code 40 = .ok (.ishr, 1) := by decide +kernel
theorem d_X6_firstOff_41 : decode prog_8_method_46_code 41 = .ok (.iconst 1, 1) := by decide +kernel
theorem d_X6_firstOff_42 : decode prog_8_method_46_code 42 = .ok (.iand, 1) := by decide +kernel
theorem d_X6_firstOff_43 : decode prog_8_method_46_code 43 = .ok (.iconst 1, 1) := by decide +kernel
theorem d_X6_firstOff_44 : decode prog_8_method_46_code 44 = .ok (.if_icmp .ne 8, 3) := by decide +kernel
theorem d_X6_firstOff_47 : decode prog_8_method_46_code 47 = .ok (.iload 5, 2) := by decide +kernel
theorem d_X6_firstOff_49 : decode prog_8_method_46_code 49 = .ok (.goto 4, 3) := by decide +kernel
theorem d_X6_firstOff_52 : decode prog_8_method_46_code 52 = .ok (.iload_n 2, 1) := by decide +kernel
theorem d_X6_firstOff_53 : decode prog_8_method_46_code 53 = .ok (.istore_n 2, 1) := by decide +kernel
theorem d_X6_firstOff_54 : decode prog_8_method_46_code 54 = .ok (.iinc 5 (-1), 3) := by decide +kernel
theorem d_X6_firstOff_57 : decode prog_8_method_46_code 57 = .ok (.goto (-26), 3) := by decide +kernel
theorem d_X6_firstOff_60 : decode prog_8_method_46_code 60 = .ok (.iinc 3 1, 3) := by decide +kernel
theorem d_X6_firstOff_63 : decode prog_8_method_46_code 63 = .ok (.goto (-55), 3) := by decide +kernel
theorem d_X6_firstOff_66 : decode prog_8_method_46_code 66 = .ok (.aload_n 0, 1) := by decide +kernel
theorem d_X6_firstOff_67 : decode prog_8_method_46_code 67 = .ok (.invokevirtual 197, 3) := by decide +kernel
theorem d_X6_firstOff_70 : decode prog_8_method_46_code 70 = .ok (.iload_n 2, 1) := by decide +kernel
theorem d_X6_firstOff_71 : decode prog_8_method_46_code 71 = .ok (.ireturn, 1) := by decide +kernel
def lp_X6_firstOff_31 (κ : it_KK) (x1 : Int32) (k31 : (Int32 → Int32 → it_SS → Option (Int32 × it_SS))) : Nat → Int32 → Int32 → Int32 → Int32 → it_SS → Option (Int32 × it_SS)
  | 0, _, _, _, _, _ => none
  | n31 + 1, v2, v3, v4, v5, S => if v5 < 0 then
k31 v2 v3 S
else
if ((v4 >>> (v5 &&& 31)) &&& 1) = 1 then
lp_X6_firstOff_31 κ x1 k31 n31 v5 v3 v4 (v5 + (-1)) S
else
lp_X6_firstOff_31 κ x1 k31 n31 v2 v3 v4 (v5 + (-1)) S
def lp_X6_firstOff_8 (κ : it_KK) (x1 : Int32) (k8 : (Int32 → it_SS → Option (Int32 × it_SS))) : Nat → Int32 → Int32 → it_SS → Option (Int32 × it_SS)
  | 0, _, _, _ => none
  | n8 + 1, v2, v3, S => if 60 ≤ v3 then
k8 v2 S
else
if v2 = (-1) then
it_bi (f_X6_dayOf κ  S) (fun r6 S5 =>
lp_X6_firstOff_31 κ x1 (fun v9 v10 S11 =>
lp_X6_firstOff_8 κ x1 k8 n8 v9 (v10 + 1) S11) it_FU v2 v3 (r6 &&& x1) 9 S5)
else
k8 v2 S
def f_X6_firstOff (κ : it_KK) (x1 : Int32) (S : it_SS) : Option (Int32 × it_SS) :=
it_bi (f_X6_keeps κ  S) (fun _ S1 =>
lp_X6_firstOff_8 κ x1 (fun v12 S13 =>
it_bi (f_X6_lays κ  S13) (fun _ S14 =>
some (v12, S14))) it_FU (-1) 0 S1)
set_option maxHeartbeats 4000000 in
set_option maxRecDepth 100000 in
theorem Llp_X6_firstOff_31 {g : it_G} {l : Launch} {κ : it_KK} {x1 : Int32} (hm : it_wm κ) {P : Int32 → it_SS → Prop} {k31 : (Int32 → Int32 → it_SS → Option (Int32 × it_SS))} (hk31 : ∀ (v2 : Int32) (v3 : Int32) (S : it_SS), it_ok (k31 v2 v3 S) P → it_Ev g l 6 it_m_X6_firstOff 0 0 60 [some (.ref 45), some (.int x1), some (.int v2), some (.int v3), none, none] [] κ S (it_pi κ P)) : ∀ (n : Nat) (v2 : Int32) (v3 : Int32) (v4 : Int32) (v5 : Int32) (S : it_SS), it_ok (lp_X6_firstOff_31 κ x1 k31 n v2 v3 v4 v5 S) P → it_Ev g l 6 it_m_X6_firstOff 0 0 31 [some (.ref 45), some (.int x1), some (.int v2), some (.int v3), some (.int v4), some (.int v5)] [] κ S (it_pi κ P) := by
  intro n
  induction n with
  | zero =>
    intro _ _ _ _ _ h
    exact (it_ok_n h).elim
  | succ n31 ih31 =>
    intro v2 v3 v4 v5 S h
    rw [lp_X6_firstOff_31] at h
    refine ev_iload d_X6_firstOff_31 rfl ?_
    refine ev_if_lt (tgt := 60) d_X6_firstOff_33 (by decide) (fun hc7 => ?_) (fun hc7 => ?_)
    · have h := it_ok_t h hc7
      refine ev_keep [true, true, true, true, false, false] ?_
      exact hk31 _ _ _ h
    · have h := it_ok_f h hc7
      refine ev_iload d_X6_firstOff_36 rfl ?_
      refine ev_iload d_X6_firstOff_38 rfl ?_
      refine ev_ishr d_X6_firstOff_40 ?_
      refine ev_iconst d_X6_firstOff_41 kv_iconst_1 ?_
      refine ev_iand d_X6_firstOff_42 ?_
      refine ev_iconst d_X6_firstOff_43 kv_iconst_1 ?_
      refine ev_icmp_ne (tgt := 52) d_X6_firstOff_44 (by decide) (fun hc8 => ?_) (fun hc8 => ?_)
      · have h := it_ok_f h hc8
        refine ev_iload_n d_X6_firstOff_52 rfl ?_
        refine ev_istore_n d_X6_firstOff_53 (by decide) ?_
        show it_Ev g l 6 it_m_X6_firstOff 0 0 54 [some (.ref 45), some (.int x1), some (.int v2), some (.int v3), some (.int v4), some (.int v5)] [] κ S (it_pi κ P)
        refine ev_iinc d_X6_firstOff_54 kv_iconst_m1 rfl (by decide) ?_
        show it_Ev g l 6 it_m_X6_firstOff 0 0 57 [some (.ref 45), some (.int x1), some (.int v2), some (.int v3), some (.int v4), some (.int (v5 + (-1)))] [] κ S (it_pi κ P)
        refine ev_goto (tgt := 31) d_X6_firstOff_57 (by decide) ?_
        refine ev_keep [true, true, true, true, true, true] ?_
        exact ih31 _ _ _ _ _ h
      · have h := it_ok_t h hc8
        refine ev_iload d_X6_firstOff_47 rfl ?_
        refine ev_goto (tgt := 53) d_X6_firstOff_49 (by decide) ?_
        refine ev_istore_n d_X6_firstOff_53 (by decide) ?_
        show it_Ev g l 6 it_m_X6_firstOff 0 0 54 [some (.ref 45), some (.int x1), some (.int v5), some (.int v3), some (.int v4), some (.int v5)] [] κ S (it_pi κ P)
        refine ev_iinc d_X6_firstOff_54 kv_iconst_m1 rfl (by decide) ?_
        show it_Ev g l 6 it_m_X6_firstOff 0 0 57 [some (.ref 45), some (.int x1), some (.int v5), some (.int v3), some (.int v4), some (.int (v5 + (-1)))] [] κ S (it_pi κ P)
        refine ev_goto (tgt := 31) d_X6_firstOff_57 (by decide) ?_
        refine ev_keep [true, true, true, true, true, true] ?_
        exact ih31 _ _ _ _ _ h
set_option maxHeartbeats 4000000 in
set_option maxRecDepth 100000 in
theorem Llp_X6_firstOff_8 {g : it_G} {l : Launch} {κ : it_KK} {x1 : Int32} (hm : it_wm κ) {P : Int32 → it_SS → Prop} {k8 : (Int32 → it_SS → Option (Int32 × it_SS))} (hk8 : ∀ (v2 : Int32) (S : it_SS), it_ok (k8 v2 S) P → it_Ev g l 6 it_m_X6_firstOff 0 0 66 [some (.ref 45), none, some (.int v2), none, none, none] [] κ S (it_pi κ P)) : ∀ (n : Nat) (v2 : Int32) (v3 : Int32) (S : it_SS), it_ok (lp_X6_firstOff_8 κ x1 k8 n v2 v3 S) P → it_Ev g l 6 it_m_X6_firstOff 0 0 8 [some (.ref 45), some (.int x1), some (.int v2), some (.int v3), none, none] [] κ S (it_pi κ P) := by
  intro n
  induction n with
  | zero =>
    intro _ _ _ h
    exact (it_ok_n h).elim
  | succ n8 ih8 =>
    intro v2 v3 S h
    rw [lp_X6_firstOff_8] at h
    refine ev_iload_n d_X6_firstOff_8 rfl ?_
    refine ev_bipush d_X6_firstOff_9 kv_bipush_60 ?_
    refine ev_icmp_ge (tgt := 66) d_X6_firstOff_11 (by decide) (fun hc3 => ?_) (fun hc3 => ?_)
    · have h := it_ok_t h hc3
      refine ev_keep [true, false, true, false, false, false] ?_
      exact hk8 _ _ h
    · have h := it_ok_f h hc3
      refine ev_iload_n d_X6_firstOff_14 rfl ?_
      refine ev_iconst d_X6_firstOff_15 kv_iconst_m1 ?_
      refine ev_icmp_ne (tgt := 66) d_X6_firstOff_16 (by decide) (fun hc4 => ?_) (fun hc4 => ?_)
      · have h := it_ok_f h hc4
        refine ev_keep [true, false, true, false, false, false] ?_
        exact hk8 _ _ h
      · have h := it_ok_t h hc4
        refine ev_aload_n d_X6_firstOff_19 rfl ?_
        refine ev_callV (ci := 6) (b := 45) (M' := it_m_X6_dayOf) (d' := 5) (As := []) d_X6_firstOff_20 ml_IcedTooSoonModel_191 hm.1.1 hm.1.2.1 ⟨_, rfl, rfl⟩ rfl rfl (Nat.le_of_ble_eq_true rfl) (by decide) (by decide) (by decide) (L_X6_dayOf hm (it_ok_b h)) (fun _ _ _ _ q => by cases q.1; rfl) ?_
        rintro _ _ S5 ⟨rfl, r6, rfl, h⟩
        show it_Ev g l 6 it_m_X6_firstOff 0 0 23 [some (.ref 45), some (.int x1), some (.int v2), some (.int v3), none, none] [.int r6] κ S5 (it_pi κ P)
        refine ev_iload_n d_X6_firstOff_23 rfl ?_
        refine ev_iand d_X6_firstOff_24 ?_
        refine ev_istore d_X6_firstOff_25 (by decide) ?_
        show it_Ev g l 6 it_m_X6_firstOff 0 0 27 [some (.ref 45), some (.int x1), some (.int v2), some (.int v3), some (.int (r6 &&& x1)), none] [] κ S5 (it_pi κ P)
        refine ev_bipush d_X6_firstOff_27 kv_bipush_9 ?_
        refine ev_istore d_X6_firstOff_29 (by decide) ?_
        show it_Ev g l 6 it_m_X6_firstOff 0 0 31 [some (.ref 45), some (.int x1), some (.int v2), some (.int v3), some (.int (r6 &&& x1)), some (.int 9)] [] κ S5 (it_pi κ P)
        refine ev_keep [true, true, true, true, true, true] ?_
        refine Llp_X6_firstOff_31 hm (fun v9 v10 S11 h => ?_) _ _ _ _ _ _ h
        show it_Ev g l 6 it_m_X6_firstOff 0 0 60 [some (.ref 45), some (.int x1), some (.int v9), some (.int v10), none, none] [] κ S11 (it_pi κ P)
        refine ev_iinc d_X6_firstOff_60 kv_iconst_1 rfl (by decide) ?_
        show it_Ev g l 6 it_m_X6_firstOff 0 0 63 [some (.ref 45), some (.int x1), some (.int v9), some (.int (v10 + 1)), none, none] [] κ S11 (it_pi κ P)
        refine ev_goto (tgt := 8) d_X6_firstOff_63 (by decide) ?_
        refine ev_keep [true, true, true, true, false, false] ?_
        exact ih8 _ _ _ h
set_option maxHeartbeats 4000000 in
set_option maxRecDepth 100000 in
theorem L_X6_firstOff {g : it_G} {l : Launch} {κ : it_KK} {x1 : Int32} (hm : it_wm κ) {S : it_SS} {P : Int32 → it_SS → Prop} (h : it_ok (f_X6_firstOff κ x1 S) P) : it_Cn g l 6 it_m_X6_firstOff [.ref 45, .int x1] κ S (it_pi κ P) := by
  refine it_Cn.of (by decide +kernel) (Nat.le_of_ble_eq_true rfl) ?_
  rw [f_X6_firstOff] at h
  show it_Ev g l 6 it_m_X6_firstOff 0 0 0 [some (.ref 45), some (.int x1), none, none, none, none] [] κ S (it_pi κ P)
  refine ev_iconst d_X6_firstOff_0 kv_iconst_m1 ?_
  refine ev_istore_n d_X6_firstOff_1 (by decide) ?_
  show it_Ev g l 6 it_m_X6_firstOff 0 0 2 [some (.ref 45), some (.int x1), some (.int (-1)), none, none, none] [] κ S (it_pi κ P)
  refine ev_aload_n d_X6_firstOff_2 rfl ?_
  refine ev_callV (ci := 6) (b := 45) (M' := it_m_X6_keeps) (d' := 1) (As := []) d_X6_firstOff_3 ml_IcedTooSoonModel_194 hm.1.1 hm.1.2.1 ⟨_, rfl, rfl⟩ rfl rfl (Nat.le_of_ble_eq_true rfl) (by decide) (by decide) (by decide) (L_X6_keeps hm (it_ok_b h)) (fun _ _ _ _ q => by cases q.1; rfl) ?_
  rintro _ _ S1 ⟨rfl, rfl, h⟩
  show it_Ev g l 6 it_m_X6_firstOff 0 0 6 [some (.ref 45), some (.int x1), some (.int (-1)), none, none, none] [] κ S1 (it_pi κ P)
  refine ev_iconst d_X6_firstOff_6 kv_iconst_0 ?_
  refine ev_istore_n d_X6_firstOff_7 (by decide) ?_
  show it_Ev g l 6 it_m_X6_firstOff 0 0 8 [some (.ref 45), some (.int x1), some (.int (-1)), some (.int 0), none, none] [] κ S1 (it_pi κ P)
  refine ev_keep [true, true, true, true, false, false] ?_
  refine Llp_X6_firstOff_8 hm (fun v12 S13 h => ?_) _ _ _ _ h
  show it_Ev g l 6 it_m_X6_firstOff 0 0 66 [some (.ref 45), none, some (.int v12), none, none, none] [] κ S13 (it_pi κ P)
  refine ev_aload_n d_X6_firstOff_66 rfl ?_
  refine ev_callV (ci := 6) (b := 45) (M' := it_m_X6_lays) (d' := 1) (As := []) d_X6_firstOff_67 ml_IcedTooSoonModel_197 hm.1.1 hm.1.2.1 ⟨_, rfl, rfl⟩ rfl rfl (Nat.le_of_ble_eq_true rfl) (by decide) (by decide) (by decide) (L_X6_lays hm (it_ok_b h)) (fun _ _ _ _ q => by cases q.1; rfl) ?_
  rintro _ _ S14 ⟨rfl, rfl, h⟩
  show it_Ev g l 6 it_m_X6_firstOff 0 0 70 [some (.ref 45), none, some (.int v12), none, none, none] [] κ S14 (it_pi κ P)
  refine ev_iload_n d_X6_firstOff_70 rfl ?_
  exact ev_ret (v := some (.int _)) ⟨d_X6_firstOff_71, _, rfl, rfl⟩ (by decide) (by decide) ⟨rfl, _, rfl, it_ok_r h⟩
theorem d_X6_told_0 : decode prog_8_method_37_code 0 = .ok (.aload_n 0, 1) := by decide +kernel
theorem d_X6_told_1 : decode prog_8_method_37_code 1 = .ok (.iload_n 1, 1) := by decide +kernel
theorem d_X6_told_2 : decode prog_8_method_37_code 2 = .ok (.invokevirtual 173, 3) := by decide +kernel
theorem d_X6_told_5 : decode prog_8_method_37_code 5 = .ok (.ifCond .ne 7, 3) := by decide +kernel
theorem d_X6_told_8 : decode prog_8_method_37_code 8 = .ok (.sipush (-5000), 3) := by decide +kernel
theorem d_X6_told_11 : decode prog_8_method_37_code 11 = .ok (.ireturn, 1) := by decide +kernel
theorem d_X6_told_12 : decode prog_8_method_37_code 12 = .ok (.iload_n 2, 1) := by decide +kernel
theorem d_X6_told_13 : decode prog_8_method_37_code 13 = .ok (.tableswitch 80 0 5 #[39, 39, 50, 57, 64, 70], 39) := by decide +kernel
theorem d_X6_told_52 : decode prog_8_method_37_code 52 = .ok (.aload_n 0, 1) := by decide +kernel
theorem d_X6_told_53 : decode prog_8_method_37_code 53 = .ok (.getfield 16, 3) := by decide +kernel
theorem d_X6_told_56 : decode prog_8_method_37_code 56 = .ok (.iconst 2, 1) := by decide +kernel
theorem d_X6_told_57 : decode prog_8_method_37_code 57 = .ok (.iload_n 1, 1) := by decide +kernel
theorem d_X6_told_58 : decode prog_8_method_37_code 58 = .ok (.imul, 1) := by decide +kernel
theorem d_X6_told_59 : decode prog_8_method_37_code 59 = .ok (.iload_n 2, 1) := by decide +kernel
theorem d_X6_told_60 : decode prog_8_method_37_code 60 = .ok (.iadd, 1) := by decide +kernel
theorem d_X6_told_61 : decode prog_8_method_37_code 61 = .ok (.iaload, 1) := by decide +kernel
theorem d_X6_told_62 : decode prog_8_method_37_code 62 = .ok (.ireturn, 1) := by decide +kernel
theorem d_X6_told_63 : decode prog_8_method_37_code 63 = .ok (.aload_n 0, 1) := by decide +kernel
theorem d_X6_told_64 : decode prog_8_method_37_code 64 = .ok (.getfield 7, 3) := by decide +kernel
theorem d_X6_told_67 : decode prog_8_method_37_code 67 = .ok (.iload_n 1, 1) := by decide +kernel
theorem d_X6_told_68 : decode prog_8_method_37_code 68 = .ok (.iaload, 1) := by decide +kernel
theorem d_X6_told_69 : decode prog_8_method_37_code 69 = .ok (.ireturn, 1) := by decide +kernel
theorem d_X6_told_70 : decode prog_8_method_37_code 70 = .ok (.aload_n 0, 1) := by decide +kernel
theorem d_X6_told_71 : decode prog_8_method_37_code 71 = .ok (.getfield 13, 3) := by decide +kernel
theorem d_X6_told_74 : decode prog_8_method_37_code 74 = .ok (.iload_n 1, 1) := by decide +kernel
theorem d_X6_told_75 : decode prog_8_method_37_code 75 = .ok (.iaload, 1) := by decide +kernel
theorem d_X6_told_76 : decode prog_8_method_37_code 76 = .ok (.ireturn, 1) := by decide +kernel
theorem d_X6_told_77 : decode prog_8_method_37_code 77 = .ok (.aload_n 0, 1) := by decide +kernel
theorem d_X6_told_78 : decode prog_8_method_37_code 78 = .ok (.iload_n 1, 1) := by decide +kernel
theorem d_X6_told_79 : decode prog_8_method_37_code 79 = .ok (.invokevirtual 179, 3) := by decide +kernel
theorem d_X6_told_82 : decode prog_8_method_37_code 82 = .ok (.ireturn, 1) := by decide +kernel
theorem d_X6_told_83 : decode prog_8_method_37_code 83 = .ok (.aload_n 0, 1) := by decide +kernel
theorem d_X6_told_84 : decode prog_8_method_37_code 84 = .ok (.aload_n 0, 1) := by decide +kernel
theorem d_X6_told_85 : decode prog_8_method_37_code 85 = .ok (.iload_n 1, 1) := by decide +kernel
theorem d_X6_told_86 : decode prog_8_method_37_code 86 = .ok (.invokevirtual 179, 3) := by decide +kernel
theorem d_X6_told_89 : decode prog_8_method_37_code 89 = .ok (.invokevirtual 182, 3) := by decide +kernel
theorem d_X6_told_92 : decode prog_8_method_37_code 92 = .ok (.ireturn, 1) := by decide +kernel
theorem d_X6_told_93 : decode prog_8_method_37_code 93 = .ok (.sipush (-7000), 3) := by decide +kernel
theorem d_X6_told_96 : decode prog_8_method_37_code 96 = .ok (.ireturn, 1) := by decide +kernel
def f_X6_told (κ : it_KK) (x1 : Int32) (x2 : Int32) (S : it_SS) : Option (Int32 × it_SS) :=
it_bi (f_X6_isOne κ x1 S) (fun r2 S1 =>
if r2 = 0 then
some ((-5000), S1)
else
if x2 = 0 then
if it_bd ((2 * x1) + x2) 12 = true then
some ((S1 48 (((2 * x1) + x2) : Int32).toNatClampNeg), S1)
else none
else if x2 = 1 then
if it_bd ((2 * x1) + x2) 12 = true then
some ((S1 48 (((2 * x1) + x2) : Int32).toNatClampNeg), S1)
else none
else if x2 = 2 then
if it_bd x1 6 = true then
some ((S1 46 (x1 : Int32).toNatClampNeg), S1)
else none
else if x2 = 3 then
if it_bd x1 6 = true then
some ((S1 47 (x1 : Int32).toNatClampNeg), S1)
else none
else if x2 = 4 then
it_bi (f_X6_glassesOf κ x1 S1) (fun r14 S13 =>
some (r14, S13))
else if x2 = 5 then
it_bi (f_X6_glassesOf κ x1 S1) (fun r17 S16 =>
it_bi (f_X6_firstOff κ r17 S16) (fun r19 S18 =>
some (r19, S18)))
else 
some ((-7000), S1))
set_option maxHeartbeats 4000000 in
set_option maxRecDepth 100000 in
theorem L_X6_told {g : it_G} {l : Launch} {κ : it_KK} {x1 : Int32} {x2 : Int32} (hm : it_wm κ) {S : it_SS} {P : Int32 → it_SS → Prop} (h : it_ok (f_X6_told κ x1 x2 S) P) : it_Cn g l 7 it_m_X6_told [.ref 45, .int x1, .int x2] κ S (it_pi κ P) := by
  refine it_Cn.of (by decide +kernel) (Nat.le_of_ble_eq_true rfl) ?_
  rw [f_X6_told] at h
  show it_Ev g l 7 it_m_X6_told 0 0 0 [some (.ref 45), some (.int x1), some (.int x2)] [] κ S (it_pi κ P)
  refine ev_aload_n d_X6_told_0 rfl ?_
  refine ev_iload_n d_X6_told_1 rfl ?_
  refine ev_callV (ci := 6) (b := 45) (M' := it_m_X6_isOne) (d' := 2) (As := [.int x1]) d_X6_told_2 ml_IcedTooSoonModel_173 hm.1.1 hm.1.2.1 ⟨_, rfl, rfl⟩ rfl rfl (Nat.le_of_ble_eq_true rfl) (by decide) (by decide) (by decide) (L_X6_isOne hm (it_ok_b h)) (fun _ _ _ _ q => by cases q.1; rfl) ?_
  rintro _ _ S1 ⟨rfl, r2, rfl, h⟩
  show it_Ev g l 7 it_m_X6_told 0 0 5 [some (.ref 45), some (.int x1), some (.int x2)] [.int r2] κ S1 (it_pi κ P)
  refine ev_if_ne (tgt := 12) d_X6_told_5 (by decide) (fun hc3 => ?_) (fun hc3 => ?_)
  · have h := it_ok_f h hc3
    refine ev_iload_n d_X6_told_12 rfl ?_
    rcases Classical.em (x2 = 0) with hc4 | hc4
    · have h := it_ok_t h hc4
      refine ev_table (c1 := 0) (off := 39) (tgt := 52) hc4 d_X6_told_13 (by decide) (by decide) (by decide) (by decide) ?_
      refine ev_aload_n d_X6_told_52 rfl ?_
      refine ev_getRr (r := 48) rfl d_X6_told_53 fl_IcedTooSoonModel_16 hm.1 rfl ?_
      refine ev_iconst d_X6_told_56 kv_iconst_2 ?_
      refine ev_iload_n d_X6_told_57 rfl ?_
      refine ev_imul d_X6_told_58 ?_
      refine ev_iload_n d_X6_told_59 rfl ?_
      refine ev_iadd d_X6_told_60 ?_
      obtain ⟨hb5, h⟩ := it_ok_g h
      refine ev_iald d_X6_told_61 (hm).2.2.2.1 (it_bd_in hb5) ?_
      exact ev_ret (v := some (.int _)) ⟨d_X6_told_62, _, rfl, rfl⟩ (by decide) (by decide) ⟨rfl, _, rfl, it_ok_r h⟩
    · have h := it_ok_f h hc4
      rcases Classical.em (x2 = 1) with hc6 | hc6
      · have h := it_ok_t h hc6
        refine ev_table (c1 := 1) (off := 39) (tgt := 52) hc6 d_X6_told_13 (by decide) (by decide) (by decide) (by decide) ?_
        refine ev_aload_n d_X6_told_52 rfl ?_
        refine ev_getRr (r := 48) rfl d_X6_told_53 fl_IcedTooSoonModel_16 hm.1 rfl ?_
        refine ev_iconst d_X6_told_56 kv_iconst_2 ?_
        refine ev_iload_n d_X6_told_57 rfl ?_
        refine ev_imul d_X6_told_58 ?_
        refine ev_iload_n d_X6_told_59 rfl ?_
        refine ev_iadd d_X6_told_60 ?_
        obtain ⟨hb7, h⟩ := it_ok_g h
        refine ev_iald d_X6_told_61 (hm).2.2.2.1 (it_bd_in hb7) ?_
        exact ev_ret (v := some (.int _)) ⟨d_X6_told_62, _, rfl, rfl⟩ (by decide) (by decide) ⟨rfl, _, rfl, it_ok_r h⟩
      · have h := it_ok_f h hc6
        rcases Classical.em (x2 = 2) with hc8 | hc8
        · have h := it_ok_t h hc8
          refine ev_table (c1 := 2) (off := 50) (tgt := 63) hc8 d_X6_told_13 (by decide) (by decide) (by decide) (by decide) ?_
          refine ev_aload_n d_X6_told_63 rfl ?_
          refine ev_getRr (r := 46) rfl d_X6_told_64 fl_IcedTooSoonModel_7 hm.1 rfl ?_
          refine ev_iload_n d_X6_told_67 rfl ?_
          obtain ⟨hb9, h⟩ := it_ok_g h
          refine ev_iald d_X6_told_68 (hm).2.1 (it_bd_in hb9) ?_
          exact ev_ret (v := some (.int _)) ⟨d_X6_told_69, _, rfl, rfl⟩ (by decide) (by decide) ⟨rfl, _, rfl, it_ok_r h⟩
        · have h := it_ok_f h hc8
          rcases Classical.em (x2 = 3) with hc10 | hc10
          · have h := it_ok_t h hc10
            refine ev_table (c1 := 3) (off := 57) (tgt := 70) hc10 d_X6_told_13 (by decide) (by decide) (by decide) (by decide) ?_
            refine ev_aload_n d_X6_told_70 rfl ?_
            refine ev_getRr (r := 47) rfl d_X6_told_71 fl_IcedTooSoonModel_13 hm.1 rfl ?_
            refine ev_iload_n d_X6_told_74 rfl ?_
            obtain ⟨hb11, h⟩ := it_ok_g h
            refine ev_iald d_X6_told_75 (hm).2.2.1 (it_bd_in hb11) ?_
            exact ev_ret (v := some (.int _)) ⟨d_X6_told_76, _, rfl, rfl⟩ (by decide) (by decide) ⟨rfl, _, rfl, it_ok_r h⟩
          · have h := it_ok_f h hc10
            rcases Classical.em (x2 = 4) with hc12 | hc12
            · have h := it_ok_t h hc12
              refine ev_table (c1 := 4) (off := 64) (tgt := 77) hc12 d_X6_told_13 (by decide) (by decide) (by decide) (by decide) ?_
              refine ev_aload_n d_X6_told_77 rfl ?_
              refine ev_iload_n d_X6_told_78 rfl ?_
              refine ev_callV (ci := 6) (b := 45) (M' := it_m_X6_glassesOf) (d' := 1) (As := [.int x1]) d_X6_told_79 ml_IcedTooSoonModel_179 hm.1.1 hm.1.2.1 ⟨_, rfl, rfl⟩ rfl rfl (Nat.le_of_ble_eq_true rfl) (by decide) (by decide) (by decide) (L_X6_glassesOf hm (it_ok_b h)) (fun _ _ _ _ q => by cases q.1; rfl) ?_
              rintro _ _ S13 ⟨rfl, r14, rfl, h⟩
              show it_Ev g l 7 it_m_X6_told 0 0 82 [some (.ref 45), some (.int x1), some (.int x2)] [.int r14] κ S13 (it_pi κ P)
              exact ev_ret (v := some (.int _)) ⟨d_X6_told_82, _, rfl, rfl⟩ (by decide) (by decide) ⟨rfl, _, rfl, it_ok_r h⟩
            · have h := it_ok_f h hc12
              rcases Classical.em (x2 = 5) with hc15 | hc15
              · have h := it_ok_t h hc15
                refine ev_table (c1 := 5) (off := 70) (tgt := 83) hc15 d_X6_told_13 (by decide) (by decide) (by decide) (by decide) ?_
                refine ev_aload_n d_X6_told_83 rfl ?_
                refine ev_aload_n d_X6_told_84 rfl ?_
                refine ev_iload_n d_X6_told_85 rfl ?_
                refine ev_callV (ci := 6) (b := 45) (M' := it_m_X6_glassesOf) (d' := 1) (As := [.int x1]) d_X6_told_86 ml_IcedTooSoonModel_179 hm.1.1 hm.1.2.1 ⟨_, rfl, rfl⟩ rfl rfl (Nat.le_of_ble_eq_true rfl) (by decide) (by decide) (by decide) (L_X6_glassesOf hm (it_ok_b h)) (fun _ _ _ _ q => by cases q.1; rfl) ?_
                rintro _ _ S16 ⟨rfl, r17, rfl, h⟩
                show it_Ev g l 7 it_m_X6_told 0 0 89 [some (.ref 45), some (.int x1), some (.int x2)] [.int r17, .ref 45] κ S16 (it_pi κ P)
                refine ev_callV (ci := 6) (b := 45) (M' := it_m_X6_firstOff) (d' := 6) (As := [.int r17]) d_X6_told_89 ml_IcedTooSoonModel_182 hm.1.1 hm.1.2.1 ⟨_, rfl, rfl⟩ rfl rfl (Nat.le_of_ble_eq_true rfl) (by decide) (by decide) (by decide) (L_X6_firstOff hm (it_ok_b h)) (fun _ _ _ _ q => by cases q.1; rfl) ?_
                rintro _ _ S18 ⟨rfl, r19, rfl, h⟩
                show it_Ev g l 7 it_m_X6_told 0 0 92 [some (.ref 45), some (.int x1), some (.int x2)] [.int r19] κ S18 (it_pi κ P)
                exact ev_ret (v := some (.int _)) ⟨d_X6_told_92, _, rfl, rfl⟩ (by decide) (by decide) ⟨rfl, _, rfl, it_ok_r h⟩
              · have h := it_ok_f h hc15
                refine ev_tableOut (tgt := 93) d_X6_told_13 (it_sw (fun h1 h2 => ?_)) (by decide) ?_
                · rcases (by omega : (x2).toInt = 0 ∨ (x2).toInt = 1 ∨ (x2).toInt = 2 ∨ (x2).toInt = 3 ∨ (x2).toInt = 4 ∨ (x2).toInt = 5) with q | q | q | q | q | q
                  · exact hc4 (Int32.toInt_inj.mp (q.trans (by decide)))
                  · exact hc6 (Int32.toInt_inj.mp (q.trans (by decide)))
                  · exact hc8 (Int32.toInt_inj.mp (q.trans (by decide)))
                  · exact hc10 (Int32.toInt_inj.mp (q.trans (by decide)))
                  · exact hc12 (Int32.toInt_inj.mp (q.trans (by decide)))
                  · exact hc15 (Int32.toInt_inj.mp (q.trans (by decide)))
                · skip
                  refine ev_sipush d_X6_told_93 kv_sipush_m7000 ?_
                  exact ev_ret (v := some (.int _)) ⟨d_X6_told_96, _, rfl, rfl⟩ (by decide) (by decide) ⟨rfl, _, rfl, it_ok_r h⟩
  · have h := it_ok_t h hc3
    refine ev_sipush d_X6_told_8 kv_sipush_m5000 ?_
    exact ev_ret (v := some (.int _)) ⟨d_X6_told_11, _, rfl, rfl⟩ (by decide) (by decide) ⟨rfl, _, rfl, it_ok_r h⟩
theorem d_X6_glass_0 : decode prog_8_method_38_code 0 = .ok (.aload_n 0, 1) := by decide +kernel
theorem d_X6_glass_1 : decode prog_8_method_38_code 1 = .ok (.iload_n 1, 1) := by decide +kernel
theorem d_X6_glass_2 : decode prog_8_method_38_code 2 = .ok (.invokevirtual 86, 3) := by decide +kernel
theorem d_X6_glass_5 : decode prog_8_method_38_code 5 = .ok (.ifCond .ne 7, 3) := by decide +kernel
theorem d_X6_glass_8 : decode prog_8_method_38_code 8 = .ok (.sipush (-6000), 3) := by decide +kernel
theorem d_X6_glass_11 : decode prog_8_method_38_code 11 = .ok (.ireturn, 1) := by decide +kernel
theorem d_X6_glass_12 : decode prog_8_method_38_code 12 = .ok (.iload_n 2, 1) := by decide +kernel
theorem d_X6_glass_13 : decode prog_8_method_38_code 13 = .ok (.tableswitch 68 0 5 #[39, 39, 39, 50, 56, 62], 39) := by decide +kernel
theorem d_X6_glass_52 : decode prog_8_method_38_code 52 = .ok (.aload_n 0, 1) := by decide +kernel
theorem d_X6_glass_53 : decode prog_8_method_38_code 53 = .ok (.getfield 19, 3) := by decide +kernel
theorem d_X6_glass_56 : decode prog_8_method_38_code 56 = .ok (.iconst 3, 1) := by decide +kernel
theorem d_X6_glass_57 : decode prog_8_method_38_code 57 = .ok (.iload_n 1, 1) := by decide +kernel
theorem d_X6_glass_58 : decode prog_8_method_38_code 58 = .ok (.imul, 1) := by decide +kernel
theorem d_X6_glass_59 : decode prog_8_method_38_code 59 = .ok (.iload_n 2, 1) := by decide +kernel
theorem d_X6_glass_60 : decode prog_8_method_38_code 60 = .ok (.iadd, 1) := by decide +kernel
theorem d_X6_glass_61 : decode prog_8_method_38_code 61 = .ok (.iaload, 1) := by decide +kernel
theorem d_X6_glass_62 : decode prog_8_method_38_code 62 = .ok (.ireturn, 1) := by decide +kernel
theorem d_X6_glass_63 : decode prog_8_method_38_code 63 = .ok (.aload_n 0, 1) := by decide +kernel
theorem d_X6_glass_64 : decode prog_8_method_38_code 64 = .ok (.iload_n 1, 1) := by decide +kernel
theorem d_X6_glass_65 : decode prog_8_method_38_code 65 = .ok (.invokevirtual 185, 3) := by decide +kernel
theorem d_X6_glass_68 : decode prog_8_method_38_code 68 = .ok (.ireturn, 1) := by decide +kernel
theorem d_X6_glass_69 : decode prog_8_method_38_code 69 = .ok (.aload_n 0, 1) := by decide +kernel
theorem d_X6_glass_70 : decode prog_8_method_38_code 70 = .ok (.iload_n 1, 1) := by decide +kernel
theorem d_X6_glass_71 : decode prog_8_method_38_code 71 = .ok (.invokevirtual 188, 3) := by decide +kernel
theorem d_X6_glass_74 : decode prog_8_method_38_code 74 = .ok (.ireturn, 1) := by decide +kernel
theorem d_X6_glass_75 : decode prog_8_method_38_code 75 = .ok (.aload_n 0, 1) := by decide +kernel
theorem d_X6_glass_76 : decode prog_8_method_38_code 76 = .ok (.iload_n 1, 1) := by decide +kernel
theorem d_X6_glass_77 : decode prog_8_method_38_code 77 = .ok (.invokevirtual 170, 3) := by decide +kernel
theorem d_X6_glass_80 : decode prog_8_method_38_code 80 = .ok (.ireturn, 1) := by decide +kernel
theorem d_X6_glass_81 : decode prog_8_method_38_code 81 = .ok (.sipush (-7000), 3) := by decide +kernel
theorem d_X6_glass_84 : decode prog_8_method_38_code 84 = .ok (.ireturn, 1) := by decide +kernel
def f_X6_glass (κ : it_KK) (x1 : Int32) (x2 : Int32) (S : it_SS) : Option (Int32 × it_SS) :=
it_bi (f_X6_isThere κ x1 S) (fun r2 S1 =>
if r2 = 0 then
some ((-6000), S1)
else
if x2 = 0 then
if it_bd ((3 * x1) + x2) 30 = true then
some ((S1 49 (((3 * x1) + x2) : Int32).toNatClampNeg), S1)
else none
else if x2 = 1 then
if it_bd ((3 * x1) + x2) 30 = true then
some ((S1 49 (((3 * x1) + x2) : Int32).toNatClampNeg), S1)
else none
else if x2 = 2 then
if it_bd ((3 * x1) + x2) 30 = true then
some ((S1 49 (((3 * x1) + x2) : Int32).toNatClampNeg), S1)
else none
else if x2 = 3 then
it_bi (f_X6_meltsOf κ x1 S1) (fun r12 S11 =>
some (r12, S11))
else if x2 = 4 then
it_bi (f_X6_feelsOf κ x1 S1) (fun r15 S14 =>
some (r15, S14))
else if x2 = 5 then
it_bi (f_X6_chillsOf κ x1 S1) (fun r18 S17 =>
some (r18, S17))
else 
some ((-7000), S1))
set_option maxHeartbeats 4000000 in
set_option maxRecDepth 100000 in
theorem L_X6_glass {g : it_G} {l : Launch} {κ : it_KK} {x1 : Int32} {x2 : Int32} (hm : it_wm κ) {S : it_SS} {P : Int32 → it_SS → Prop} (h : it_ok (f_X6_glass κ x1 x2 S) P) : it_Cn g l 5 it_m_X6_glass [.ref 45, .int x1, .int x2] κ S (it_pi κ P) := by
  refine it_Cn.of (by decide +kernel) (Nat.le_of_ble_eq_true rfl) ?_
  rw [f_X6_glass] at h
  show it_Ev g l 5 it_m_X6_glass 0 0 0 [some (.ref 45), some (.int x1), some (.int x2)] [] κ S (it_pi κ P)
  refine ev_aload_n d_X6_glass_0 rfl ?_
  refine ev_iload_n d_X6_glass_1 rfl ?_
  refine ev_callV (ci := 6) (b := 45) (M' := it_m_X6_isThere) (d' := 2) (As := [.int x1]) d_X6_glass_2 ml_IcedTooSoonModel_86 hm.1.1 hm.1.2.1 ⟨_, rfl, rfl⟩ rfl rfl (Nat.le_of_ble_eq_true rfl) (by decide) (by decide) (by decide) (L_X6_isThere hm (it_ok_b h)) (fun _ _ _ _ q => by cases q.1; rfl) ?_
  rintro _ _ S1 ⟨rfl, r2, rfl, h⟩
  show it_Ev g l 5 it_m_X6_glass 0 0 5 [some (.ref 45), some (.int x1), some (.int x2)] [.int r2] κ S1 (it_pi κ P)
  refine ev_if_ne (tgt := 12) d_X6_glass_5 (by decide) (fun hc3 => ?_) (fun hc3 => ?_)
  · have h := it_ok_f h hc3
    refine ev_iload_n d_X6_glass_12 rfl ?_
    rcases Classical.em (x2 = 0) with hc4 | hc4
    · have h := it_ok_t h hc4
      refine ev_table (c1 := 0) (off := 39) (tgt := 52) hc4 d_X6_glass_13 (by decide) (by decide) (by decide) (by decide) ?_
      refine ev_aload_n d_X6_glass_52 rfl ?_
      refine ev_getRr (r := 49) rfl d_X6_glass_53 fl_IcedTooSoonModel_19 hm.1 rfl ?_
      refine ev_iconst d_X6_glass_56 kv_iconst_3 ?_
      refine ev_iload_n d_X6_glass_57 rfl ?_
      refine ev_imul d_X6_glass_58 ?_
      refine ev_iload_n d_X6_glass_59 rfl ?_
      refine ev_iadd d_X6_glass_60 ?_
      obtain ⟨hb5, h⟩ := it_ok_g h
      refine ev_iald d_X6_glass_61 (hm).2.2.2.2.1 (it_bd_in hb5) ?_
      exact ev_ret (v := some (.int _)) ⟨d_X6_glass_62, _, rfl, rfl⟩ (by decide) (by decide) ⟨rfl, _, rfl, it_ok_r h⟩
    · have h := it_ok_f h hc4
      rcases Classical.em (x2 = 1) with hc6 | hc6
      · have h := it_ok_t h hc6
        refine ev_table (c1 := 1) (off := 39) (tgt := 52) hc6 d_X6_glass_13 (by decide) (by decide) (by decide) (by decide) ?_
        refine ev_aload_n d_X6_glass_52 rfl ?_
        refine ev_getRr (r := 49) rfl d_X6_glass_53 fl_IcedTooSoonModel_19 hm.1 rfl ?_
        refine ev_iconst d_X6_glass_56 kv_iconst_3 ?_
        refine ev_iload_n d_X6_glass_57 rfl ?_
        refine ev_imul d_X6_glass_58 ?_
        refine ev_iload_n d_X6_glass_59 rfl ?_
        refine ev_iadd d_X6_glass_60 ?_
        obtain ⟨hb7, h⟩ := it_ok_g h
        refine ev_iald d_X6_glass_61 (hm).2.2.2.2.1 (it_bd_in hb7) ?_
        exact ev_ret (v := some (.int _)) ⟨d_X6_glass_62, _, rfl, rfl⟩ (by decide) (by decide) ⟨rfl, _, rfl, it_ok_r h⟩
      · have h := it_ok_f h hc6
        rcases Classical.em (x2 = 2) with hc8 | hc8
        · have h := it_ok_t h hc8
          refine ev_table (c1 := 2) (off := 39) (tgt := 52) hc8 d_X6_glass_13 (by decide) (by decide) (by decide) (by decide) ?_
          refine ev_aload_n d_X6_glass_52 rfl ?_
          refine ev_getRr (r := 49) rfl d_X6_glass_53 fl_IcedTooSoonModel_19 hm.1 rfl ?_
          refine ev_iconst d_X6_glass_56 kv_iconst_3 ?_
          refine ev_iload_n d_X6_glass_57 rfl ?_
          refine ev_imul d_X6_glass_58 ?_
          refine ev_iload_n d_X6_glass_59 rfl ?_
          refine ev_iadd d_X6_glass_60 ?_
          obtain ⟨hb9, h⟩ := it_ok_g h
          refine ev_iald d_X6_glass_61 (hm).2.2.2.2.1 (it_bd_in hb9) ?_
          exact ev_ret (v := some (.int _)) ⟨d_X6_glass_62, _, rfl, rfl⟩ (by decide) (by decide) ⟨rfl, _, rfl, it_ok_r h⟩
        · have h := it_ok_f h hc8
          rcases Classical.em (x2 = 3) with hc10 | hc10
          · have h := it_ok_t h hc10
            refine ev_table (c1 := 3) (off := 50) (tgt := 63) hc10 d_X6_glass_13 (by decide) (by decide) (by decide) (by decide) ?_
            refine ev_aload_n d_X6_glass_63 rfl ?_
            refine ev_iload_n d_X6_glass_64 rfl ?_
            refine ev_callV (ci := 6) (b := 45) (M' := it_m_X6_meltsOf) (d' := 4) (As := [.int x1]) d_X6_glass_65 ml_IcedTooSoonModel_185 hm.1.1 hm.1.2.1 ⟨_, rfl, rfl⟩ rfl rfl (Nat.le_of_ble_eq_true rfl) (by decide) (by decide) (by decide) (L_X6_meltsOf hm (it_ok_b h)) (fun _ _ _ _ q => by cases q.1; rfl) ?_
            rintro _ _ S11 ⟨rfl, r12, rfl, h⟩
            show it_Ev g l 5 it_m_X6_glass 0 0 68 [some (.ref 45), some (.int x1), some (.int x2)] [.int r12] κ S11 (it_pi κ P)
            exact ev_ret (v := some (.int _)) ⟨d_X6_glass_68, _, rfl, rfl⟩ (by decide) (by decide) ⟨rfl, _, rfl, it_ok_r h⟩
          · have h := it_ok_f h hc10
            rcases Classical.em (x2 = 4) with hc13 | hc13
            · have h := it_ok_t h hc13
              refine ev_table (c1 := 4) (off := 56) (tgt := 69) hc13 d_X6_glass_13 (by decide) (by decide) (by decide) (by decide) ?_
              refine ev_aload_n d_X6_glass_69 rfl ?_
              refine ev_iload_n d_X6_glass_70 rfl ?_
              refine ev_callV (ci := 6) (b := 45) (M' := it_m_X6_feelsOf) (d' := 4) (As := [.int x1]) d_X6_glass_71 ml_IcedTooSoonModel_188 hm.1.1 hm.1.2.1 ⟨_, rfl, rfl⟩ rfl rfl (Nat.le_of_ble_eq_true rfl) (by decide) (by decide) (by decide) (L_X6_feelsOf hm (it_ok_b h)) (fun _ _ _ _ q => by cases q.1; rfl) ?_
              rintro _ _ S14 ⟨rfl, r15, rfl, h⟩
              show it_Ev g l 5 it_m_X6_glass 0 0 74 [some (.ref 45), some (.int x1), some (.int x2)] [.int r15] κ S14 (it_pi κ P)
              exact ev_ret (v := some (.int _)) ⟨d_X6_glass_74, _, rfl, rfl⟩ (by decide) (by decide) ⟨rfl, _, rfl, it_ok_r h⟩
            · have h := it_ok_f h hc13
              rcases Classical.em (x2 = 5) with hc16 | hc16
              · have h := it_ok_t h hc16
                refine ev_table (c1 := 5) (off := 62) (tgt := 75) hc16 d_X6_glass_13 (by decide) (by decide) (by decide) (by decide) ?_
                refine ev_aload_n d_X6_glass_75 rfl ?_
                refine ev_iload_n d_X6_glass_76 rfl ?_
                refine ev_callV (ci := 6) (b := 45) (M' := it_m_X6_chillsOf) (d' := 4) (As := [.int x1]) d_X6_glass_77 ml_IcedTooSoonModel_170 hm.1.1 hm.1.2.1 ⟨_, rfl, rfl⟩ rfl rfl (Nat.le_of_ble_eq_true rfl) (by decide) (by decide) (by decide) (L_X6_chillsOf hm (it_ok_b h)) (fun _ _ _ _ q => by cases q.1; rfl) ?_
                rintro _ _ S17 ⟨rfl, r18, rfl, h⟩
                show it_Ev g l 5 it_m_X6_glass 0 0 80 [some (.ref 45), some (.int x1), some (.int x2)] [.int r18] κ S17 (it_pi κ P)
                exact ev_ret (v := some (.int _)) ⟨d_X6_glass_80, _, rfl, rfl⟩ (by decide) (by decide) ⟨rfl, _, rfl, it_ok_r h⟩
              · have h := it_ok_f h hc16
                refine ev_tableOut (tgt := 81) d_X6_glass_13 (it_sw (fun h1 h2 => ?_)) (by decide) ?_
                · rcases (by omega : (x2).toInt = 0 ∨ (x2).toInt = 1 ∨ (x2).toInt = 2 ∨ (x2).toInt = 3 ∨ (x2).toInt = 4 ∨ (x2).toInt = 5) with q | q | q | q | q | q
                  · exact hc4 (Int32.toInt_inj.mp (q.trans (by decide)))
                  · exact hc6 (Int32.toInt_inj.mp (q.trans (by decide)))
                  · exact hc8 (Int32.toInt_inj.mp (q.trans (by decide)))
                  · exact hc10 (Int32.toInt_inj.mp (q.trans (by decide)))
                  · exact hc13 (Int32.toInt_inj.mp (q.trans (by decide)))
                  · exact hc16 (Int32.toInt_inj.mp (q.trans (by decide)))
                · skip
                  refine ev_sipush d_X6_glass_81 kv_sipush_m7000 ?_
                  exact ev_ret (v := some (.int _)) ⟨d_X6_glass_84, _, rfl, rfl⟩ (by decide) (by decide) ⟨rfl, _, rfl, it_ok_r h⟩
  · have h := it_ok_t h hc3
    refine ev_sipush d_X6_glass_8 kv_sipush_m6000 ?_
    exact ev_ret (v := some (.int _)) ⟨d_X6_glass_11, _, rfl, rfl⟩ (by decide) (by decide) ⟨rfl, _, rfl, it_ok_r h⟩
theorem d_X6_day_0 : decode prog_8_method_40_code 0 = .ok (.aload_n 0, 1) := by decide +kernel
theorem d_X6_day_1 : decode prog_8_method_40_code 1 = .ok (.getfield 93, 3) := by decide +kernel
theorem d_X6_day_4 : decode prog_8_method_40_code 4 = .ok (.sipush 999, 3) := by decide +kernel
theorem d_X6_day_7 : decode prog_8_method_40_code 7 = .ok (.if_icmp .ne 8, 3) := by decide +kernel
theorem d_X6_day_10 : decode prog_8_method_40_code 10 = .ok (.bipush (-3), 2) := by decide +kernel
theorem d_X6_day_12 : decode prog_8_method_40_code 12 = .ok (.goto 7, 3) := by decide +kernel
theorem d_X6_day_15 : decode prog_8_method_40_code 15 = .ok (.aload_n 0, 1) := by decide +kernel
theorem d_X6_day_16 : decode prog_8_method_40_code 16 = .ok (.invokevirtual 191, 3) := by decide +kernel
theorem d_X6_day_19 : decode prog_8_method_40_code 19 = .ok (.ireturn, 1) := by decide +kernel
def f_X6_day (κ : it_KK)  (S : it_SS) : Option (Int32 × it_SS) :=
if (S 45 5) = 999 then
some ((-3), S)
else
it_bi (f_X6_dayOf κ  S) (fun r3 S2 =>
some (r3, S2))
set_option maxHeartbeats 4000000 in
set_option maxRecDepth 100000 in
theorem L_X6_day {g : it_G} {l : Launch} {κ : it_KK} (hm : it_wm κ) {S : it_SS} {P : Int32 → it_SS → Prop} (h : it_ok (f_X6_day κ  S) P) : it_Cn g l 6 it_m_X6_day [.ref 45] κ S (it_pi κ P) := by
  refine it_Cn.of (by decide +kernel) (Nat.le_of_ble_eq_true rfl) ?_
  rw [f_X6_day] at h
  show it_Ev g l 6 it_m_X6_day 0 0 0 [some (.ref 45)] [] κ S (it_pi κ P)
  refine ev_aload_n d_X6_day_0 rfl ?_
  refine ev_getI d_X6_day_1 fl_IcedTooSoonModel_93 hm.1 rfl ?_
  refine ev_sipush d_X6_day_4 kv_sipush_999 ?_
  refine ev_icmp_ne (tgt := 15) d_X6_day_7 (by decide) (fun hc1 => ?_) (fun hc1 => ?_)
  · have h := it_ok_f h hc1
    refine ev_aload_n d_X6_day_15 rfl ?_
    refine ev_callV (ci := 6) (b := 45) (M' := it_m_X6_dayOf) (d' := 5) (As := []) d_X6_day_16 ml_IcedTooSoonModel_191 hm.1.1 hm.1.2.1 ⟨_, rfl, rfl⟩ rfl rfl (Nat.le_of_ble_eq_true rfl) (by decide) (by decide) (by decide) (L_X6_dayOf hm (it_ok_b h)) (fun _ _ _ _ q => by cases q.1; rfl) ?_
    rintro _ _ S2 ⟨rfl, r3, rfl, h⟩
    show it_Ev g l 6 it_m_X6_day 0 0 19 [some (.ref 45)] [.int r3] κ S2 (it_pi κ P)
    exact ev_ret (v := some (.int _)) ⟨d_X6_day_19, _, rfl, rfl⟩ (by decide) (by decide) ⟨rfl, _, rfl, it_ok_r h⟩
  · have h := it_ok_t h hc1
    refine ev_bipush d_X6_day_10 kv_bipush_m3 ?_
    refine ev_goto (tgt := 19) d_X6_day_12 (by decide) ?_
    exact ev_ret (v := some (.int _)) ⟨d_X6_day_19, _, rfl, rfl⟩ (by decide) (by decide) ⟨rfl, _, rfl, it_ok_r h⟩
