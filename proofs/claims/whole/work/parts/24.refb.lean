theorem d_X6_iced_0 : decode prog_8_method_41_code 0 = .ok (.aload_n 0, 1) := by decide +kernel
theorem d_X6_iced_1 : decode prog_8_method_41_code 1 = .ok (.iload_n 1, 1) := by decide +kernel
theorem d_X6_iced_2 : decode prog_8_method_41_code 2 = .ok (.invokevirtual 86, 3) := by decide +kernel
theorem d_X6_iced_5 : decode prog_8_method_41_code 5 = .ok (.ifCond .ne 6, 3) := by decide +kernel
theorem d_X6_iced_8 : decode prog_8_method_41_code 8 = .ok (.bipush (-6), 2) := by decide +kernel
theorem d_X6_iced_10 : decode prog_8_method_41_code 10 = .ok (.ireturn, 1) := by decide +kernel
theorem d_X6_iced_11 : decode prog_8_method_41_code 11 = .ok (.iload_n 2, 1) := by decide +kernel
theorem d_X6_iced_12 : decode prog_8_method_41_code 12 = .ok (.iconst 0, 1) := by decide +kernel
theorem d_X6_iced_13 : decode prog_8_method_41_code 13 = .ok (.bipush 99, 2) := by decide +kernel
theorem d_X6_iced_15 : decode prog_8_method_41_code 15 = .ok (.invokestatic 78, 3) := by decide +kernel
theorem d_X6_iced_18 : decode prog_8_method_41_code 18 = .ok (.ifCond .ne 6, 3) := by decide +kernel
theorem d_X6_iced_21 : decode prog_8_method_41_code 21 = .ok (.bipush (-7), 2) := by decide +kernel
theorem d_X6_iced_23 : decode prog_8_method_41_code 23 = .ok (.ireturn, 1) := by decide +kernel
theorem d_X6_iced_24 : decode prog_8_method_41_code 24 = .ok (.aload_n 0, 1) := by decide +kernel
theorem d_X6_iced_25 : decode prog_8_method_41_code 25 = .ok (.getfield 19, 3) := by decide +kernel
theorem d_X6_iced_28 : decode prog_8_method_41_code 28 = .ok (.iconst 3, 1) := by decide +kernel
theorem d_X6_iced_29 : decode prog_8_method_41_code 29 = .ok (.iload_n 1, 1) := by decide +kernel
theorem d_X6_iced_30 : decode prog_8_method_41_code 30 = .ok (.imul, 1) := by decide +kernel
theorem d_X6_iced_31 : decode prog_8_method_41_code 31 = .ok (.iconst 2, 1) := by decide +kernel
theorem d_X6_iced_32 : decode prog_8_method_41_code 32 = .ok (.iadd, 1) := by decide +kernel
theorem d_X6_iced_33 : decode prog_8_method_41_code 33 = .ok (.aload_n 0, 1) := by decide +kernel
theorem d_X6_iced_34 : decode prog_8_method_41_code 34 = .ok (.getfield 19, 3) := by decide +kernel
theorem d_X6_iced_37 : decode prog_8_method_41_code 37 = .ok (.iconst 3, 1) := by decide +kernel
theorem d_X6_iced_38 : decode prog_8_method_41_code 38 = .ok (.iload_n 1, 1) := by decide +kernel
theorem d_X6_iced_39 : decode prog_8_method_41_code 39 = .ok (.imul, 1) := by decide +kernel
theorem d_X6_iced_40 : decode prog_8_method_41_code 40 = .ok (.iconst 2, 1) := by decide +kernel
theorem d_X6_iced_41 : decode prog_8_method_41_code 41 = .ok (.iadd, 1) := by decide +kernel
theorem d_X6_iced_42 : decode prog_8_method_41_code 42 = .ok (.iaload, 1) := by decide +kernel
theorem d_X6_iced_43 : decode prog_8_method_41_code 43 = .ok (.iload_n 2, 1) := by decide +kernel
theorem d_X6_iced_44 : decode prog_8_method_41_code 44 = .ok (.iadd, 1) := by decide +kernel
theorem d_X6_iced_45 : decode prog_8_method_41_code 45 = .ok (.iconst 0, 1) := by decide +kernel
theorem d_X6_iced_46 : decode prog_8_method_41_code 46 = .ok (.bipush 99, 2) := by decide +kernel
theorem d_X6_iced_48 : decode prog_8_method_41_code 48 = .ok (.invokestatic 82, 3) := by decide +kernel
theorem d_X6_iced_51 : decode prog_8_method_41_code 51 = .ok (.iastore, 1) := by decide +kernel
theorem d_X6_iced_52 : decode prog_8_method_41_code 52 = .ok (.aload_n 0, 1) := by decide +kernel
theorem d_X6_iced_53 : decode prog_8_method_41_code 53 = .ok (.getfield 19, 3) := by decide +kernel
theorem d_X6_iced_56 : decode prog_8_method_41_code 56 = .ok (.iconst 3, 1) := by decide +kernel
theorem d_X6_iced_57 : decode prog_8_method_41_code 57 = .ok (.iload_n 1, 1) := by decide +kernel
theorem d_X6_iced_58 : decode prog_8_method_41_code 58 = .ok (.imul, 1) := by decide +kernel
theorem d_X6_iced_59 : decode prog_8_method_41_code 59 = .ok (.iconst 2, 1) := by decide +kernel
theorem d_X6_iced_60 : decode prog_8_method_41_code 60 = .ok (.iadd, 1) := by decide +kernel
theorem d_X6_iced_61 : decode prog_8_method_41_code 61 = .ok (.iaload, 1) := by decide +kernel
theorem d_X6_iced_62 : decode prog_8_method_41_code 62 = .ok (.ireturn, 1) := by decide +kernel
def f_X6_iced (κ : it_KK) (x1 : Int32) (x2 : Int32) (S : it_SS) : Option (Int32 × it_SS) :=
it_bi (f_X6_isThere κ x1 S) (fun r2 S1 =>
if r2 = 0 then
some ((-6), S1)
else
it_bi (f_X6_in κ x2 0 99 S1) (fun r5 S4 =>
if r5 = 0 then
some ((-7), S4)
else
if it_bd ((3 * x1) + 2) 30 = true then
it_bi (f_X6_within κ ((S4 49 (((3 * x1) + 2) : Int32).toNatClampNeg) + x2) 0 99 S4) (fun r9 S8 =>
some (((it_up S8 49 (((3 * x1) + 2) : Int32).toNatClampNeg r9) 49 (((3 * x1) + 2) : Int32).toNatClampNeg), it_up S8 49 (((3 * x1) + 2) : Int32).toNatClampNeg r9))
else none))
set_option maxHeartbeats 4000000 in
set_option maxRecDepth 100000 in
theorem L_X6_iced {g : it_G} {l : Launch} {κ : it_KK} {x1 : Int32} {x2 : Int32} (hm : it_wm κ) {S : it_SS} {P : Int32 → it_SS → Prop} (h : it_ok (f_X6_iced κ x1 x2 S) P) : it_Cn g l 3 it_m_X6_iced [.ref 45, .int x1, .int x2] κ S (it_pi κ P) := by
  refine it_Cn.of (by decide +kernel) (Nat.le_of_ble_eq_true rfl) ?_
  rw [f_X6_iced] at h
  show it_Ev g l 3 it_m_X6_iced 0 0 0 [some (.ref 45), some (.int x1), some (.int x2)] [] κ S (it_pi κ P)
  refine ev_aload_n d_X6_iced_0 rfl ?_
  refine ev_iload_n d_X6_iced_1 rfl ?_
  refine ev_callV (ci := 6) (b := 45) (M' := it_m_X6_isThere) (d' := 2) (As := [.int x1]) d_X6_iced_2 ml_IcedTooSoonModel_86 hm.1.1 hm.1.2.1 ⟨_, rfl, rfl⟩ rfl rfl (Nat.le_of_ble_eq_true rfl) (by decide) (by decide) (by decide) (L_X6_isThere hm (it_ok_b h)) (fun _ _ _ _ q => by cases q.1; rfl) ?_
  rintro _ _ S1 ⟨rfl, r2, rfl, h⟩
  show it_Ev g l 3 it_m_X6_iced 0 0 5 [some (.ref 45), some (.int x1), some (.int x2)] [.int r2] κ S1 (it_pi κ P)
  refine ev_if_ne (tgt := 11) d_X6_iced_5 (by decide) (fun hc3 => ?_) (fun hc3 => ?_)
  · have h := it_ok_f h hc3
    refine ev_iload_n d_X6_iced_11 rfl ?_
    refine ev_iconst d_X6_iced_12 kv_iconst_0 ?_
    refine ev_bipush d_X6_iced_13 kv_bipush_99 ?_
    refine ev_callS (M' := it_m_X6_in) (d' := 1) (As := [.int x2, .int 0, .int 99]) d_X6_iced_15 ml_IcedTooSoonModel_78 rfl rfl (Nat.le_of_ble_eq_true rfl) (by decide) (by decide) (by decide) (L_X6_in  (it_ok_b h)) (fun _ _ _ _ q => by cases q.1; rfl) ?_
    rintro _ _ S4 ⟨rfl, r5, rfl, h⟩
    show it_Ev g l 3 it_m_X6_iced 0 0 18 [some (.ref 45), some (.int x1), some (.int x2)] [.int r5] κ S4 (it_pi κ P)
    refine ev_if_ne (tgt := 24) d_X6_iced_18 (by decide) (fun hc6 => ?_) (fun hc6 => ?_)
    · have h := it_ok_f h hc6
      refine ev_aload_n d_X6_iced_24 rfl ?_
      refine ev_getRr (r := 49) rfl d_X6_iced_25 fl_IcedTooSoonModel_19 hm.1 rfl ?_
      refine ev_iconst d_X6_iced_28 kv_iconst_3 ?_
      refine ev_iload_n d_X6_iced_29 rfl ?_
      refine ev_imul d_X6_iced_30 ?_
      refine ev_iconst d_X6_iced_31 kv_iconst_2 ?_
      refine ev_iadd d_X6_iced_32 ?_
      refine ev_aload_n d_X6_iced_33 rfl ?_
      refine ev_getRr (r := 49) rfl d_X6_iced_34 fl_IcedTooSoonModel_19 hm.1 rfl ?_
      refine ev_iconst d_X6_iced_37 kv_iconst_3 ?_
      refine ev_iload_n d_X6_iced_38 rfl ?_
      refine ev_imul d_X6_iced_39 ?_
      refine ev_iconst d_X6_iced_40 kv_iconst_2 ?_
      refine ev_iadd d_X6_iced_41 ?_
      obtain ⟨hb7, h⟩ := it_ok_g h
      refine ev_iald d_X6_iced_42 (hm).2.2.2.2.1 (it_bd_in hb7) ?_
      refine ev_iload_n d_X6_iced_43 rfl ?_
      refine ev_iadd d_X6_iced_44 ?_
      refine ev_iconst d_X6_iced_45 kv_iconst_0 ?_
      refine ev_bipush d_X6_iced_46 kv_bipush_99 ?_
      refine ev_callS (M' := it_m_X6_within) (d' := 1) (As := [.int ((S4 49 (((3 * x1) + 2) : Int32).toNatClampNeg) + x2), .int 0, .int 99]) d_X6_iced_48 ml_IcedTooSoonModel_82 rfl rfl (Nat.le_of_ble_eq_true rfl) (by decide) (by decide) (by decide) (L_X6_within  (it_ok_b h)) (fun _ _ _ _ q => by cases q.1; rfl) ?_
      rintro _ _ S8 ⟨rfl, r9, rfl, h⟩
      show it_Ev g l 3 it_m_X6_iced 0 0 51 [some (.ref 45), some (.int x1), some (.int x2)] [.int r9, .int ((3 * x1) + 2), .ref 49] κ S8 (it_pi κ P)
      refine ev_iast d_X6_iced_51 (by decide) (hm).2.2.2.2.1 (it_bd_in hb7) ?_
      refine ev_aload_n d_X6_iced_52 rfl ?_
      refine ev_getRr (r := 49) rfl d_X6_iced_53 fl_IcedTooSoonModel_19 hm.1 rfl ?_
      refine ev_iconst d_X6_iced_56 kv_iconst_3 ?_
      refine ev_iload_n d_X6_iced_57 rfl ?_
      refine ev_imul d_X6_iced_58 ?_
      refine ev_iconst d_X6_iced_59 kv_iconst_2 ?_
      refine ev_iadd d_X6_iced_60 ?_
      refine ev_iald d_X6_iced_61 (hm).2.2.2.2.1 (it_bd_in hb7) ?_
      exact ev_ret (v := some (.int _)) ⟨d_X6_iced_62, _, rfl, rfl⟩ (by decide) (by decide) ⟨rfl, _, rfl, it_ok_r h⟩
    · have h := it_ok_t h hc6
      refine ev_bipush d_X6_iced_21 kv_bipush_m7 ?_
      exact ev_ret (v := some (.int _)) ⟨d_X6_iced_23, _, rfl, rfl⟩ (by decide) (by decide) ⟨rfl, _, rfl, it_ok_r h⟩
  · have h := it_ok_t h hc3
    refine ev_bipush d_X6_iced_8 kv_bipush_m6 ?_
    exact ev_ret (v := some (.int _)) ⟨d_X6_iced_10, _, rfl, rfl⟩ (by decide) (by decide) ⟨rfl, _, rfl, it_ok_r h⟩
theorem d_X6_spill_0 : decode prog_8_method_42_code 0 = .ok (.aload_n 0, 1) := by decide +kernel
theorem d_X6_spill_1 : decode prog_8_method_42_code 1 = .ok (.iload_n 1, 1) := by decide +kernel
theorem d_X6_spill_2 : decode prog_8_method_42_code 2 = .ok (.invokevirtual 86, 3) := by decide +kernel
theorem d_X6_spill_5 : decode prog_8_method_42_code 5 = .ok (.ifCond .ne 7, 3) := by decide +kernel
theorem d_X6_spill_8 : decode prog_8_method_42_code 8 = .ok (.sipush (-6000), 3) := by decide +kernel
theorem d_X6_spill_11 : decode prog_8_method_42_code 11 = .ok (.ireturn, 1) := by decide +kernel
theorem d_X6_spill_12 : decode prog_8_method_42_code 12 = .ok (.aload_n 0, 1) := by decide +kernel
theorem d_X6_spill_13 : decode prog_8_method_42_code 13 = .ok (.getfield 19, 3) := by decide +kernel
theorem d_X6_spill_16 : decode prog_8_method_42_code 16 = .ok (.iconst 3, 1) := by decide +kernel
theorem d_X6_spill_17 : decode prog_8_method_42_code 17 = .ok (.iload_n 1, 1) := by decide +kernel
theorem d_X6_spill_18 : decode prog_8_method_42_code 18 = .ok (.imul, 1) := by decide +kernel
theorem d_X6_spill_19 : decode prog_8_method_42_code 19 = .ok (.iconst (-1), 1) := by decide +kernel
theorem d_X6_spill_20 : decode prog_8_method_42_code 20 = .ok (.iastore, 1) := by decide +kernel
theorem d_X6_spill_21 : decode prog_8_method_42_code 21 = .ok (.aload_n 0, 1) := by decide +kernel
theorem d_X6_spill_22 : decode prog_8_method_42_code 22 = .ok (.getfield 19, 3) := by decide +kernel
theorem d_X6_spill_25 : decode prog_8_method_42_code 25 = .ok (.iconst 3, 1) := by decide +kernel
theorem d_X6_spill_26 : decode prog_8_method_42_code 26 = .ok (.iload_n 1, 1) := by decide +kernel
theorem d_X6_spill_27 : decode prog_8_method_42_code 27 = .ok (.imul, 1) := by decide +kernel
theorem d_X6_spill_28 : decode prog_8_method_42_code 28 = .ok (.iconst 1, 1) := by decide +kernel
theorem d_X6_spill_29 : decode prog_8_method_42_code 29 = .ok (.iadd, 1) := by decide +kernel
theorem d_X6_spill_30 : decode prog_8_method_42_code 30 = .ok (.iaload, 1) := by decide +kernel
theorem d_X6_spill_31 : decode prog_8_method_42_code 31 = .ok (.ireturn, 1) := by decide +kernel
def f_X6_spill (κ : it_KK) (x1 : Int32) (S : it_SS) : Option (Int32 × it_SS) :=
it_bi (f_X6_isThere κ x1 S) (fun r2 S1 =>
if r2 = 0 then
some ((-6000), S1)
else
if it_bd (3 * x1) 30 = true then
if it_bd ((3 * x1) + 1) 30 = true then
some (((it_up S1 49 ((3 * x1) : Int32).toNatClampNeg (-1)) 49 (((3 * x1) + 1) : Int32).toNatClampNeg), it_up S1 49 ((3 * x1) : Int32).toNatClampNeg (-1))
else none
else none)
set_option maxHeartbeats 4000000 in
set_option maxRecDepth 100000 in
theorem L_X6_spill {g : it_G} {l : Launch} {κ : it_KK} {x1 : Int32} (hm : it_wm κ) {S : it_SS} {P : Int32 → it_SS → Prop} (h : it_ok (f_X6_spill κ x1 S) P) : it_Cn g l 3 it_m_X6_spill [.ref 45, .int x1] κ S (it_pi κ P) := by
  refine it_Cn.of (by decide +kernel) (Nat.le_of_ble_eq_true rfl) ?_
  rw [f_X6_spill] at h
  show it_Ev g l 3 it_m_X6_spill 0 0 0 [some (.ref 45), some (.int x1)] [] κ S (it_pi κ P)
  refine ev_aload_n d_X6_spill_0 rfl ?_
  refine ev_iload_n d_X6_spill_1 rfl ?_
  refine ev_callV (ci := 6) (b := 45) (M' := it_m_X6_isThere) (d' := 2) (As := [.int x1]) d_X6_spill_2 ml_IcedTooSoonModel_86 hm.1.1 hm.1.2.1 ⟨_, rfl, rfl⟩ rfl rfl (Nat.le_of_ble_eq_true rfl) (by decide) (by decide) (by decide) (L_X6_isThere hm (it_ok_b h)) (fun _ _ _ _ q => by cases q.1; rfl) ?_
  rintro _ _ S1 ⟨rfl, r2, rfl, h⟩
  show it_Ev g l 3 it_m_X6_spill 0 0 5 [some (.ref 45), some (.int x1)] [.int r2] κ S1 (it_pi κ P)
  refine ev_if_ne (tgt := 12) d_X6_spill_5 (by decide) (fun hc3 => ?_) (fun hc3 => ?_)
  · have h := it_ok_f h hc3
    refine ev_aload_n d_X6_spill_12 rfl ?_
    refine ev_getRr (r := 49) rfl d_X6_spill_13 fl_IcedTooSoonModel_19 hm.1 rfl ?_
    refine ev_iconst d_X6_spill_16 kv_iconst_3 ?_
    refine ev_iload_n d_X6_spill_17 rfl ?_
    refine ev_imul d_X6_spill_18 ?_
    refine ev_iconst d_X6_spill_19 kv_iconst_m1 ?_
    obtain ⟨hb4, h⟩ := it_ok_g h
    refine ev_iast d_X6_spill_20 (by decide) (hm).2.2.2.2.1 (it_bd_in hb4) ?_
    refine ev_aload_n d_X6_spill_21 rfl ?_
    refine ev_getRr (r := 49) rfl d_X6_spill_22 fl_IcedTooSoonModel_19 hm.1 rfl ?_
    refine ev_iconst d_X6_spill_25 kv_iconst_3 ?_
    refine ev_iload_n d_X6_spill_26 rfl ?_
    refine ev_imul d_X6_spill_27 ?_
    refine ev_iconst d_X6_spill_28 kv_iconst_1 ?_
    refine ev_iadd d_X6_spill_29 ?_
    obtain ⟨hb5, h⟩ := it_ok_g h
    refine ev_iald d_X6_spill_30 (hm).2.2.2.2.1 (it_bd_in hb5) ?_
    exact ev_ret (v := some (.int _)) ⟨d_X6_spill_31, _, rfl, rfl⟩ (by decide) (by decide) ⟨rfl, _, rfl, it_ok_r h⟩
  · have h := it_ok_t h hc3
    refine ev_sipush d_X6_spill_8 kv_sipush_m6000 ?_
    exact ev_ret (v := some (.int _)) ⟨d_X6_spill_11, _, rfl, rfl⟩ (by decide) (by decide) ⟨rfl, _, rfl, it_ok_r h⟩
theorem d_X6_goes_0 : decode prog_8_method_45_code 0 = .ok (.iconst 0, 1) := by decide +kernel
theorem d_X6_goes_1 : decode prog_8_method_45_code 1 = .ok (.istore_n 2, 1) := by decide +kernel
theorem d_X6_goes_2 : decode prog_8_method_45_code 2 = .ok (.iload_n 2, 1) := by decide +kernel
theorem d_X6_goes_3 : decode prog_8_method_45_code 3 = .ok (.iload_n 1, 1) := by decide +kernel
theorem d_X6_goes_4 : decode prog_8_method_45_code 4 = .ok (.if_icmp .ge 14, 3) := by decide +kernel
theorem d_X6_goes_7 : decode prog_8_method_45_code 7 = .ok (.aload_n 0, 1) := by decide +kernel
theorem d_X6_goes_8 : decode prog_8_method_45_code 8 = .ok (.invokevirtual 191, 3) := by decide +kernel
theorem d_X6_goes_11 : decode prog_8_method_45_code 11 = .ok (.pop, 1) := by decide +kernel
theorem d_X6_goes_12 : decode prog_8_method_45_code 12 = .ok (.iinc 2 1, 3) := by decide +kernel
theorem d_X6_goes_15 : decode prog_8_method_45_code 15 = .ok (.goto (-13), 3) := by decide +kernel
theorem d_X6_goes_18 : decode prog_8_method_45_code 18 = .ok (.return_, 1) := by decide +kernel
def lp_X6_goes_2 (κ : it_KK) (x1 : Int32) (k2 : (it_SS → Option (Unit × it_SS))) : Nat → Int32 → it_SS → Option (Unit × it_SS)
  | 0, _, _ => none
  | n2 + 1, v2, S => if x1 ≤ v2 then
k2  S
else
it_bi (f_X6_dayOf κ  S) (fun r3 S2 =>
lp_X6_goes_2 κ x1 k2 n2 (v2 + 1) S2)
def f_X6_goes (κ : it_KK) (x1 : Int32) (S : it_SS) : Option (Unit × it_SS) :=
lp_X6_goes_2 κ x1 (fun  S4 =>
some ((), S4)) it_FU 0 S
set_option maxHeartbeats 4000000 in
set_option maxRecDepth 100000 in
theorem Llp_X6_goes_2 {g : it_G} {l : Launch} {κ : it_KK} {x1 : Int32} (hm : it_wm κ) {P : Unit → it_SS → Prop} {k2 : (it_SS → Option (Unit × it_SS))} (hk2 : ∀  (S : it_SS), it_ok (k2  S) P → it_Ev g l 6 it_m_X6_goes 0 0 18 [none, none, none] [] κ S (it_pv κ P)) : ∀ (n : Nat) (v2 : Int32) (S : it_SS), it_ok (lp_X6_goes_2 κ x1 k2 n v2 S) P → it_Ev g l 6 it_m_X6_goes 0 0 2 [some (.ref 45), some (.int x1), some (.int v2)] [] κ S (it_pv κ P) := by
  intro n
  induction n with
  | zero =>
    intro _ _ h
    exact (it_ok_n h).elim
  | succ n2 ih2 =>
    intro v2 S h
    rw [lp_X6_goes_2] at h
    refine ev_iload_n d_X6_goes_2 rfl ?_
    refine ev_iload_n d_X6_goes_3 rfl ?_
    refine ev_icmp_ge (tgt := 18) d_X6_goes_4 (by decide) (fun hc1 => ?_) (fun hc1 => ?_)
    · have h := it_ok_t h hc1
      refine ev_keep [false, false, false] ?_
      exact hk2  _ h
    · have h := it_ok_f h hc1
      refine ev_aload_n d_X6_goes_7 rfl ?_
      refine ev_callV (ci := 6) (b := 45) (M' := it_m_X6_dayOf) (d' := 5) (As := []) d_X6_goes_8 ml_IcedTooSoonModel_191 hm.1.1 hm.1.2.1 ⟨_, rfl, rfl⟩ rfl rfl (Nat.le_of_ble_eq_true rfl) (by decide) (by decide) (by decide) (L_X6_dayOf hm (it_ok_b h)) (fun _ _ _ _ q => by cases q.1; rfl) ?_
      rintro _ _ S2 ⟨rfl, r3, rfl, h⟩
      show it_Ev g l 6 it_m_X6_goes 0 0 11 [some (.ref 45), some (.int x1), some (.int v2)] [.int r3] κ S2 (it_pv κ P)
      refine ev_pop d_X6_goes_11 rfl ?_
      refine ev_iinc d_X6_goes_12 kv_iconst_1 rfl (by decide) ?_
      show it_Ev g l 6 it_m_X6_goes 0 0 15 [some (.ref 45), some (.int x1), some (.int (v2 + 1))] [] κ S2 (it_pv κ P)
      refine ev_goto (tgt := 2) d_X6_goes_15 (by decide) ?_
      refine ev_keep [true, true, true] ?_
      exact ih2 _ _ h
set_option maxHeartbeats 4000000 in
set_option maxRecDepth 100000 in
theorem L_X6_goes {g : it_G} {l : Launch} {κ : it_KK} {x1 : Int32} (hm : it_wm κ) {S : it_SS} {P : Unit → it_SS → Prop} (h : it_ok (f_X6_goes κ x1 S) P) : it_Cn g l 6 it_m_X6_goes [.ref 45, .int x1] κ S (it_pv κ P) := by
  refine it_Cn.of (by decide +kernel) (Nat.le_of_ble_eq_true rfl) ?_
  rw [f_X6_goes] at h
  show it_Ev g l 6 it_m_X6_goes 0 0 0 [some (.ref 45), some (.int x1), none] [] κ S (it_pv κ P)
  refine ev_iconst d_X6_goes_0 kv_iconst_0 ?_
  refine ev_istore_n d_X6_goes_1 (by decide) ?_
  show it_Ev g l 6 it_m_X6_goes 0 0 2 [some (.ref 45), some (.int x1), some (.int 0)] [] κ S (it_pv κ P)
  refine ev_keep [true, true, true] ?_
  refine Llp_X6_goes_2 hm (fun  S4 h => ?_) _ _ _ h
  show it_Ev g l 6 it_m_X6_goes 0 0 18 [none, none, none] [] κ S4 (it_pv κ P)
  exact ev_ret (v := none) ⟨d_X6_goes_18, rfl⟩ (by decide) (by decide) ⟨rfl, rfl, it_ok_r h⟩
theorem d_X6_toldBehind_0 : decode prog_8_method_47_code 0 = .ok (.iload_n 1, 1) := by decide +kernel
theorem d_X6_toldBehind_1 : decode prog_8_method_47_code 1 = .ok (.lookupswitch 37 #[(0, 27), (1, 32)], 27) := by decide +kernel
theorem d_X6_toldBehind_28 : decode prog_8_method_47_code 28 = .ok (.aload_n 0, 1) := by decide +kernel
theorem d_X6_toldBehind_29 : decode prog_8_method_47_code 29 = .ok (.invokevirtual 90, 3) := by decide +kernel
theorem d_X6_toldBehind_32 : decode prog_8_method_47_code 32 = .ok (.ireturn, 1) := by decide +kernel
theorem d_X6_toldBehind_33 : decode prog_8_method_47_code 33 = .ok (.aload_n 0, 1) := by decide +kernel
theorem d_X6_toldBehind_34 : decode prog_8_method_47_code 34 = .ok (.invokevirtual 200, 3) := by decide +kernel
theorem d_X6_toldBehind_37 : decode prog_8_method_47_code 37 = .ok (.ireturn, 1) := by decide +kernel
theorem d_X6_toldBehind_38 : decode prog_8_method_47_code 38 = .ok (.iload_n 1, 1) := by decide +kernel
theorem d_X6_toldBehind_39 : decode prog_8_method_47_code 39 = .ok (.bipush 20, 2) := by decide +kernel
theorem d_X6_toldBehind_41 : decode prog_8_method_47_code 41 = .ok (.if_icmp .ge 17, 3) := by decide +kernel
theorem d_X6_toldBehind_44 : decode prog_8_method_47_code 44 = .ok (.aload_n 0, 1) := by decide +kernel
theorem d_X6_toldBehind_45 : decode prog_8_method_47_code 45 = .ok (.getfield 16, 3) := by decide +kernel
theorem d_X6_toldBehind_48 : decode prog_8_method_47_code 48 = .ok (.iconst 2, 1) := by decide +kernel
theorem d_X6_toldBehind_49 : decode prog_8_method_47_code 49 = .ok (.iload_n 1, 1) := by decide +kernel
theorem d_X6_toldBehind_50 : decode prog_8_method_47_code 50 = .ok (.bipush 10, 2) := by decide +kernel
theorem d_X6_toldBehind_52 : decode prog_8_method_47_code 52 = .ok (.isub, 1) := by decide +kernel
theorem d_X6_toldBehind_53 : decode prog_8_method_47_code 53 = .ok (.imul, 1) := by decide +kernel
theorem d_X6_toldBehind_54 : decode prog_8_method_47_code 54 = .ok (.iaload, 1) := by decide +kernel
theorem d_X6_toldBehind_55 : decode prog_8_method_47_code 55 = .ok (.goto 16, 3) := by decide +kernel
theorem d_X6_toldBehind_58 : decode prog_8_method_47_code 58 = .ok (.aload_n 0, 1) := by decide +kernel
theorem d_X6_toldBehind_59 : decode prog_8_method_47_code 59 = .ok (.getfield 16, 3) := by decide +kernel
theorem d_X6_toldBehind_62 : decode prog_8_method_47_code 62 = .ok (.iconst 2, 1) := by decide +kernel
theorem d_X6_toldBehind_63 : decode prog_8_method_47_code 63 = .ok (.iload_n 1, 1) := by decide +kernel
theorem d_X6_toldBehind_64 : decode prog_8_method_47_code 64 = .ok (.bipush 20, 2) := by decide +kernel
theorem d_X6_toldBehind_66 : decode prog_8_method_47_code 66 = .ok (.isub, 1) := by decide +kernel
theorem d_X6_toldBehind_67 : decode prog_8_method_47_code 67 = .ok (.imul, 1) := by decide +kernel
theorem d_X6_toldBehind_68 : decode prog_8_method_47_code 68 = .ok (.iconst 1, 1) := by decide +kernel
theorem d_X6_toldBehind_69 : decode prog_8_method_47_code 69 = .ok (.iadd, 1) := by decide +kernel
theorem d_X6_toldBehind_70 : decode prog_8_method_47_code 70 = .ok (.iaload, 1) := by decide +kernel
theorem d_X6_toldBehind_71 : decode prog_8_method_47_code 71 = .ok (.ireturn, 1) := by decide +kernel
def f_X6_toldBehind (κ : it_KK) (x1 : Int32) (S : it_SS) : Option (Int32 × it_SS) :=
if x1 = 0 then
it_bi (f_X6_many κ  S) (fun r3 S2 =>
some (r3, S2))
else if x1 = 1 then
it_bi (f_X6_moodAll κ  S) (fun r6 S5 =>
some (r6, S5))
else 
if 20 ≤ x1 then
if it_bd ((2 * (x1 - 20)) + 1) 12 = true then
some ((S 48 (((2 * (x1 - 20)) + 1) : Int32).toNatClampNeg), S)
else none
else
if it_bd (2 * (x1 - 10)) 12 = true then
some ((S 48 ((2 * (x1 - 10)) : Int32).toNatClampNeg), S)
else none
set_option maxHeartbeats 4000000 in
set_option maxRecDepth 100000 in
theorem L_X6_toldBehind {g : it_G} {l : Launch} {κ : it_KK} {x1 : Int32} (hm : it_wm κ) {S : it_SS} {P : Int32 → it_SS → Prop} (h : it_ok (f_X6_toldBehind κ x1 S) P) : it_Cn g l 4 it_m_X6_toldBehind [.ref 45, .int x1] κ S (it_pi κ P) := by
  refine it_Cn.of (by decide +kernel) (Nat.le_of_ble_eq_true rfl) ?_
  rw [f_X6_toldBehind] at h
  show it_Ev g l 4 it_m_X6_toldBehind 0 0 0 [some (.ref 45), some (.int x1)] [] κ S (it_pi κ P)
  refine ev_iload_n d_X6_toldBehind_0 rfl ?_
  rcases Classical.em (x1 = 0) with hc1 | hc1
  · have h := it_ok_t h hc1
    refine ev_lookup (off := 27) (tgt := 28) d_X6_toldBehind_1 (by decide) (by rw [hc1]; decide) (by decide) ?_
    refine ev_aload_n d_X6_toldBehind_28 rfl ?_
    refine ev_callV (ci := 6) (b := 45) (M' := it_m_X6_many) (d' := 3) (As := []) d_X6_toldBehind_29 ml_IcedTooSoonModel_90 hm.1.1 hm.1.2.1 ⟨_, rfl, rfl⟩ rfl rfl (Nat.le_of_ble_eq_true rfl) (by decide) (by decide) (by decide) (L_X6_many hm (it_ok_b h)) (fun _ _ _ _ q => by cases q.1; rfl) ?_
    rintro _ _ S2 ⟨rfl, r3, rfl, h⟩
    show it_Ev g l 4 it_m_X6_toldBehind 0 0 32 [some (.ref 45), some (.int x1)] [.int r3] κ S2 (it_pi κ P)
    exact ev_ret (v := some (.int _)) ⟨d_X6_toldBehind_32, _, rfl, rfl⟩ (by decide) (by decide) ⟨rfl, _, rfl, it_ok_r h⟩
  · have h := it_ok_f h hc1
    rcases Classical.em (x1 = 1) with hc4 | hc4
    · have h := it_ok_t h hc4
      refine ev_lookup (off := 32) (tgt := 33) d_X6_toldBehind_1 (by decide) (by rw [hc4]; decide) (by decide) ?_
      refine ev_aload_n d_X6_toldBehind_33 rfl ?_
      refine ev_callV (ci := 6) (b := 45) (M' := it_m_X6_moodAll) (d' := 1) (As := []) d_X6_toldBehind_34 ml_IcedTooSoonModel_200 hm.1.1 hm.1.2.1 ⟨_, rfl, rfl⟩ rfl rfl (Nat.le_of_ble_eq_true rfl) (by decide) (by decide) (by decide) (L_X6_moodAll hm (it_ok_b h)) (fun _ _ _ _ q => by cases q.1; rfl) ?_
      rintro _ _ S5 ⟨rfl, r6, rfl, h⟩
      show it_Ev g l 4 it_m_X6_toldBehind 0 0 37 [some (.ref 45), some (.int x1)] [.int r6] κ S5 (it_pi κ P)
      exact ev_ret (v := some (.int _)) ⟨d_X6_toldBehind_37, _, rfl, rfl⟩ (by decide) (by decide) ⟨rfl, _, rfl, it_ok_r h⟩
    · have h := it_ok_f h hc4
      refine ev_lookup (off := 37) (tgt := 38) d_X6_toldBehind_1 (by decide) (by show Op.lookupswitch.offset [(0, 27), (1, 32)] 37 _ = 37; rw [lv_osw hc1 (by decide), lv_osw hc4 (by decide)]; rfl) (by decide) ?_
      refine ev_iload_n d_X6_toldBehind_38 rfl ?_
      refine ev_bipush d_X6_toldBehind_39 kv_bipush_20 ?_
      refine ev_icmp_ge (tgt := 58) d_X6_toldBehind_41 (by decide) (fun hc7 => ?_) (fun hc7 => ?_)
      · have h := it_ok_t h hc7
        refine ev_aload_n d_X6_toldBehind_58 rfl ?_
        refine ev_getRr (r := 48) rfl d_X6_toldBehind_59 fl_IcedTooSoonModel_16 hm.1 rfl ?_
        refine ev_iconst d_X6_toldBehind_62 kv_iconst_2 ?_
        refine ev_iload_n d_X6_toldBehind_63 rfl ?_
        refine ev_bipush d_X6_toldBehind_64 kv_bipush_20 ?_
        refine ev_isub d_X6_toldBehind_66 ?_
        refine ev_imul d_X6_toldBehind_67 ?_
        refine ev_iconst d_X6_toldBehind_68 kv_iconst_1 ?_
        refine ev_iadd d_X6_toldBehind_69 ?_
        obtain ⟨hb8, h⟩ := it_ok_g h
        refine ev_iald d_X6_toldBehind_70 (hm).2.2.2.1 (it_bd_in hb8) ?_
        exact ev_ret (v := some (.int _)) ⟨d_X6_toldBehind_71, _, rfl, rfl⟩ (by decide) (by decide) ⟨rfl, _, rfl, it_ok_r h⟩
      · have h := it_ok_f h hc7
        refine ev_aload_n d_X6_toldBehind_44 rfl ?_
        refine ev_getRr (r := 48) rfl d_X6_toldBehind_45 fl_IcedTooSoonModel_16 hm.1 rfl ?_
        refine ev_iconst d_X6_toldBehind_48 kv_iconst_2 ?_
        refine ev_iload_n d_X6_toldBehind_49 rfl ?_
        refine ev_bipush d_X6_toldBehind_50 kv_bipush_10 ?_
        refine ev_isub d_X6_toldBehind_52 ?_
        refine ev_imul d_X6_toldBehind_53 ?_
        obtain ⟨hb9, h⟩ := it_ok_g h
        refine ev_iald d_X6_toldBehind_54 (hm).2.2.2.1 (it_bd_in hb9) ?_
        refine ev_goto (tgt := 71) d_X6_toldBehind_55 (by decide) ?_
        exact ev_ret (v := some (.int _)) ⟨d_X6_toldBehind_71, _, rfl, rfl⟩ (by decide) (by decide) ⟨rfl, _, rfl, it_ok_r h⟩
theorem d_X6_run_0 : decode prog_8_method_48_code 0 = .ok (.iload_n 2, 1) := by decide +kernel
theorem d_X6_run_1 : decode prog_8_method_48_code 1 = .ok (.iconst 0, 1) := by decide +kernel
theorem d_X6_run_2 : decode prog_8_method_48_code 2 = .ok (.iconst 1, 1) := by decide +kernel
theorem d_X6_run_3 : decode prog_8_method_48_code 3 = .ok (.invokestatic 78, 3) := by decide +kernel
theorem d_X6_run_6 : decode prog_8_method_48_code 6 = .ok (.ifCond .ne 35, 3) := by decide +kernel
theorem d_X6_run_9 : decode prog_8_method_48_code 9 = .ok (.iload_n 2, 1) := by decide +kernel
theorem d_X6_run_10 : decode prog_8_method_48_code 10 = .ok (.bipush 10, 2) := by decide +kernel
theorem d_X6_run_12 : decode prog_8_method_48_code 12 = .ok (.bipush 9, 2) := by decide +kernel
theorem d_X6_run_14 : decode prog_8_method_48_code 14 = .ok (.aload_n 0, 1) := by decide +kernel
theorem d_X6_run_15 : decode prog_8_method_48_code 15 = .ok (.getfield 75, 3) := by decide +kernel
theorem d_X6_run_18 : decode prog_8_method_48_code 18 = .ok (.iadd, 1) := by decide +kernel
theorem d_X6_run_19 : decode prog_8_method_48_code 19 = .ok (.invokestatic 78, 3) := by decide +kernel
theorem d_X6_run_22 : decode prog_8_method_48_code 22 = .ok (.ifCond .ne 19, 3) := by decide +kernel
theorem d_X6_run_25 : decode prog_8_method_48_code 25 = .ok (.iload_n 2, 1) := by decide +kernel
theorem d_X6_run_26 : decode prog_8_method_48_code 26 = .ok (.bipush 20, 2) := by decide +kernel
theorem d_X6_run_28 : decode prog_8_method_48_code 28 = .ok (.bipush 19, 2) := by decide +kernel
theorem d_X6_run_30 : decode prog_8_method_48_code 30 = .ok (.aload_n 0, 1) := by decide +kernel
theorem d_X6_run_31 : decode prog_8_method_48_code 31 = .ok (.getfield 75, 3) := by decide +kernel
theorem d_X6_run_34 : decode prog_8_method_48_code 34 = .ok (.iadd, 1) := by decide +kernel
theorem d_X6_run_35 : decode prog_8_method_48_code 35 = .ok (.invokestatic 78, 3) := by decide +kernel
theorem d_X6_run_38 : decode prog_8_method_48_code 38 = .ok (.ifCond .eq 7, 3) := by decide +kernel
theorem d_X6_run_41 : decode prog_8_method_48_code 41 = .ok (.iconst 1, 1) := by decide +kernel
theorem d_X6_run_42 : decode prog_8_method_48_code 42 = .ok (.goto 4, 3) := by decide +kernel
theorem d_X6_run_45 : decode prog_8_method_48_code 45 = .ok (.iconst 0, 1) := by decide +kernel
theorem d_X6_run_46 : decode prog_8_method_48_code 46 = .ok (.istore_n 3, 1) := by decide +kernel
theorem d_X6_run_47 : decode prog_8_method_48_code 47 = .ok (.iload_n 1, 1) := by decide +kernel
theorem d_X6_run_48 : decode prog_8_method_48_code 48 = .ok (.iconst 0, 1) := by decide +kernel
theorem d_X6_run_49 : decode prog_8_method_48_code 49 = .ok (.bipush 40, 2) := by decide +kernel
theorem d_X6_run_51 : decode prog_8_method_48_code 51 = .ok (.invokestatic 78, 3) := by decide +kernel
theorem d_X6_run_54 : decode prog_8_method_48_code 54 = .ok (.ifCond .eq 7, 3) := by decide +kernel
theorem d_X6_run_57 : decode prog_8_method_48_code 57 = .ok (.iload_n 3, 1) := by decide +kernel
theorem d_X6_run_58 : decode prog_8_method_48_code 58 = .ok (.ifCond .ne 6, 3) := by decide +kernel
theorem d_X6_run_61 : decode prog_8_method_48_code 61 = .ok (.ldc 203, 2) := by decide +kernel
theorem d_X6_run_63 : decode prog_8_method_48_code 63 = .ok (.ireturn, 1) := by decide +kernel
theorem d_X6_run_64 : decode prog_8_method_48_code 64 = .ok (.aload_n 0, 1) := by decide +kernel
theorem d_X6_run_65 : decode prog_8_method_48_code 65 = .ok (.invokevirtual 194, 3) := by decide +kernel
theorem d_X6_run_68 : decode prog_8_method_48_code 68 = .ok (.aload_n 0, 1) := by decide +kernel
theorem d_X6_run_69 : decode prog_8_method_48_code 69 = .ok (.iload_n 1, 1) := by decide +kernel
theorem d_X6_run_70 : decode prog_8_method_48_code 70 = .ok (.invokevirtual 204, 3) := by decide +kernel
theorem d_X6_run_73 : decode prog_8_method_48_code 73 = .ok (.aload_n 0, 1) := by decide +kernel
theorem d_X6_run_74 : decode prog_8_method_48_code 74 = .ok (.iload_n 2, 1) := by decide +kernel
theorem d_X6_run_75 : decode prog_8_method_48_code 75 = .ok (.invokevirtual 207, 3) := by decide +kernel
theorem d_X6_run_78 : decode prog_8_method_48_code 78 = .ok (.istore 4, 2) := by decide +kernel
theorem d_X6_run_80 : decode prog_8_method_48_code 80 = .ok (.aload_n 0, 1) := by decide +kernel
theorem d_X6_run_81 : decode prog_8_method_48_code 81 = .ok (.invokevirtual 197, 3) := by decide +kernel
theorem d_X6_run_84 : decode prog_8_method_48_code 84 = .ok (.iload 4, 2) := by decide +kernel
theorem d_X6_run_86 : decode prog_8_method_48_code 86 = .ok (.ireturn, 1) := by decide +kernel
def f_X6_run (κ : it_KK) (x1 : Int32) (x2 : Int32) (S : it_SS) : Option (Int32 × it_SS) :=
it_bi (f_X6_in κ x2 0 1 S) (fun r2 S1 =>
if r2 = 0 then
it_bi (f_X6_in κ x2 10 (9 + (S1 45 0)) S1) (fun r16 S15 =>
if r16 = 0 then
it_bi (f_X6_in κ x2 20 (19 + (S15 45 0)) S15) (fun r30 S29 =>
if r30 = 0 then
it_bi (f_X6_in κ x1 0 40 S29) (fun r33 S32 =>
if r33 = 0 then
some ((-100000), S32)
else
some ((-100000), S32))
else
it_bi (f_X6_in κ x1 0 40 S29) (fun r36 S35 =>
if r36 = 0 then
some ((-100000), S35)
else
it_bi (f_X6_keeps κ  S35) (fun _ S38 =>
it_bi (f_X6_goes κ x1 S38) (fun _ S40 =>
it_bi (f_X6_toldBehind κ x2 S40) (fun r43 S42 =>
it_bi (f_X6_lays κ  S42) (fun _ S44 =>
some (r43, S44)))))))
else
it_bi (f_X6_in κ x1 0 40 S15) (fun r19 S18 =>
if r19 = 0 then
some ((-100000), S18)
else
it_bi (f_X6_keeps κ  S18) (fun _ S21 =>
it_bi (f_X6_goes κ x1 S21) (fun _ S23 =>
it_bi (f_X6_toldBehind κ x2 S23) (fun r26 S25 =>
it_bi (f_X6_lays κ  S25) (fun _ S27 =>
some (r26, S27)))))))
else
it_bi (f_X6_in κ x1 0 40 S1) (fun r5 S4 =>
if r5 = 0 then
some ((-100000), S4)
else
it_bi (f_X6_keeps κ  S4) (fun _ S7 =>
it_bi (f_X6_goes κ x1 S7) (fun _ S9 =>
it_bi (f_X6_toldBehind κ x2 S9) (fun r12 S11 =>
it_bi (f_X6_lays κ  S11) (fun _ S13 =>
some (r12, S13)))))))
set_option maxHeartbeats 4000000 in
set_option maxRecDepth 100000 in
theorem L_X6_run {g : it_G} {l : Launch} {κ : it_KK} {x1 : Int32} {x2 : Int32} (hm : it_wm κ) {S : it_SS} {P : Int32 → it_SS → Prop} (h : it_ok (f_X6_run κ x1 x2 S) P) : it_Cn g l 7 it_m_X6_run [.ref 45, .int x1, .int x2] κ S (it_pi κ P) := by
  refine it_Cn.of (by decide +kernel) (Nat.le_of_ble_eq_true rfl) ?_
  rw [f_X6_run] at h
  show it_Ev g l 7 it_m_X6_run 0 0 0 [some (.ref 45), some (.int x1), some (.int x2), none, none] [] κ S (it_pi κ P)
  refine ev_iload_n d_X6_run_0 rfl ?_
  refine ev_iconst d_X6_run_1 kv_iconst_0 ?_
  refine ev_iconst d_X6_run_2 kv_iconst_1 ?_
  refine ev_callS (M' := it_m_X6_in) (d' := 1) (As := [.int x2, .int 0, .int 1]) d_X6_run_3 ml_IcedTooSoonModel_78 rfl rfl (Nat.le_of_ble_eq_true rfl) (by decide) (by decide) (by decide) (L_X6_in  (it_ok_b h)) (fun _ _ _ _ q => by cases q.1; rfl) ?_
  rintro _ _ S1 ⟨rfl, r2, rfl, h⟩
  show it_Ev g l 7 it_m_X6_run 0 0 6 [some (.ref 45), some (.int x1), some (.int x2), none, none] [.int r2] κ S1 (it_pi κ P)
  refine ev_if_ne (tgt := 41) d_X6_run_6 (by decide) (fun hc3 => ?_) (fun hc3 => ?_)
  · have h := it_ok_f h hc3
    refine ev_iconst d_X6_run_41 kv_iconst_1 ?_
    refine ev_goto (tgt := 46) d_X6_run_42 (by decide) ?_
    refine ev_istore_n d_X6_run_46 (by decide) ?_
    show it_Ev g l 7 it_m_X6_run 0 0 47 [some (.ref 45), some (.int x1), some (.int x2), some (.int 1), none] [] κ S1 (it_pi κ P)
    refine ev_iload_n d_X6_run_47 rfl ?_
    refine ev_iconst d_X6_run_48 kv_iconst_0 ?_
    refine ev_bipush d_X6_run_49 kv_bipush_40 ?_
    refine ev_callS (M' := it_m_X6_in) (d' := 1) (As := [.int x1, .int 0, .int 40]) d_X6_run_51 ml_IcedTooSoonModel_78 rfl rfl (Nat.le_of_ble_eq_true rfl) (by decide) (by decide) (by decide) (L_X6_in  (it_ok_b h)) (fun _ _ _ _ q => by cases q.1; rfl) ?_
    rintro _ _ S4 ⟨rfl, r5, rfl, h⟩
    show it_Ev g l 7 it_m_X6_run 0 0 54 [some (.ref 45), some (.int x1), some (.int x2), some (.int 1), none] [.int r5] κ S4 (it_pi κ P)
    refine ev_if_eq (tgt := 61) d_X6_run_54 (by decide) (fun hc6 => ?_) (fun hc6 => ?_)
    · have h := it_ok_t h hc6
      refine ev_ldc d_X6_run_61 kn_IcedTooSoonModel_203 ?_
      exact ev_ret (v := some (.int _)) ⟨d_X6_run_63, _, rfl, rfl⟩ (by decide) (by decide) ⟨rfl, _, rfl, it_ok_r h⟩
    · have h := it_ok_f h hc6
      refine ev_iload_n d_X6_run_57 rfl ?_
      refine ev_if_ne (tgt := 64) d_X6_run_58 (by decide) (fun _ => ?_) (fun hc => absurd hc (by decide))
      refine ev_aload_n d_X6_run_64 rfl ?_
      refine ev_callV (ci := 6) (b := 45) (M' := it_m_X6_keeps) (d' := 1) (As := []) d_X6_run_65 ml_IcedTooSoonModel_194 hm.1.1 hm.1.2.1 ⟨_, rfl, rfl⟩ rfl rfl (Nat.le_of_ble_eq_true rfl) (by decide) (by decide) (by decide) (L_X6_keeps hm (it_ok_b h)) (fun _ _ _ _ q => by cases q.1; rfl) ?_
      rintro _ _ S7 ⟨rfl, rfl, h⟩
      show it_Ev g l 7 it_m_X6_run 0 0 68 [some (.ref 45), some (.int x1), some (.int x2), some (.int 1), none] [] κ S7 (it_pi κ P)
      refine ev_aload_n d_X6_run_68 rfl ?_
      refine ev_iload_n d_X6_run_69 rfl ?_
      refine ev_callV (ci := 6) (b := 45) (M' := it_m_X6_goes) (d' := 6) (As := [.int x1]) d_X6_run_70 ml_IcedTooSoonModel_204 hm.1.1 hm.1.2.1 ⟨_, rfl, rfl⟩ rfl rfl (Nat.le_of_ble_eq_true rfl) (by decide) (by decide) (by decide) (L_X6_goes hm (it_ok_b h)) (fun _ _ _ _ q => by cases q.1; rfl) ?_
      rintro _ _ S9 ⟨rfl, rfl, h⟩
      show it_Ev g l 7 it_m_X6_run 0 0 73 [some (.ref 45), some (.int x1), some (.int x2), some (.int 1), none] [] κ S9 (it_pi κ P)
      refine ev_aload_n d_X6_run_73 rfl ?_
      refine ev_iload_n d_X6_run_74 rfl ?_
      refine ev_callV (ci := 6) (b := 45) (M' := it_m_X6_toldBehind) (d' := 4) (As := [.int x2]) d_X6_run_75 ml_IcedTooSoonModel_207 hm.1.1 hm.1.2.1 ⟨_, rfl, rfl⟩ rfl rfl (Nat.le_of_ble_eq_true rfl) (by decide) (by decide) (by decide) (L_X6_toldBehind hm (it_ok_b h)) (fun _ _ _ _ q => by cases q.1; rfl) ?_
      rintro _ _ S11 ⟨rfl, r12, rfl, h⟩
      show it_Ev g l 7 it_m_X6_run 0 0 78 [some (.ref 45), some (.int x1), some (.int x2), some (.int 1), none] [.int r12] κ S11 (it_pi κ P)
      refine ev_istore d_X6_run_78 (by decide) ?_
      show it_Ev g l 7 it_m_X6_run 0 0 80 [some (.ref 45), some (.int x1), some (.int x2), some (.int 1), some (.int r12)] [] κ S11 (it_pi κ P)
      refine ev_aload_n d_X6_run_80 rfl ?_
      refine ev_callV (ci := 6) (b := 45) (M' := it_m_X6_lays) (d' := 1) (As := []) d_X6_run_81 ml_IcedTooSoonModel_197 hm.1.1 hm.1.2.1 ⟨_, rfl, rfl⟩ rfl rfl (Nat.le_of_ble_eq_true rfl) (by decide) (by decide) (by decide) (L_X6_lays hm (it_ok_b h)) (fun _ _ _ _ q => by cases q.1; rfl) ?_
      rintro _ _ S13 ⟨rfl, rfl, h⟩
      show it_Ev g l 7 it_m_X6_run 0 0 84 [some (.ref 45), some (.int x1), some (.int x2), some (.int 1), some (.int r12)] [] κ S13 (it_pi κ P)
      refine ev_iload d_X6_run_84 rfl ?_
      exact ev_ret (v := some (.int _)) ⟨d_X6_run_86, _, rfl, rfl⟩ (by decide) (by decide) ⟨rfl, _, rfl, it_ok_r h⟩
  · have h := it_ok_t h hc3
    refine ev_iload_n d_X6_run_9 rfl ?_
    refine ev_bipush d_X6_run_10 kv_bipush_10 ?_
    refine ev_bipush d_X6_run_12 kv_bipush_9 ?_
    refine ev_aload_n d_X6_run_14 rfl ?_
    refine ev_getI d_X6_run_15 fl_IcedTooSoonModel_75 hm.1 rfl ?_
    refine ev_iadd d_X6_run_18 ?_
    refine ev_callS (M' := it_m_X6_in) (d' := 1) (As := [.int x2, .int 10, .int (9 + (S1 45 0))]) d_X6_run_19 ml_IcedTooSoonModel_78 rfl rfl (Nat.le_of_ble_eq_true rfl) (by decide) (by decide) (by decide) (L_X6_in  (it_ok_b h)) (fun _ _ _ _ q => by cases q.1; rfl) ?_
    rintro _ _ S15 ⟨rfl, r16, rfl, h⟩
    show it_Ev g l 7 it_m_X6_run 0 0 22 [some (.ref 45), some (.int x1), some (.int x2), none, none] [.int r16] κ S15 (it_pi κ P)
    refine ev_if_ne (tgt := 41) d_X6_run_22 (by decide) (fun hc17 => ?_) (fun hc17 => ?_)
    · have h := it_ok_f h hc17
      refine ev_iconst d_X6_run_41 kv_iconst_1 ?_
      refine ev_goto (tgt := 46) d_X6_run_42 (by decide) ?_
      refine ev_istore_n d_X6_run_46 (by decide) ?_
      show it_Ev g l 7 it_m_X6_run 0 0 47 [some (.ref 45), some (.int x1), some (.int x2), some (.int 1), none] [] κ S15 (it_pi κ P)
      refine ev_iload_n d_X6_run_47 rfl ?_
      refine ev_iconst d_X6_run_48 kv_iconst_0 ?_
      refine ev_bipush d_X6_run_49 kv_bipush_40 ?_
      refine ev_callS (M' := it_m_X6_in) (d' := 1) (As := [.int x1, .int 0, .int 40]) d_X6_run_51 ml_IcedTooSoonModel_78 rfl rfl (Nat.le_of_ble_eq_true rfl) (by decide) (by decide) (by decide) (L_X6_in  (it_ok_b h)) (fun _ _ _ _ q => by cases q.1; rfl) ?_
      rintro _ _ S18 ⟨rfl, r19, rfl, h⟩
      show it_Ev g l 7 it_m_X6_run 0 0 54 [some (.ref 45), some (.int x1), some (.int x2), some (.int 1), none] [.int r19] κ S18 (it_pi κ P)
      refine ev_if_eq (tgt := 61) d_X6_run_54 (by decide) (fun hc20 => ?_) (fun hc20 => ?_)
      · have h := it_ok_t h hc20
        refine ev_ldc d_X6_run_61 kn_IcedTooSoonModel_203 ?_
        exact ev_ret (v := some (.int _)) ⟨d_X6_run_63, _, rfl, rfl⟩ (by decide) (by decide) ⟨rfl, _, rfl, it_ok_r h⟩
      · have h := it_ok_f h hc20
        refine ev_iload_n d_X6_run_57 rfl ?_
        refine ev_if_ne (tgt := 64) d_X6_run_58 (by decide) (fun _ => ?_) (fun hc => absurd hc (by decide))
        refine ev_aload_n d_X6_run_64 rfl ?_
        refine ev_callV (ci := 6) (b := 45) (M' := it_m_X6_keeps) (d' := 1) (As := []) d_X6_run_65 ml_IcedTooSoonModel_194 hm.1.1 hm.1.2.1 ⟨_, rfl, rfl⟩ rfl rfl (Nat.le_of_ble_eq_true rfl) (by decide) (by decide) (by decide) (L_X6_keeps hm (it_ok_b h)) (fun _ _ _ _ q => by cases q.1; rfl) ?_
        rintro _ _ S21 ⟨rfl, rfl, h⟩
        show it_Ev g l 7 it_m_X6_run 0 0 68 [some (.ref 45), some (.int x1), some (.int x2), some (.int 1), none] [] κ S21 (it_pi κ P)
        refine ev_aload_n d_X6_run_68 rfl ?_
        refine ev_iload_n d_X6_run_69 rfl ?_
        refine ev_callV (ci := 6) (b := 45) (M' := it_m_X6_goes) (d' := 6) (As := [.int x1]) d_X6_run_70 ml_IcedTooSoonModel_204 hm.1.1 hm.1.2.1 ⟨_, rfl, rfl⟩ rfl rfl (Nat.le_of_ble_eq_true rfl) (by decide) (by decide) (by decide) (L_X6_goes hm (it_ok_b h)) (fun _ _ _ _ q => by cases q.1; rfl) ?_
        rintro _ _ S23 ⟨rfl, rfl, h⟩
        show it_Ev g l 7 it_m_X6_run 0 0 73 [some (.ref 45), some (.int x1), some (.int x2), some (.int 1), none] [] κ S23 (it_pi κ P)
        refine ev_aload_n d_X6_run_73 rfl ?_
        refine ev_iload_n d_X6_run_74 rfl ?_
        refine ev_callV (ci := 6) (b := 45) (M' := it_m_X6_toldBehind) (d' := 4) (As := [.int x2]) d_X6_run_75 ml_IcedTooSoonModel_207 hm.1.1 hm.1.2.1 ⟨_, rfl, rfl⟩ rfl rfl (Nat.le_of_ble_eq_true rfl) (by decide) (by decide) (by decide) (L_X6_toldBehind hm (it_ok_b h)) (fun _ _ _ _ q => by cases q.1; rfl) ?_
        rintro _ _ S25 ⟨rfl, r26, rfl, h⟩
        show it_Ev g l 7 it_m_X6_run 0 0 78 [some (.ref 45), some (.int x1), some (.int x2), some (.int 1), none] [.int r26] κ S25 (it_pi κ P)
        refine ev_istore d_X6_run_78 (by decide) ?_
        show it_Ev g l 7 it_m_X6_run 0 0 80 [some (.ref 45), some (.int x1), some (.int x2), some (.int 1), some (.int r26)] [] κ S25 (it_pi κ P)
        refine ev_aload_n d_X6_run_80 rfl ?_
        refine ev_callV (ci := 6) (b := 45) (M' := it_m_X6_lays) (d' := 1) (As := []) d_X6_run_81 ml_IcedTooSoonModel_197 hm.1.1 hm.1.2.1 ⟨_, rfl, rfl⟩ rfl rfl (Nat.le_of_ble_eq_true rfl) (by decide) (by decide) (by decide) (L_X6_lays hm (it_ok_b h)) (fun _ _ _ _ q => by cases q.1; rfl) ?_
        rintro _ _ S27 ⟨rfl, rfl, h⟩
        show it_Ev g l 7 it_m_X6_run 0 0 84 [some (.ref 45), some (.int x1), some (.int x2), some (.int 1), some (.int r26)] [] κ S27 (it_pi κ P)
        refine ev_iload d_X6_run_84 rfl ?_
        exact ev_ret (v := some (.int _)) ⟨d_X6_run_86, _, rfl, rfl⟩ (by decide) (by decide) ⟨rfl, _, rfl, it_ok_r h⟩
    · have h := it_ok_t h hc17
      refine ev_iload_n d_X6_run_25 rfl ?_
      refine ev_bipush d_X6_run_26 kv_bipush_20 ?_
      refine ev_bipush d_X6_run_28 kv_bipush_19 ?_
      refine ev_aload_n d_X6_run_30 rfl ?_
      refine ev_getI d_X6_run_31 fl_IcedTooSoonModel_75 hm.1 rfl ?_
      refine ev_iadd d_X6_run_34 ?_
      refine ev_callS (M' := it_m_X6_in) (d' := 1) (As := [.int x2, .int 20, .int (19 + (S15 45 0))]) d_X6_run_35 ml_IcedTooSoonModel_78 rfl rfl (Nat.le_of_ble_eq_true rfl) (by decide) (by decide) (by decide) (L_X6_in  (it_ok_b h)) (fun _ _ _ _ q => by cases q.1; rfl) ?_
      rintro _ _ S29 ⟨rfl, r30, rfl, h⟩
      show it_Ev g l 7 it_m_X6_run 0 0 38 [some (.ref 45), some (.int x1), some (.int x2), none, none] [.int r30] κ S29 (it_pi κ P)
      refine ev_if_eq (tgt := 45) d_X6_run_38 (by decide) (fun hc31 => ?_) (fun hc31 => ?_)
      · have h := it_ok_t h hc31
        refine ev_iconst d_X6_run_45 kv_iconst_0 ?_
        refine ev_istore_n d_X6_run_46 (by decide) ?_
        show it_Ev g l 7 it_m_X6_run 0 0 47 [some (.ref 45), some (.int x1), some (.int x2), some (.int 0), none] [] κ S29 (it_pi κ P)
        refine ev_iload_n d_X6_run_47 rfl ?_
        refine ev_iconst d_X6_run_48 kv_iconst_0 ?_
        refine ev_bipush d_X6_run_49 kv_bipush_40 ?_
        refine ev_callS (M' := it_m_X6_in) (d' := 1) (As := [.int x1, .int 0, .int 40]) d_X6_run_51 ml_IcedTooSoonModel_78 rfl rfl (Nat.le_of_ble_eq_true rfl) (by decide) (by decide) (by decide) (L_X6_in  (it_ok_b h)) (fun _ _ _ _ q => by cases q.1; rfl) ?_
        rintro _ _ S32 ⟨rfl, r33, rfl, h⟩
        show it_Ev g l 7 it_m_X6_run 0 0 54 [some (.ref 45), some (.int x1), some (.int x2), some (.int 0), none] [.int r33] κ S32 (it_pi κ P)
        refine ev_if_eq (tgt := 61) d_X6_run_54 (by decide) (fun hc34 => ?_) (fun hc34 => ?_)
        · have h := it_ok_t h hc34
          refine ev_ldc d_X6_run_61 kn_IcedTooSoonModel_203 ?_
          exact ev_ret (v := some (.int _)) ⟨d_X6_run_63, _, rfl, rfl⟩ (by decide) (by decide) ⟨rfl, _, rfl, it_ok_r h⟩
        · have h := it_ok_f h hc34
          refine ev_iload_n d_X6_run_57 rfl ?_
          refine ev_if_ne (tgt := 64) d_X6_run_58 (by decide) (fun hc => absurd (by decide) hc) (fun _ => ?_)
          refine ev_ldc d_X6_run_61 kn_IcedTooSoonModel_203 ?_
          exact ev_ret (v := some (.int _)) ⟨d_X6_run_63, _, rfl, rfl⟩ (by decide) (by decide) ⟨rfl, _, rfl, it_ok_r h⟩
      · have h := it_ok_f h hc31
        refine ev_iconst d_X6_run_41 kv_iconst_1 ?_
        refine ev_goto (tgt := 46) d_X6_run_42 (by decide) ?_
        refine ev_istore_n d_X6_run_46 (by decide) ?_
        show it_Ev g l 7 it_m_X6_run 0 0 47 [some (.ref 45), some (.int x1), some (.int x2), some (.int 1), none] [] κ S29 (it_pi κ P)
        refine ev_iload_n d_X6_run_47 rfl ?_
        refine ev_iconst d_X6_run_48 kv_iconst_0 ?_
        refine ev_bipush d_X6_run_49 kv_bipush_40 ?_
        refine ev_callS (M' := it_m_X6_in) (d' := 1) (As := [.int x1, .int 0, .int 40]) d_X6_run_51 ml_IcedTooSoonModel_78 rfl rfl (Nat.le_of_ble_eq_true rfl) (by decide) (by decide) (by decide) (L_X6_in  (it_ok_b h)) (fun _ _ _ _ q => by cases q.1; rfl) ?_
        rintro _ _ S35 ⟨rfl, r36, rfl, h⟩
        show it_Ev g l 7 it_m_X6_run 0 0 54 [some (.ref 45), some (.int x1), some (.int x2), some (.int 1), none] [.int r36] κ S35 (it_pi κ P)
        refine ev_if_eq (tgt := 61) d_X6_run_54 (by decide) (fun hc37 => ?_) (fun hc37 => ?_)
        · have h := it_ok_t h hc37
          refine ev_ldc d_X6_run_61 kn_IcedTooSoonModel_203 ?_
          exact ev_ret (v := some (.int _)) ⟨d_X6_run_63, _, rfl, rfl⟩ (by decide) (by decide) ⟨rfl, _, rfl, it_ok_r h⟩
        · have h := it_ok_f h hc37
          refine ev_iload_n d_X6_run_57 rfl ?_
          refine ev_if_ne (tgt := 64) d_X6_run_58 (by decide) (fun _ => ?_) (fun hc => absurd hc (by decide))
          refine ev_aload_n d_X6_run_64 rfl ?_
          refine ev_callV (ci := 6) (b := 45) (M' := it_m_X6_keeps) (d' := 1) (As := []) d_X6_run_65 ml_IcedTooSoonModel_194 hm.1.1 hm.1.2.1 ⟨_, rfl, rfl⟩ rfl rfl (Nat.le_of_ble_eq_true rfl) (by decide) (by decide) (by decide) (L_X6_keeps hm (it_ok_b h)) (fun _ _ _ _ q => by cases q.1; rfl) ?_
          rintro _ _ S38 ⟨rfl, rfl, h⟩
          show it_Ev g l 7 it_m_X6_run 0 0 68 [some (.ref 45), some (.int x1), some (.int x2), some (.int 1), none] [] κ S38 (it_pi κ P)
          refine ev_aload_n d_X6_run_68 rfl ?_
          refine ev_iload_n d_X6_run_69 rfl ?_
          refine ev_callV (ci := 6) (b := 45) (M' := it_m_X6_goes) (d' := 6) (As := [.int x1]) d_X6_run_70 ml_IcedTooSoonModel_204 hm.1.1 hm.1.2.1 ⟨_, rfl, rfl⟩ rfl rfl (Nat.le_of_ble_eq_true rfl) (by decide) (by decide) (by decide) (L_X6_goes hm (it_ok_b h)) (fun _ _ _ _ q => by cases q.1; rfl) ?_
          rintro _ _ S40 ⟨rfl, rfl, h⟩
          show it_Ev g l 7 it_m_X6_run 0 0 73 [some (.ref 45), some (.int x1), some (.int x2), some (.int 1), none] [] κ S40 (it_pi κ P)
          refine ev_aload_n d_X6_run_73 rfl ?_
          refine ev_iload_n d_X6_run_74 rfl ?_
          refine ev_callV (ci := 6) (b := 45) (M' := it_m_X6_toldBehind) (d' := 4) (As := [.int x2]) d_X6_run_75 ml_IcedTooSoonModel_207 hm.1.1 hm.1.2.1 ⟨_, rfl, rfl⟩ rfl rfl (Nat.le_of_ble_eq_true rfl) (by decide) (by decide) (by decide) (L_X6_toldBehind hm (it_ok_b h)) (fun _ _ _ _ q => by cases q.1; rfl) ?_
          rintro _ _ S42 ⟨rfl, r43, rfl, h⟩
          show it_Ev g l 7 it_m_X6_run 0 0 78 [some (.ref 45), some (.int x1), some (.int x2), some (.int 1), none] [.int r43] κ S42 (it_pi κ P)
          refine ev_istore d_X6_run_78 (by decide) ?_
          show it_Ev g l 7 it_m_X6_run 0 0 80 [some (.ref 45), some (.int x1), some (.int x2), some (.int 1), some (.int r43)] [] κ S42 (it_pi κ P)
          refine ev_aload_n d_X6_run_80 rfl ?_
          refine ev_callV (ci := 6) (b := 45) (M' := it_m_X6_lays) (d' := 1) (As := []) d_X6_run_81 ml_IcedTooSoonModel_197 hm.1.1 hm.1.2.1 ⟨_, rfl, rfl⟩ rfl rfl (Nat.le_of_ble_eq_true rfl) (by decide) (by decide) (by decide) (L_X6_lays hm (it_ok_b h)) (fun _ _ _ _ q => by cases q.1; rfl) ?_
          rintro _ _ S44 ⟨rfl, rfl, h⟩
          show it_Ev g l 7 it_m_X6_run 0 0 84 [some (.ref 45), some (.int x1), some (.int x2), some (.int 1), some (.int r43)] [] κ S44 (it_pi κ P)
          refine ev_iload d_X6_run_84 rfl ?_
          exact ev_ret (v := some (.int _)) ⟨d_X6_run_86, _, rfl, rfl⟩ (by decide) (by decide) ⟨rfl, _, rfl, it_ok_r h⟩
theorem d_X6_goesOff_0 : decode prog_8_method_49_code 0 = .ok (.aload_n 0, 1) := by decide +kernel
theorem d_X6_goesOff_1 : decode prog_8_method_49_code 1 = .ok (.iload_n 1, 1) := by decide +kernel
theorem d_X6_goesOff_2 : decode prog_8_method_49_code 2 = .ok (.invokevirtual 86, 3) := by decide +kernel
theorem d_X6_goesOff_5 : decode prog_8_method_49_code 5 = .ok (.ifCond .ne 6, 3) := by decide +kernel
theorem d_X6_goesOff_8 : decode prog_8_method_49_code 8 = .ok (.bipush (-6), 2) := by decide +kernel
theorem d_X6_goesOff_10 : decode prog_8_method_49_code 10 = .ok (.ireturn, 1) := by decide +kernel
theorem d_X6_goesOff_11 : decode prog_8_method_49_code 11 = .ok (.iconst (-1), 1) := by decide +kernel
theorem d_X6_goesOff_12 : decode prog_8_method_49_code 12 = .ok (.istore_n 2, 1) := by decide +kernel
theorem d_X6_goesOff_13 : decode prog_8_method_49_code 13 = .ok (.aload_n 0, 1) := by decide +kernel
theorem d_X6_goesOff_14 : decode prog_8_method_49_code 14 = .ok (.invokevirtual 194, 3) := by decide +kernel
theorem d_X6_goesOff_17 : decode prog_8_method_49_code 17 = .ok (.iconst 1, 1) := by decide +kernel
theorem d_X6_goesOff_18 : decode prog_8_method_49_code 18 = .ok (.istore_n 3, 1) := by decide +kernel
theorem d_X6_goesOff_19 : decode prog_8_method_49_code 19 = .ok (.iload_n 3, 1) := by decide +kernel
theorem d_X6_goesOff_20 : decode prog_8_method_49_code 20 = .ok (.bipush 60, 2) := by decide +kernel
theorem d_X6_goesOff_22 : decode prog_8_method_49_code 22 = .ok (.if_icmp .gt 32, 3) := by decide +kernel
theorem d_X6_goesOff_25 : decode prog_8_method_49_code 25 = .ok (.iload_n 2, 1) := by decide +kernel
theorem d_X6_goesOff_26 : decode prog_8_method_49_code 26 = .ok (.iconst (-1), 1) := by decide +kernel
theorem d_X6_goesOff_27 : decode prog_8_method_49_code 27 = .ok (.if_icmp .ne 27, 3) := by decide +kernel
theorem d_X6_goesOff_30 : decode prog_8_method_49_code 30 = .ok (.aload_n 0, 1) := by decide +kernel
theorem d_X6_goesOff_31 : decode prog_8_method_49_code 31 = .ok (.invokevirtual 191, 3) := by decide +kernel
theorem d_X6_goesOff_34 : decode prog_8_method_49_code 34 = .ok (.iload_n 1, 1) := by decide +kernel
theorem d_X6_goesOff_35 : decode prog_8_method_49_code 35 = .ok (.ishr, 1) := by decide +kernel
theorem d_X6_goesOff_36 : decode prog_8_method_49_code 36 = .ok (.iconst 1, 1) := by decide +kernel
theorem d_X6_goesOff_37 : decode prog_8_method_49_code 37 = .ok (.iand, 1) := by decide +kernel
theorem d_X6_goesOff_38 : decode prog_8_method_49_code 38 = .ok (.iconst 1, 1) := by decide +kernel
theorem d_X6_goesOff_39 : decode prog_8_method_49_code 39 = .ok (.if_icmp .ne 7, 3) := by decide +kernel
theorem d_X6_goesOff_42 : decode prog_8_method_49_code 42 = .ok (.iload_n 3, 1) := by decide +kernel
theorem d_X6_goesOff_43 : decode prog_8_method_49_code 43 = .ok (.goto 4, 3) := by decide +kernel
theorem d_X6_goesOff_46 : decode prog_8_method_49_code 46 = .ok (.iconst (-1), 1) := by decide +kernel
theorem d_X6_goesOff_47 : decode prog_8_method_49_code 47 = .ok (.istore_n 2, 1) := by decide +kernel
theorem d_X6_goesOff_48 : decode prog_8_method_49_code 48 = .ok (.iinc 3 1, 3) := by decide +kernel
theorem d_X6_goesOff_51 : decode prog_8_method_49_code 51 = .ok (.goto (-32), 3) := by decide +kernel
theorem d_X6_goesOff_54 : decode prog_8_method_49_code 54 = .ok (.aload_n 0, 1) := by decide +kernel
theorem d_X6_goesOff_55 : decode prog_8_method_49_code 55 = .ok (.invokevirtual 197, 3) := by decide +kernel
theorem d_X6_goesOff_58 : decode prog_8_method_49_code 58 = .ok (.iload_n 2, 1) := by decide +kernel
theorem d_X6_goesOff_59 : decode prog_8_method_49_code 59 = .ok (.ireturn, 1) := by decide +kernel
def lp_X6_goesOff_19 (κ : it_KK) (x1 : Int32) (k19 : (Int32 → it_SS → Option (Int32 × it_SS))) : Nat → Int32 → Int32 → it_SS → Option (Int32 × it_SS)
  | 0, _, _, _ => none
  | n19 + 1, v2, v3, S => if 60 < v3 then
k19 v2 S
else
if v2 = (-1) then
it_bi (f_X6_dayOf κ  S) (fun r9 S8 =>
if ((r9 >>> (x1 &&& 31)) &&& 1) = 1 then
lp_X6_goesOff_19 κ x1 k19 n19 v3 (v3 + 1) S8
else
lp_X6_goesOff_19 κ x1 k19 n19 (-1) (v3 + 1) S8)
else
k19 v2 S
def f_X6_goesOff (κ : it_KK) (x1 : Int32) (S : it_SS) : Option (Int32 × it_SS) :=
it_bi (f_X6_isThere κ x1 S) (fun r2 S1 =>
if r2 = 0 then
some ((-6), S1)
else
it_bi (f_X6_keeps κ  S1) (fun _ S4 =>
lp_X6_goesOff_19 κ x1 (fun v11 S12 =>
it_bi (f_X6_lays κ  S12) (fun _ S13 =>
some (v11, S13))) it_FU (-1) 1 S4))
set_option maxHeartbeats 4000000 in
set_option maxRecDepth 100000 in
theorem Llp_X6_goesOff_19 {g : it_G} {l : Launch} {κ : it_KK} {x1 : Int32} (hm : it_wm κ) {P : Int32 → it_SS → Prop} {k19 : (Int32 → it_SS → Option (Int32 × it_SS))} (hk19 : ∀ (v2 : Int32) (S : it_SS), it_ok (k19 v2 S) P → it_Ev g l 6 it_m_X6_goesOff 0 0 54 [some (.ref 45), none, some (.int v2), none] [] κ S (it_pi κ P)) : ∀ (n : Nat) (v2 : Int32) (v3 : Int32) (S : it_SS), it_ok (lp_X6_goesOff_19 κ x1 k19 n v2 v3 S) P → it_Ev g l 6 it_m_X6_goesOff 0 0 19 [some (.ref 45), some (.int x1), some (.int v2), some (.int v3)] [] κ S (it_pi κ P) := by
  intro n
  induction n with
  | zero =>
    intro _ _ _ h
    exact (it_ok_n h).elim
  | succ n19 ih19 =>
    intro v2 v3 S h
    rw [lp_X6_goesOff_19] at h
    refine ev_iload_n d_X6_goesOff_19 rfl ?_
    refine ev_bipush d_X6_goesOff_20 kv_bipush_60 ?_
    refine ev_icmp_gt (tgt := 54) d_X6_goesOff_22 (by decide) (fun hc6 => ?_) (fun hc6 => ?_)
    · have h := it_ok_t h hc6
      refine ev_keep [true, false, true, false] ?_
      exact hk19 _ _ h
    · have h := it_ok_f h hc6
      refine ev_iload_n d_X6_goesOff_25 rfl ?_
      refine ev_iconst d_X6_goesOff_26 kv_iconst_m1 ?_
      refine ev_icmp_ne (tgt := 54) d_X6_goesOff_27 (by decide) (fun hc7 => ?_) (fun hc7 => ?_)
      · have h := it_ok_f h hc7
        refine ev_keep [true, false, true, false] ?_
        exact hk19 _ _ h
      · have h := it_ok_t h hc7
        refine ev_aload_n d_X6_goesOff_30 rfl ?_
        refine ev_callV (ci := 6) (b := 45) (M' := it_m_X6_dayOf) (d' := 5) (As := []) d_X6_goesOff_31 ml_IcedTooSoonModel_191 hm.1.1 hm.1.2.1 ⟨_, rfl, rfl⟩ rfl rfl (Nat.le_of_ble_eq_true rfl) (by decide) (by decide) (by decide) (L_X6_dayOf hm (it_ok_b h)) (fun _ _ _ _ q => by cases q.1; rfl) ?_
        rintro _ _ S8 ⟨rfl, r9, rfl, h⟩
        show it_Ev g l 6 it_m_X6_goesOff 0 0 34 [some (.ref 45), some (.int x1), some (.int v2), some (.int v3)] [.int r9] κ S8 (it_pi κ P)
        refine ev_iload_n d_X6_goesOff_34 rfl ?_
        refine ev_ishr d_X6_goesOff_35 ?_
        refine ev_iconst d_X6_goesOff_36 kv_iconst_1 ?_
        refine ev_iand d_X6_goesOff_37 ?_
        refine ev_iconst d_X6_goesOff_38 kv_iconst_1 ?_
        refine ev_icmp_ne (tgt := 46) d_X6_goesOff_39 (by decide) (fun hc10 => ?_) (fun hc10 => ?_)
        · have h := it_ok_f h hc10
          refine ev_iconst d_X6_goesOff_46 kv_iconst_m1 ?_
          refine ev_istore_n d_X6_goesOff_47 (by decide) ?_
          show it_Ev g l 6 it_m_X6_goesOff 0 0 48 [some (.ref 45), some (.int x1), some (.int (-1)), some (.int v3)] [] κ S8 (it_pi κ P)
          refine ev_iinc d_X6_goesOff_48 kv_iconst_1 rfl (by decide) ?_
          show it_Ev g l 6 it_m_X6_goesOff 0 0 51 [some (.ref 45), some (.int x1), some (.int (-1)), some (.int (v3 + 1))] [] κ S8 (it_pi κ P)
          refine ev_goto (tgt := 19) d_X6_goesOff_51 (by decide) ?_
          refine ev_keep [true, true, true, true] ?_
          exact ih19 _ _ _ h
        · have h := it_ok_t h hc10
          refine ev_iload_n d_X6_goesOff_42 rfl ?_
          refine ev_goto (tgt := 47) d_X6_goesOff_43 (by decide) ?_
          refine ev_istore_n d_X6_goesOff_47 (by decide) ?_
          show it_Ev g l 6 it_m_X6_goesOff 0 0 48 [some (.ref 45), some (.int x1), some (.int v3), some (.int v3)] [] κ S8 (it_pi κ P)
          refine ev_iinc d_X6_goesOff_48 kv_iconst_1 rfl (by decide) ?_
          show it_Ev g l 6 it_m_X6_goesOff 0 0 51 [some (.ref 45), some (.int x1), some (.int v3), some (.int (v3 + 1))] [] κ S8 (it_pi κ P)
          refine ev_goto (tgt := 19) d_X6_goesOff_51 (by decide) ?_
          refine ev_keep [true, true, true, true] ?_
          exact ih19 _ _ _ h
set_option maxHeartbeats 4000000 in
set_option maxRecDepth 100000 in
theorem L_X6_goesOff {g : it_G} {l : Launch} {κ : it_KK} {x1 : Int32} (hm : it_wm κ) {S : it_SS} {P : Int32 → it_SS → Prop} (h : it_ok (f_X6_goesOff κ x1 S) P) : it_Cn g l 6 it_m_X6_goesOff [.ref 45, .int x1] κ S (it_pi κ P) := by
  refine it_Cn.of (by decide +kernel) (Nat.le_of_ble_eq_true rfl) ?_
  rw [f_X6_goesOff] at h
  show it_Ev g l 6 it_m_X6_goesOff 0 0 0 [some (.ref 45), some (.int x1), none, none] [] κ S (it_pi κ P)
  refine ev_aload_n d_X6_goesOff_0 rfl ?_
  refine ev_iload_n d_X6_goesOff_1 rfl ?_
  refine ev_callV (ci := 6) (b := 45) (M' := it_m_X6_isThere) (d' := 2) (As := [.int x1]) d_X6_goesOff_2 ml_IcedTooSoonModel_86 hm.1.1 hm.1.2.1 ⟨_, rfl, rfl⟩ rfl rfl (Nat.le_of_ble_eq_true rfl) (by decide) (by decide) (by decide) (L_X6_isThere hm (it_ok_b h)) (fun _ _ _ _ q => by cases q.1; rfl) ?_
  rintro _ _ S1 ⟨rfl, r2, rfl, h⟩
  show it_Ev g l 6 it_m_X6_goesOff 0 0 5 [some (.ref 45), some (.int x1), none, none] [.int r2] κ S1 (it_pi κ P)
  refine ev_if_ne (tgt := 11) d_X6_goesOff_5 (by decide) (fun hc3 => ?_) (fun hc3 => ?_)
  · have h := it_ok_f h hc3
    refine ev_iconst d_X6_goesOff_11 kv_iconst_m1 ?_
    refine ev_istore_n d_X6_goesOff_12 (by decide) ?_
    show it_Ev g l 6 it_m_X6_goesOff 0 0 13 [some (.ref 45), some (.int x1), some (.int (-1)), none] [] κ S1 (it_pi κ P)
    refine ev_aload_n d_X6_goesOff_13 rfl ?_
    refine ev_callV (ci := 6) (b := 45) (M' := it_m_X6_keeps) (d' := 1) (As := []) d_X6_goesOff_14 ml_IcedTooSoonModel_194 hm.1.1 hm.1.2.1 ⟨_, rfl, rfl⟩ rfl rfl (Nat.le_of_ble_eq_true rfl) (by decide) (by decide) (by decide) (L_X6_keeps hm (it_ok_b h)) (fun _ _ _ _ q => by cases q.1; rfl) ?_
    rintro _ _ S4 ⟨rfl, rfl, h⟩
    show it_Ev g l 6 it_m_X6_goesOff 0 0 17 [some (.ref 45), some (.int x1), some (.int (-1)), none] [] κ S4 (it_pi κ P)
    refine ev_iconst d_X6_goesOff_17 kv_iconst_1 ?_
    refine ev_istore_n d_X6_goesOff_18 (by decide) ?_
    show it_Ev g l 6 it_m_X6_goesOff 0 0 19 [some (.ref 45), some (.int x1), some (.int (-1)), some (.int 1)] [] κ S4 (it_pi κ P)
    refine ev_keep [true, true, true, true] ?_
    refine Llp_X6_goesOff_19 hm (fun v11 S12 h => ?_) _ _ _ _ h
    show it_Ev g l 6 it_m_X6_goesOff 0 0 54 [some (.ref 45), none, some (.int v11), none] [] κ S12 (it_pi κ P)
    refine ev_aload_n d_X6_goesOff_54 rfl ?_
    refine ev_callV (ci := 6) (b := 45) (M' := it_m_X6_lays) (d' := 1) (As := []) d_X6_goesOff_55 ml_IcedTooSoonModel_197 hm.1.1 hm.1.2.1 ⟨_, rfl, rfl⟩ rfl rfl (Nat.le_of_ble_eq_true rfl) (by decide) (by decide) (by decide) (L_X6_lays hm (it_ok_b h)) (fun _ _ _ _ q => by cases q.1; rfl) ?_
    rintro _ _ S13 ⟨rfl, rfl, h⟩
    show it_Ev g l 6 it_m_X6_goesOff 0 0 58 [some (.ref 45), none, some (.int v11), none] [] κ S13 (it_pi κ P)
    refine ev_iload_n d_X6_goesOff_58 rfl ?_
    exact ev_ret (v := some (.int _)) ⟨d_X6_goesOff_59, _, rfl, rfl⟩ (by decide) (by decide) ⟨rfl, _, rfl, it_ok_r h⟩
  · have h := it_ok_t h hc3
    refine ev_bipush d_X6_goesOff_8 kv_bipush_m6 ?_
    exact ev_ret (v := some (.int _)) ⟨d_X6_goesOff_10, _, rfl, rfl⟩ (by decide) (by decide) ⟨rfl, _, rfl, it_ok_r h⟩
theorem d_X6_worst_0 : decode prog_8_method_50_code 0 = .ok (.aload_n 0, 1) := by decide +kernel
theorem d_X6_worst_1 : decode prog_8_method_50_code 1 = .ok (.iload_n 1, 1) := by decide +kernel
theorem d_X6_worst_2 : decode prog_8_method_50_code 2 = .ok (.invokevirtual 173, 3) := by decide +kernel
theorem d_X6_worst_5 : decode prog_8_method_50_code 5 = .ok (.ifCond .ne 6, 3) := by decide +kernel
theorem d_X6_worst_8 : decode prog_8_method_50_code 8 = .ok (.bipush (-5), 2) := by decide +kernel
theorem d_X6_worst_10 : decode prog_8_method_50_code 10 = .ok (.ireturn, 1) := by decide +kernel
theorem d_X6_worst_11 : decode prog_8_method_50_code 11 = .ok (.iload_n 2, 1) := by decide +kernel
theorem d_X6_worst_12 : decode prog_8_method_50_code 12 = .ok (.iconst 1, 1) := by decide +kernel
theorem d_X6_worst_13 : decode prog_8_method_50_code 13 = .ok (.bipush 40, 2) := by decide +kernel
theorem d_X6_worst_15 : decode prog_8_method_50_code 15 = .ok (.invokestatic 78, 3) := by decide +kernel
theorem d_X6_worst_18 : decode prog_8_method_50_code 18 = .ok (.ifCond .eq 12, 3) := by decide +kernel
theorem d_X6_worst_21 : decode prog_8_method_50_code 21 = .ok (.iload_n 3, 1) := by decide +kernel
theorem d_X6_worst_22 : decode prog_8_method_50_code 22 = .ok (.iconst 0, 1) := by decide +kernel
theorem d_X6_worst_23 : decode prog_8_method_50_code 23 = .ok (.iconst 1, 1) := by decide +kernel
theorem d_X6_worst_24 : decode prog_8_method_50_code 24 = .ok (.invokestatic 78, 3) := by decide +kernel
theorem d_X6_worst_27 : decode prog_8_method_50_code 27 = .ok (.ifCond .ne 6, 3) := by decide +kernel
theorem d_X6_worst_30 : decode prog_8_method_50_code 30 = .ok (.bipush (-7), 2) := by decide +kernel
theorem d_X6_worst_32 : decode prog_8_method_50_code 32 = .ok (.ireturn, 1) := by decide +kernel
theorem d_X6_worst_33 : decode prog_8_method_50_code 33 = .ok (.iconst (-1), 1) := by decide +kernel
theorem d_X6_worst_34 : decode prog_8_method_50_code 34 = .ok (.istore 4, 2) := by decide +kernel
theorem d_X6_worst_36 : decode prog_8_method_50_code 36 = .ok (.iconst 0, 1) := by decide +kernel
theorem d_X6_worst_37 : decode prog_8_method_50_code 37 = .ok (.istore 5, 2) := by decide +kernel
theorem d_X6_worst_39 : decode prog_8_method_50_code 39 = .ok (.aload_n 0, 1) := by decide +kernel
theorem d_X6_worst_40 : decode prog_8_method_50_code 40 = .ok (.invokevirtual 194, 3) := by decide +kernel
theorem d_X6_worst_43 : decode prog_8_method_50_code 43 = .ok (.iconst 1, 1) := by decide +kernel
theorem d_X6_worst_44 : decode prog_8_method_50_code 44 = .ok (.istore 6, 2) := by decide +kernel
theorem d_X6_worst_46 : decode prog_8_method_50_code 46 = .ok (.iload 6, 2) := by decide +kernel
theorem d_X6_worst_48 : decode prog_8_method_50_code 48 = .ok (.iload_n 2, 1) := by decide +kernel
theorem d_X6_worst_49 : decode prog_8_method_50_code 49 = .ok (.if_icmp .gt 69, 3) := by decide +kernel
theorem d_X6_worst_52 : decode prog_8_method_50_code 52 = .ok (.aload_n 0, 1) := by decide +kernel
theorem d_X6_worst_53 : decode prog_8_method_50_code 53 = .ok (.getfield 16, 3) := by decide +kernel
theorem d_X6_worst_56 : decode prog_8_method_50_code 56 = .ok (.iconst 2, 1) := by decide +kernel
theorem d_X6_worst_57 : decode prog_8_method_50_code 57 = .ok (.iload_n 1, 1) := by decide +kernel
theorem d_X6_worst_58 : decode prog_8_method_50_code 58 = .ok (.imul, 1) := by decide +kernel
theorem d_X6_worst_59 : decode prog_8_method_50_code 59 = .ok (.iaload, 1) := by decide +kernel
theorem d_X6_worst_60 : decode prog_8_method_50_code 60 = .ok (.istore 7, 2) := by decide +kernel
theorem d_X6_worst_62 : decode prog_8_method_50_code 62 = .ok (.aload_n 0, 1) := by decide +kernel
theorem d_X6_worst_63 : decode prog_8_method_50_code 63 = .ok (.invokevirtual 191, 3) := by decide +kernel
theorem d_X6_worst_66 : decode prog_8_method_50_code 66 = .ok (.pop, 1) := by decide +kernel
theorem d_X6_worst_67 : decode prog_8_method_50_code 67 = .ok (.iload 7, 2) := by decide +kernel
theorem d_X6_worst_69 : decode prog_8_method_50_code 69 = .ok (.aload_n 0, 1) := by decide +kernel
theorem d_X6_worst_70 : decode prog_8_method_50_code 70 = .ok (.getfield 16, 3) := by decide +kernel
theorem d_X6_worst_73 : decode prog_8_method_50_code 73 = .ok (.iconst 2, 1) := by decide +kernel
theorem d_X6_worst_74 : decode prog_8_method_50_code 74 = .ok (.iload_n 1, 1) := by decide +kernel
theorem d_X6_worst_75 : decode prog_8_method_50_code 75 = .ok (.imul, 1) := by decide +kernel
theorem d_X6_worst_76 : decode prog_8_method_50_code 76 = .ok (.iaload, 1) := by decide +kernel
theorem d_X6_worst_77 : decode prog_8_method_50_code 77 = .ok (.isub, 1) := by decide +kernel
theorem d_X6_worst_78 : decode prog_8_method_50_code 78 = .ok (.istore 8, 2) := by decide +kernel
theorem d_X6_worst_80 : decode prog_8_method_50_code 80 = .ok (.iload 8, 2) := by decide +kernel
theorem d_X6_worst_82 : decode prog_8_method_50_code 82 = .ok (.iload 5, 2) := by decide +kernel
theorem d_X6_worst_84 : decode prog_8_method_50_code 84 = .ok (.if_icmp .le 8, 3) := by decide +kernel
theorem d_X6_worst_87 : decode prog_8_method_50_code 87 = .ok (.iload 6, 2) := by decide +kernel
theorem d_X6_worst_89 : decode prog_8_method_50_code 89 = .ok (.goto 5, 3) := by decide +kernel
theorem d_X6_worst_92 : decode prog_8_method_50_code 92 = .ok (.iload 4, 2) := by decide +kernel
theorem d_X6_worst_94 : decode prog_8_method_50_code 94 = .ok (.istore 4, 2) := by decide +kernel
theorem d_X6_worst_96 : decode prog_8_method_50_code 96 = .ok (.iload 8, 2) := by decide +kernel
theorem d_X6_worst_98 : decode prog_8_method_50_code 98 = .ok (.iload 5, 2) := by decide +kernel
theorem d_X6_worst_100 : decode prog_8_method_50_code 100 = .ok (.if_icmp .le 8, 3) := by decide +kernel
theorem d_X6_worst_103 : decode prog_8_method_50_code 103 = .ok (.iload 8, 2) := by decide +kernel
theorem d_X6_worst_105 : decode prog_8_method_50_code 105 = .ok (.goto 5, 3) := by decide +kernel
theorem d_X6_worst_108 : decode prog_8_method_50_code 108 = .ok (.iload 5, 2) := by decide +kernel
theorem d_X6_worst_110 : decode prog_8_method_50_code 110 = .ok (.istore 5, 2) := by decide +kernel
theorem d_X6_worst_112 : decode prog_8_method_50_code 112 = .ok (.iinc 6 1, 3) := by decide +kernel
theorem d_X6_worst_115 : decode prog_8_method_50_code 115 = .ok (.goto (-69), 3) := by decide +kernel
theorem d_X6_worst_118 : decode prog_8_method_50_code 118 = .ok (.aload_n 0, 1) := by decide +kernel
theorem d_X6_worst_119 : decode prog_8_method_50_code 119 = .ok (.invokevirtual 197, 3) := by decide +kernel
theorem d_X6_worst_122 : decode prog_8_method_50_code 122 = .ok (.iload_n 3, 1) := by decide +kernel
theorem d_X6_worst_123 : decode prog_8_method_50_code 123 = .ok (.ifCond .ne 8, 3) := by decide +kernel
theorem d_X6_worst_126 : decode prog_8_method_50_code 126 = .ok (.iload 4, 2) := by decide +kernel
theorem d_X6_worst_128 : decode prog_8_method_50_code 128 = .ok (.goto 5, 3) := by decide +kernel
theorem d_X6_worst_131 : decode prog_8_method_50_code 131 = .ok (.iload 5, 2) := by decide +kernel
theorem d_X6_worst_133 : decode prog_8_method_50_code 133 = .ok (.ireturn, 1) := by decide +kernel
def lp_X6_worst_46 (κ : it_KK) (x1 : Int32) (x2 : Int32) (x3 : Int32) (k46 : (Int32 → Int32 → it_SS → Option (Int32 × it_SS))) : Nat → Int32 → Int32 → Int32 → it_SS → Option (Int32 × it_SS)
  | 0, _, _, _, _ => none
  | n46 + 1, v4, v5, v6, S => if x2 < v6 then
k46 v4 v5 S
else
if it_bd (2 * x1) 12 = true then
it_bi (f_X6_dayOf κ  S) (fun r15 S14 =>
if ((S 48 ((2 * x1) : Int32).toNatClampNeg) - (S14 48 ((2 * x1) : Int32).toNatClampNeg)) ≤ v5 then
if ((S 48 ((2 * x1) : Int32).toNatClampNeg) - (S14 48 ((2 * x1) : Int32).toNatClampNeg)) ≤ v5 then
lp_X6_worst_46 κ x1 x2 x3 k46 n46 v4 v5 (v6 + 1) S14
else
lp_X6_worst_46 κ x1 x2 x3 k46 n46 v4 ((S 48 ((2 * x1) : Int32).toNatClampNeg) - (S14 48 ((2 * x1) : Int32).toNatClampNeg)) (v6 + 1) S14
else
if ((S 48 ((2 * x1) : Int32).toNatClampNeg) - (S14 48 ((2 * x1) : Int32).toNatClampNeg)) ≤ v5 then
lp_X6_worst_46 κ x1 x2 x3 k46 n46 v6 v5 (v6 + 1) S14
else
lp_X6_worst_46 κ x1 x2 x3 k46 n46 v6 ((S 48 ((2 * x1) : Int32).toNatClampNeg) - (S14 48 ((2 * x1) : Int32).toNatClampNeg)) (v6 + 1) S14)
else none
def f_X6_worst (κ : it_KK) (x1 : Int32) (x2 : Int32) (x3 : Int32) (S : it_SS) : Option (Int32 × it_SS) :=
it_bi (f_X6_isOne κ x1 S) (fun r2 S1 =>
if r2 = 0 then
some ((-5), S1)
else
it_bi (f_X6_in κ x2 1 40 S1) (fun r5 S4 =>
if r5 = 0 then
some ((-7), S4)
else
it_bi (f_X6_in κ x3 0 1 S4) (fun r8 S7 =>
if r8 = 0 then
some ((-7), S7)
else
it_bi (f_X6_keeps κ  S7) (fun _ S10 =>
lp_X6_worst_46 κ x1 x2 x3 (fun v19 v20 S21 =>
it_bi (f_X6_lays κ  S21) (fun _ S22 =>
if x3 = 0 then
some (v19, S22)
else
some (v20, S22))) it_FU (-1) 0 1 S10))))
set_option maxHeartbeats 4000000 in
set_option maxRecDepth 100000 in
theorem Llp_X6_worst_46 {g : it_G} {l : Launch} {κ : it_KK} {x1 : Int32} {x2 : Int32} {x3 : Int32} (hm : it_wm κ) {P : Int32 → it_SS → Prop} {k46 : (Int32 → Int32 → it_SS → Option (Int32 × it_SS))} (hk46 : ∀ (v4 : Int32) (v5 : Int32) (S : it_SS), it_ok (k46 v4 v5 S) P → it_Ev g l 6 it_m_X6_worst 0 0 118 [some (.ref 45), none, none, some (.int x3), some (.int v4), some (.int v5), none, none, none] [] κ S (it_pi κ P)) : ∀ (n : Nat) (v4 : Int32) (v5 : Int32) (v6 : Int32) (S : it_SS), it_ok (lp_X6_worst_46 κ x1 x2 x3 k46 n v4 v5 v6 S) P → it_Ev g l 6 it_m_X6_worst 0 0 46 [some (.ref 45), some (.int x1), some (.int x2), some (.int x3), some (.int v4), some (.int v5), some (.int v6), none, none] [] κ S (it_pi κ P) := by
  intro n
  induction n with
  | zero =>
    intro _ _ _ _ h
    exact (it_ok_n h).elim
  | succ n46 ih46 =>
    intro v4 v5 v6 S h
    rw [lp_X6_worst_46] at h
    refine ev_iload d_X6_worst_46 rfl ?_
    refine ev_iload_n d_X6_worst_48 rfl ?_
    refine ev_icmp_gt (tgt := 118) d_X6_worst_49 (by decide) (fun hc12 => ?_) (fun hc12 => ?_)
    · have h := it_ok_t h hc12
      refine ev_keep [true, false, false, true, true, true, false, false, false] ?_
      exact hk46 _ _ _ h
    · have h := it_ok_f h hc12
      refine ev_aload_n d_X6_worst_52 rfl ?_
      refine ev_getRr (r := 48) rfl d_X6_worst_53 fl_IcedTooSoonModel_16 hm.1 rfl ?_
      refine ev_iconst d_X6_worst_56 kv_iconst_2 ?_
      refine ev_iload_n d_X6_worst_57 rfl ?_
      refine ev_imul d_X6_worst_58 ?_
      obtain ⟨hb13, h⟩ := it_ok_g h
      refine ev_iald d_X6_worst_59 (hm).2.2.2.1 (it_bd_in hb13) ?_
      refine ev_istore d_X6_worst_60 (by decide) ?_
      show it_Ev g l 6 it_m_X6_worst 0 0 62 [some (.ref 45), some (.int x1), some (.int x2), some (.int x3), some (.int v4), some (.int v5), some (.int v6), some (.int (S 48 ((2 * x1) : Int32).toNatClampNeg)), none] [] κ S (it_pi κ P)
      refine ev_aload_n d_X6_worst_62 rfl ?_
      refine ev_callV (ci := 6) (b := 45) (M' := it_m_X6_dayOf) (d' := 5) (As := []) d_X6_worst_63 ml_IcedTooSoonModel_191 hm.1.1 hm.1.2.1 ⟨_, rfl, rfl⟩ rfl rfl (Nat.le_of_ble_eq_true rfl) (by decide) (by decide) (by decide) (L_X6_dayOf hm (it_ok_b h)) (fun _ _ _ _ q => by cases q.1; rfl) ?_
      rintro _ _ S14 ⟨rfl, r15, rfl, h⟩
      show it_Ev g l 6 it_m_X6_worst 0 0 66 [some (.ref 45), some (.int x1), some (.int x2), some (.int x3), some (.int v4), some (.int v5), some (.int v6), some (.int (S 48 ((2 * x1) : Int32).toNatClampNeg)), none] [.int r15] κ S14 (it_pi κ P)
      refine ev_pop d_X6_worst_66 rfl ?_
      refine ev_iload d_X6_worst_67 rfl ?_
      refine ev_aload_n d_X6_worst_69 rfl ?_
      refine ev_getRr (r := 48) rfl d_X6_worst_70 fl_IcedTooSoonModel_16 hm.1 rfl ?_
      refine ev_iconst d_X6_worst_73 kv_iconst_2 ?_
      refine ev_iload_n d_X6_worst_74 rfl ?_
      refine ev_imul d_X6_worst_75 ?_
      refine ev_iald d_X6_worst_76 (hm).2.2.2.1 (it_bd_in hb13) ?_
      refine ev_isub d_X6_worst_77 ?_
      refine ev_istore d_X6_worst_78 (by decide) ?_
      show it_Ev g l 6 it_m_X6_worst 0 0 80 [some (.ref 45), some (.int x1), some (.int x2), some (.int x3), some (.int v4), some (.int v5), some (.int v6), some (.int (S 48 ((2 * x1) : Int32).toNatClampNeg)), some (.int ((S 48 ((2 * x1) : Int32).toNatClampNeg) - (S14 48 ((2 * x1) : Int32).toNatClampNeg)))] [] κ S14 (it_pi κ P)
      refine ev_iload d_X6_worst_80 rfl ?_
      refine ev_iload d_X6_worst_82 rfl ?_
      refine ev_icmp_le (tgt := 92) d_X6_worst_84 (by decide) (fun hc16 => ?_) (fun hc16 => ?_)
      · have h := it_ok_t h hc16
        refine ev_iload d_X6_worst_92 rfl ?_
        refine ev_istore d_X6_worst_94 (by decide) ?_
        show it_Ev g l 6 it_m_X6_worst 0 0 96 [some (.ref 45), some (.int x1), some (.int x2), some (.int x3), some (.int v4), some (.int v5), some (.int v6), some (.int (S 48 ((2 * x1) : Int32).toNatClampNeg)), some (.int ((S 48 ((2 * x1) : Int32).toNatClampNeg) - (S14 48 ((2 * x1) : Int32).toNatClampNeg)))] [] κ S14 (it_pi κ P)
        refine ev_iload d_X6_worst_96 rfl ?_
        refine ev_iload d_X6_worst_98 rfl ?_
        refine ev_icmp_le (tgt := 108) d_X6_worst_100 (by decide) (fun hc17 => ?_) (fun hc17 => ?_)
        · have h := it_ok_t h hc17
          refine ev_iload d_X6_worst_108 rfl ?_
          refine ev_istore d_X6_worst_110 (by decide) ?_
          show it_Ev g l 6 it_m_X6_worst 0 0 112 [some (.ref 45), some (.int x1), some (.int x2), some (.int x3), some (.int v4), some (.int v5), some (.int v6), some (.int (S 48 ((2 * x1) : Int32).toNatClampNeg)), some (.int ((S 48 ((2 * x1) : Int32).toNatClampNeg) - (S14 48 ((2 * x1) : Int32).toNatClampNeg)))] [] κ S14 (it_pi κ P)
          refine ev_iinc d_X6_worst_112 kv_iconst_1 rfl (by decide) ?_
          show it_Ev g l 6 it_m_X6_worst 0 0 115 [some (.ref 45), some (.int x1), some (.int x2), some (.int x3), some (.int v4), some (.int v5), some (.int (v6 + 1)), some (.int (S 48 ((2 * x1) : Int32).toNatClampNeg)), some (.int ((S 48 ((2 * x1) : Int32).toNatClampNeg) - (S14 48 ((2 * x1) : Int32).toNatClampNeg)))] [] κ S14 (it_pi κ P)
          refine ev_goto (tgt := 46) d_X6_worst_115 (by decide) ?_
          refine ev_keep [true, true, true, true, true, true, true, false, false] ?_
          exact ih46 _ _ _ _ h
        · have h := it_ok_f h hc17
          refine ev_iload d_X6_worst_103 rfl ?_
          refine ev_goto (tgt := 110) d_X6_worst_105 (by decide) ?_
          refine ev_istore d_X6_worst_110 (by decide) ?_
          show it_Ev g l 6 it_m_X6_worst 0 0 112 [some (.ref 45), some (.int x1), some (.int x2), some (.int x3), some (.int v4), some (.int ((S 48 ((2 * x1) : Int32).toNatClampNeg) - (S14 48 ((2 * x1) : Int32).toNatClampNeg))), some (.int v6), some (.int (S 48 ((2 * x1) : Int32).toNatClampNeg)), some (.int ((S 48 ((2 * x1) : Int32).toNatClampNeg) - (S14 48 ((2 * x1) : Int32).toNatClampNeg)))] [] κ S14 (it_pi κ P)
          refine ev_iinc d_X6_worst_112 kv_iconst_1 rfl (by decide) ?_
          show it_Ev g l 6 it_m_X6_worst 0 0 115 [some (.ref 45), some (.int x1), some (.int x2), some (.int x3), some (.int v4), some (.int ((S 48 ((2 * x1) : Int32).toNatClampNeg) - (S14 48 ((2 * x1) : Int32).toNatClampNeg))), some (.int (v6 + 1)), some (.int (S 48 ((2 * x1) : Int32).toNatClampNeg)), some (.int ((S 48 ((2 * x1) : Int32).toNatClampNeg) - (S14 48 ((2 * x1) : Int32).toNatClampNeg)))] [] κ S14 (it_pi κ P)
          refine ev_goto (tgt := 46) d_X6_worst_115 (by decide) ?_
          refine ev_keep [true, true, true, true, true, true, true, false, false] ?_
          exact ih46 _ _ _ _ h
      · have h := it_ok_f h hc16
        refine ev_iload d_X6_worst_87 rfl ?_
        refine ev_goto (tgt := 94) d_X6_worst_89 (by decide) ?_
        refine ev_istore d_X6_worst_94 (by decide) ?_
        show it_Ev g l 6 it_m_X6_worst 0 0 96 [some (.ref 45), some (.int x1), some (.int x2), some (.int x3), some (.int v6), some (.int v5), some (.int v6), some (.int (S 48 ((2 * x1) : Int32).toNatClampNeg)), some (.int ((S 48 ((2 * x1) : Int32).toNatClampNeg) - (S14 48 ((2 * x1) : Int32).toNatClampNeg)))] [] κ S14 (it_pi κ P)
        refine ev_iload d_X6_worst_96 rfl ?_
        refine ev_iload d_X6_worst_98 rfl ?_
        refine ev_icmp_le (tgt := 108) d_X6_worst_100 (by decide) (fun hc18 => ?_) (fun hc18 => ?_)
        · have h := it_ok_t h hc18
          refine ev_iload d_X6_worst_108 rfl ?_
          refine ev_istore d_X6_worst_110 (by decide) ?_
          show it_Ev g l 6 it_m_X6_worst 0 0 112 [some (.ref 45), some (.int x1), some (.int x2), some (.int x3), some (.int v6), some (.int v5), some (.int v6), some (.int (S 48 ((2 * x1) : Int32).toNatClampNeg)), some (.int ((S 48 ((2 * x1) : Int32).toNatClampNeg) - (S14 48 ((2 * x1) : Int32).toNatClampNeg)))] [] κ S14 (it_pi κ P)
          refine ev_iinc d_X6_worst_112 kv_iconst_1 rfl (by decide) ?_
          show it_Ev g l 6 it_m_X6_worst 0 0 115 [some (.ref 45), some (.int x1), some (.int x2), some (.int x3), some (.int v6), some (.int v5), some (.int (v6 + 1)), some (.int (S 48 ((2 * x1) : Int32).toNatClampNeg)), some (.int ((S 48 ((2 * x1) : Int32).toNatClampNeg) - (S14 48 ((2 * x1) : Int32).toNatClampNeg)))] [] κ S14 (it_pi κ P)
          refine ev_goto (tgt := 46) d_X6_worst_115 (by decide) ?_
          refine ev_keep [true, true, true, true, true, true, true, false, false] ?_
          exact ih46 _ _ _ _ h
        · have h := it_ok_f h hc18
          refine ev_iload d_X6_worst_103 rfl ?_
          refine ev_goto (tgt := 110) d_X6_worst_105 (by decide) ?_
          refine ev_istore d_X6_worst_110 (by decide) ?_
          show it_Ev g l 6 it_m_X6_worst 0 0 112 [some (.ref 45), some (.int x1), some (.int x2), some (.int x3), some (.int v6), some (.int ((S 48 ((2 * x1) : Int32).toNatClampNeg) - (S14 48 ((2 * x1) : Int32).toNatClampNeg))), some (.int v6), some (.int (S 48 ((2 * x1) : Int32).toNatClampNeg)), some (.int ((S 48 ((2 * x1) : Int32).toNatClampNeg) - (S14 48 ((2 * x1) : Int32).toNatClampNeg)))] [] κ S14 (it_pi κ P)
          refine ev_iinc d_X6_worst_112 kv_iconst_1 rfl (by decide) ?_
          show it_Ev g l 6 it_m_X6_worst 0 0 115 [some (.ref 45), some (.int x1), some (.int x2), some (.int x3), some (.int v6), some (.int ((S 48 ((2 * x1) : Int32).toNatClampNeg) - (S14 48 ((2 * x1) : Int32).toNatClampNeg))), some (.int (v6 + 1)), some (.int (S 48 ((2 * x1) : Int32).toNatClampNeg)), some (.int ((S 48 ((2 * x1) : Int32).toNatClampNeg) - (S14 48 ((2 * x1) : Int32).toNatClampNeg)))] [] κ S14 (it_pi κ P)
          refine ev_goto (tgt := 46) d_X6_worst_115 (by decide) ?_
          refine ev_keep [true, true, true, true, true, true, true, false, false] ?_
          exact ih46 _ _ _ _ h
set_option maxHeartbeats 4000000 in
set_option maxRecDepth 100000 in
theorem L_X6_worst {g : it_G} {l : Launch} {κ : it_KK} {x1 : Int32} {x2 : Int32} {x3 : Int32} (hm : it_wm κ) {S : it_SS} {P : Int32 → it_SS → Prop} (h : it_ok (f_X6_worst κ x1 x2 x3 S) P) : it_Cn g l 6 it_m_X6_worst [.ref 45, .int x1, .int x2, .int x3] κ S (it_pi κ P) := by
  refine it_Cn.of (by decide +kernel) (Nat.le_of_ble_eq_true rfl) ?_
  rw [f_X6_worst] at h
  show it_Ev g l 6 it_m_X6_worst 0 0 0 [some (.ref 45), some (.int x1), some (.int x2), some (.int x3), none, none, none, none, none] [] κ S (it_pi κ P)
  refine ev_aload_n d_X6_worst_0 rfl ?_
  refine ev_iload_n d_X6_worst_1 rfl ?_
  refine ev_callV (ci := 6) (b := 45) (M' := it_m_X6_isOne) (d' := 2) (As := [.int x1]) d_X6_worst_2 ml_IcedTooSoonModel_173 hm.1.1 hm.1.2.1 ⟨_, rfl, rfl⟩ rfl rfl (Nat.le_of_ble_eq_true rfl) (by decide) (by decide) (by decide) (L_X6_isOne hm (it_ok_b h)) (fun _ _ _ _ q => by cases q.1; rfl) ?_
  rintro _ _ S1 ⟨rfl, r2, rfl, h⟩
  show it_Ev g l 6 it_m_X6_worst 0 0 5 [some (.ref 45), some (.int x1), some (.int x2), some (.int x3), none, none, none, none, none] [.int r2] κ S1 (it_pi κ P)
  refine ev_if_ne (tgt := 11) d_X6_worst_5 (by decide) (fun hc3 => ?_) (fun hc3 => ?_)
  · have h := it_ok_f h hc3
    refine ev_iload_n d_X6_worst_11 rfl ?_
    refine ev_iconst d_X6_worst_12 kv_iconst_1 ?_
    refine ev_bipush d_X6_worst_13 kv_bipush_40 ?_
    refine ev_callS (M' := it_m_X6_in) (d' := 1) (As := [.int x2, .int 1, .int 40]) d_X6_worst_15 ml_IcedTooSoonModel_78 rfl rfl (Nat.le_of_ble_eq_true rfl) (by decide) (by decide) (by decide) (L_X6_in  (it_ok_b h)) (fun _ _ _ _ q => by cases q.1; rfl) ?_
    rintro _ _ S4 ⟨rfl, r5, rfl, h⟩
    show it_Ev g l 6 it_m_X6_worst 0 0 18 [some (.ref 45), some (.int x1), some (.int x2), some (.int x3), none, none, none, none, none] [.int r5] κ S4 (it_pi κ P)
    refine ev_if_eq (tgt := 30) d_X6_worst_18 (by decide) (fun hc6 => ?_) (fun hc6 => ?_)
    · have h := it_ok_t h hc6
      refine ev_bipush d_X6_worst_30 kv_bipush_m7 ?_
      exact ev_ret (v := some (.int _)) ⟨d_X6_worst_32, _, rfl, rfl⟩ (by decide) (by decide) ⟨rfl, _, rfl, it_ok_r h⟩
    · have h := it_ok_f h hc6
      refine ev_iload_n d_X6_worst_21 rfl ?_
      refine ev_iconst d_X6_worst_22 kv_iconst_0 ?_
      refine ev_iconst d_X6_worst_23 kv_iconst_1 ?_
      refine ev_callS (M' := it_m_X6_in) (d' := 1) (As := [.int x3, .int 0, .int 1]) d_X6_worst_24 ml_IcedTooSoonModel_78 rfl rfl (Nat.le_of_ble_eq_true rfl) (by decide) (by decide) (by decide) (L_X6_in  (it_ok_b h)) (fun _ _ _ _ q => by cases q.1; rfl) ?_
      rintro _ _ S7 ⟨rfl, r8, rfl, h⟩
      show it_Ev g l 6 it_m_X6_worst 0 0 27 [some (.ref 45), some (.int x1), some (.int x2), some (.int x3), none, none, none, none, none] [.int r8] κ S7 (it_pi κ P)
      refine ev_if_ne (tgt := 33) d_X6_worst_27 (by decide) (fun hc9 => ?_) (fun hc9 => ?_)
      · have h := it_ok_f h hc9
        refine ev_iconst d_X6_worst_33 kv_iconst_m1 ?_
        refine ev_istore d_X6_worst_34 (by decide) ?_
        show it_Ev g l 6 it_m_X6_worst 0 0 36 [some (.ref 45), some (.int x1), some (.int x2), some (.int x3), some (.int (-1)), none, none, none, none] [] κ S7 (it_pi κ P)
        refine ev_iconst d_X6_worst_36 kv_iconst_0 ?_
        refine ev_istore d_X6_worst_37 (by decide) ?_
        show it_Ev g l 6 it_m_X6_worst 0 0 39 [some (.ref 45), some (.int x1), some (.int x2), some (.int x3), some (.int (-1)), some (.int 0), none, none, none] [] κ S7 (it_pi κ P)
        refine ev_aload_n d_X6_worst_39 rfl ?_
        refine ev_callV (ci := 6) (b := 45) (M' := it_m_X6_keeps) (d' := 1) (As := []) d_X6_worst_40 ml_IcedTooSoonModel_194 hm.1.1 hm.1.2.1 ⟨_, rfl, rfl⟩ rfl rfl (Nat.le_of_ble_eq_true rfl) (by decide) (by decide) (by decide) (L_X6_keeps hm (it_ok_b h)) (fun _ _ _ _ q => by cases q.1; rfl) ?_
        rintro _ _ S10 ⟨rfl, rfl, h⟩
        show it_Ev g l 6 it_m_X6_worst 0 0 43 [some (.ref 45), some (.int x1), some (.int x2), some (.int x3), some (.int (-1)), some (.int 0), none, none, none] [] κ S10 (it_pi κ P)
        refine ev_iconst d_X6_worst_43 kv_iconst_1 ?_
        refine ev_istore d_X6_worst_44 (by decide) ?_
        show it_Ev g l 6 it_m_X6_worst 0 0 46 [some (.ref 45), some (.int x1), some (.int x2), some (.int x3), some (.int (-1)), some (.int 0), some (.int 1), none, none] [] κ S10 (it_pi κ P)
        refine ev_keep [true, true, true, true, true, true, true, false, false] ?_
        refine Llp_X6_worst_46 hm (fun v19 v20 S21 h => ?_) _ _ _ _ _ h
        show it_Ev g l 6 it_m_X6_worst 0 0 118 [some (.ref 45), none, none, some (.int x3), some (.int v19), some (.int v20), none, none, none] [] κ S21 (it_pi κ P)
        refine ev_aload_n d_X6_worst_118 rfl ?_
        refine ev_callV (ci := 6) (b := 45) (M' := it_m_X6_lays) (d' := 1) (As := []) d_X6_worst_119 ml_IcedTooSoonModel_197 hm.1.1 hm.1.2.1 ⟨_, rfl, rfl⟩ rfl rfl (Nat.le_of_ble_eq_true rfl) (by decide) (by decide) (by decide) (L_X6_lays hm (it_ok_b h)) (fun _ _ _ _ q => by cases q.1; rfl) ?_
        rintro _ _ S22 ⟨rfl, rfl, h⟩
        show it_Ev g l 6 it_m_X6_worst 0 0 122 [some (.ref 45), none, none, some (.int x3), some (.int v19), some (.int v20), none, none, none] [] κ S22 (it_pi κ P)
        refine ev_iload_n d_X6_worst_122 rfl ?_
        refine ev_if_ne (tgt := 131) d_X6_worst_123 (by decide) (fun hc24 => ?_) (fun hc24 => ?_)
        · have h := it_ok_f h hc24
          refine ev_iload d_X6_worst_131 rfl ?_
          exact ev_ret (v := some (.int _)) ⟨d_X6_worst_133, _, rfl, rfl⟩ (by decide) (by decide) ⟨rfl, _, rfl, it_ok_r h⟩
        · have h := it_ok_t h hc24
          refine ev_iload d_X6_worst_126 rfl ?_
          refine ev_goto (tgt := 133) d_X6_worst_128 (by decide) ?_
          exact ev_ret (v := some (.int _)) ⟨d_X6_worst_133, _, rfl, rfl⟩ (by decide) (by decide) ⟨rfl, _, rfl, it_ok_r h⟩
      · have h := it_ok_t h hc9
        refine ev_bipush d_X6_worst_30 kv_bipush_m7 ?_
        exact ev_ret (v := some (.int _)) ⟨d_X6_worst_32, _, rfl, rfl⟩ (by decide) (by decide) ⟨rfl, _, rfl, it_ok_r h⟩
  · have h := it_ok_t h hc3
    refine ev_bipush d_X6_worst_8 kv_bipush_m5 ?_
    exact ev_ret (v := some (.int _)) ⟨d_X6_worst_10, _, rfl, rfl⟩ (by decide) (by decide) ⟨rfl, _, rfl, it_ok_r h⟩
theorem d_X6_belowSet_0 : decode prog_8_method_51_code 0 = .ok (.iconst 0, 1) := by decide +kernel
theorem d_X6_belowSet_1 : decode prog_8_method_51_code 1 = .ok (.istore_n 2, 1) := by decide +kernel
theorem d_X6_belowSet_2 : decode prog_8_method_51_code 2 = .ok (.iconst 0, 1) := by decide +kernel
theorem d_X6_belowSet_3 : decode prog_8_method_51_code 3 = .ok (.istore_n 3, 1) := by decide +kernel
theorem d_X6_belowSet_4 : decode prog_8_method_51_code 4 = .ok (.iload_n 3, 1) := by decide +kernel
theorem d_X6_belowSet_5 : decode prog_8_method_51_code 5 = .ok (.aload_n 0, 1) := by decide +kernel
theorem d_X6_belowSet_6 : decode prog_8_method_51_code 6 = .ok (.getfield 75, 3) := by decide +kernel
theorem d_X6_belowSet_9 : decode prog_8_method_51_code 9 = .ok (.if_icmp .ge 31, 3) := by decide +kernel
theorem d_X6_belowSet_12 : decode prog_8_method_51_code 12 = .ok (.iload_n 2, 1) := by decide +kernel
theorem d_X6_belowSet_13 : decode prog_8_method_51_code 13 = .ok (.aload_n 0, 1) := by decide +kernel
theorem d_X6_belowSet_14 : decode prog_8_method_51_code 14 = .ok (.getfield 16, 3) := by decide +kernel
theorem d_X6_belowSet_17 : decode prog_8_method_51_code 17 = .ok (.iconst 2, 1) := by decide +kernel
theorem d_X6_belowSet_18 : decode prog_8_method_51_code 18 = .ok (.iload_n 3, 1) := by decide +kernel
theorem d_X6_belowSet_19 : decode prog_8_method_51_code 19 = .ok (.imul, 1) := by decide +kernel
theorem d_X6_belowSet_20 : decode prog_8_method_51_code 20 = .ok (.iaload, 1) := by decide +kernel
theorem d_X6_belowSet_21 : decode prog_8_method_51_code 21 = .ok (.iload_n 1, 1) := by decide +kernel
theorem d_X6_belowSet_22 : decode prog_8_method_51_code 22 = .ok (.if_icmp .ge 9, 3) := by decide +kernel
theorem d_X6_belowSet_25 : decode prog_8_method_51_code 25 = .ok (.iconst 1, 1) := by decide +kernel
theorem d_X6_belowSet_26 : decode prog_8_method_51_code 26 = .ok (.iload_n 3, 1) := by decide +kernel
theorem d_X6_belowSet_27 : decode prog_8_method_51_code 27 = .ok (.ishl, 1) := by decide +kernel
theorem d_X6_belowSet_28 : decode prog_8_method_51_code 28 = .ok (.goto 4, 3) := by decide +kernel
theorem d_X6_belowSet_31 : decode prog_8_method_51_code 31 = .ok (.iconst 0, 1) := by decide +kernel
theorem d_X6_belowSet_32 : decode prog_8_method_51_code 32 = .ok (.ior, 1) := by decide +kernel
theorem d_X6_belowSet_33 : decode prog_8_method_51_code 33 = .ok (.istore_n 2, 1) := by decide +kernel
theorem d_X6_belowSet_34 : decode prog_8_method_51_code 34 = .ok (.iinc 3 1, 3) := by decide +kernel
theorem d_X6_belowSet_37 : decode prog_8_method_51_code 37 = .ok (.goto (-33), 3) := by decide +kernel
theorem d_X6_belowSet_40 : decode prog_8_method_51_code 40 = .ok (.iload_n 2, 1) := by decide +kernel
theorem d_X6_belowSet_41 : decode prog_8_method_51_code 41 = .ok (.ireturn, 1) := by decide +kernel
def lp_X6_belowSet_4 (κ : it_KK) (x1 : Int32) (k4 : (Int32 → it_SS → Option (Int32 × it_SS))) : Nat → Int32 → Int32 → it_SS → Option (Int32 × it_SS)
  | 0, _, _, _ => none
  | n4 + 1, v2, v3, S => if (S 45 0) ≤ v3 then
k4 v2 S
else
if it_bd (2 * v3) 12 = true then
if x1 ≤ (S 48 ((2 * v3) : Int32).toNatClampNeg) then
lp_X6_belowSet_4 κ x1 k4 n4 (v2 ||| 0) (v3 + 1) S
else
lp_X6_belowSet_4 κ x1 k4 n4 (v2 ||| (1 <<< (v3 &&& 31))) (v3 + 1) S
else none
def f_X6_belowSet (κ : it_KK) (x1 : Int32) (S : it_SS) : Option (Int32 × it_SS) :=
lp_X6_belowSet_4 κ x1 (fun v4 S5 =>
some (v4, S5)) it_FU 0 0 S
set_option maxHeartbeats 4000000 in
set_option maxRecDepth 100000 in
theorem Llp_X6_belowSet_4 {g : it_G} {l : Launch} {κ : it_KK} {x1 : Int32} (hm : it_wm κ) {P : Int32 → it_SS → Prop} {k4 : (Int32 → it_SS → Option (Int32 × it_SS))} (hk4 : ∀ (v2 : Int32) (S : it_SS), it_ok (k4 v2 S) P → it_Ev g l 1 it_m_X6_belowSet 0 0 40 [none, none, some (.int v2), none] [] κ S (it_pi κ P)) : ∀ (n : Nat) (v2 : Int32) (v3 : Int32) (S : it_SS), it_ok (lp_X6_belowSet_4 κ x1 k4 n v2 v3 S) P → it_Ev g l 1 it_m_X6_belowSet 0 0 4 [some (.ref 45), some (.int x1), some (.int v2), some (.int v3)] [] κ S (it_pi κ P) := by
  intro n
  induction n with
  | zero =>
    intro _ _ _ h
    exact (it_ok_n h).elim
  | succ n4 ih4 =>
    intro v2 v3 S h
    rw [lp_X6_belowSet_4] at h
    refine ev_iload_n d_X6_belowSet_4 rfl ?_
    refine ev_aload_n d_X6_belowSet_5 rfl ?_
    refine ev_getI d_X6_belowSet_6 fl_IcedTooSoonModel_75 hm.1 rfl ?_
    refine ev_icmp_ge (tgt := 40) d_X6_belowSet_9 (by decide) (fun hc1 => ?_) (fun hc1 => ?_)
    · have h := it_ok_t h hc1
      refine ev_keep [false, false, true, false] ?_
      exact hk4 _ _ h
    · have h := it_ok_f h hc1
      refine ev_iload_n d_X6_belowSet_12 rfl ?_
      refine ev_aload_n d_X6_belowSet_13 rfl ?_
      refine ev_getRr (r := 48) rfl d_X6_belowSet_14 fl_IcedTooSoonModel_16 hm.1 rfl ?_
      refine ev_iconst d_X6_belowSet_17 kv_iconst_2 ?_
      refine ev_iload_n d_X6_belowSet_18 rfl ?_
      refine ev_imul d_X6_belowSet_19 ?_
      obtain ⟨hb2, h⟩ := it_ok_g h
      refine ev_iald d_X6_belowSet_20 (hm).2.2.2.1 (it_bd_in hb2) ?_
      refine ev_iload_n d_X6_belowSet_21 rfl ?_
      refine ev_icmp_ge (tgt := 31) d_X6_belowSet_22 (by decide) (fun hc3 => ?_) (fun hc3 => ?_)
      · have h := it_ok_t h hc3
        refine ev_iconst d_X6_belowSet_31 kv_iconst_0 ?_
        refine ev_ior d_X6_belowSet_32 ?_
        refine ev_istore_n d_X6_belowSet_33 (by decide) ?_
        show it_Ev g l 1 it_m_X6_belowSet 0 0 34 [some (.ref 45), some (.int x1), some (.int (v2 ||| 0)), some (.int v3)] [] κ S (it_pi κ P)
        refine ev_iinc d_X6_belowSet_34 kv_iconst_1 rfl (by decide) ?_
        show it_Ev g l 1 it_m_X6_belowSet 0 0 37 [some (.ref 45), some (.int x1), some (.int (v2 ||| 0)), some (.int (v3 + 1))] [] κ S (it_pi κ P)
        refine ev_goto (tgt := 4) d_X6_belowSet_37 (by decide) ?_
        refine ev_keep [true, true, true, true] ?_
        exact ih4 _ _ _ h
      · have h := it_ok_f h hc3
        refine ev_iconst d_X6_belowSet_25 kv_iconst_1 ?_
        refine ev_iload_n d_X6_belowSet_26 rfl ?_
        refine ev_ishl d_X6_belowSet_27 ?_
        refine ev_goto (tgt := 32) d_X6_belowSet_28 (by decide) ?_
        refine ev_ior d_X6_belowSet_32 ?_
        refine ev_istore_n d_X6_belowSet_33 (by decide) ?_
        show it_Ev g l 1 it_m_X6_belowSet 0 0 34 [some (.ref 45), some (.int x1), some (.int (v2 ||| (1 <<< (v3 &&& 31)))), some (.int v3)] [] κ S (it_pi κ P)
        refine ev_iinc d_X6_belowSet_34 kv_iconst_1 rfl (by decide) ?_
        show it_Ev g l 1 it_m_X6_belowSet 0 0 37 [some (.ref 45), some (.int x1), some (.int (v2 ||| (1 <<< (v3 &&& 31)))), some (.int (v3 + 1))] [] κ S (it_pi κ P)
        refine ev_goto (tgt := 4) d_X6_belowSet_37 (by decide) ?_
        refine ev_keep [true, true, true, true] ?_
        exact ih4 _ _ _ h
set_option maxHeartbeats 4000000 in
set_option maxRecDepth 100000 in
theorem L_X6_belowSet {g : it_G} {l : Launch} {κ : it_KK} {x1 : Int32} (hm : it_wm κ) {S : it_SS} {P : Int32 → it_SS → Prop} (h : it_ok (f_X6_belowSet κ x1 S) P) : it_Cn g l 1 it_m_X6_belowSet [.ref 45, .int x1] κ S (it_pi κ P) := by
  refine it_Cn.of (by decide +kernel) (Nat.le_of_ble_eq_true rfl) ?_
  rw [f_X6_belowSet] at h
  show it_Ev g l 1 it_m_X6_belowSet 0 0 0 [some (.ref 45), some (.int x1), none, none] [] κ S (it_pi κ P)
  refine ev_iconst d_X6_belowSet_0 kv_iconst_0 ?_
  refine ev_istore_n d_X6_belowSet_1 (by decide) ?_
  show it_Ev g l 1 it_m_X6_belowSet 0 0 2 [some (.ref 45), some (.int x1), some (.int 0), none] [] κ S (it_pi κ P)
  refine ev_iconst d_X6_belowSet_2 kv_iconst_0 ?_
  refine ev_istore_n d_X6_belowSet_3 (by decide) ?_
  show it_Ev g l 1 it_m_X6_belowSet 0 0 4 [some (.ref 45), some (.int x1), some (.int 0), some (.int 0)] [] κ S (it_pi κ P)
  refine ev_keep [true, true, true, true] ?_
  refine Llp_X6_belowSet_4 hm (fun v4 S5 h => ?_) _ _ _ _ h
  show it_Ev g l 1 it_m_X6_belowSet 0 0 40 [none, none, some (.int v4), none] [] κ S5 (it_pi κ P)
  refine ev_iload_n d_X6_belowSet_40 rfl ?_
  exact ev_ret (v := some (.int _)) ⟨d_X6_belowSet_41, _, rfl, rfl⟩ (by decide) (by decide) ⟨rfl, _, rfl, it_ok_r h⟩
theorem d_X6_falls_0 : decode prog_8_method_52_code 0 = .ok (.iload_n 1, 1) := by decide +kernel
theorem d_X6_falls_1 : decode prog_8_method_52_code 1 = .ok (.iconst 0, 1) := by decide +kernel
theorem d_X6_falls_2 : decode prog_8_method_52_code 2 = .ok (.bipush 40, 2) := by decide +kernel
theorem d_X6_falls_4 : decode prog_8_method_52_code 4 = .ok (.invokestatic 78, 3) := by decide +kernel
theorem d_X6_falls_7 : decode prog_8_method_52_code 7 = .ok (.ifCond .eq 14, 3) := by decide +kernel
theorem d_X6_falls_10 : decode prog_8_method_52_code 10 = .ok (.iload_n 2, 1) := by decide +kernel
theorem d_X6_falls_11 : decode prog_8_method_52_code 11 = .ok (.bipush (-99), 2) := by decide +kernel
theorem d_X6_falls_13 : decode prog_8_method_52_code 13 = .ok (.bipush 99, 2) := by decide +kernel
theorem d_X6_falls_15 : decode prog_8_method_52_code 15 = .ok (.invokestatic 78, 3) := by decide +kernel
theorem d_X6_falls_18 : decode prog_8_method_52_code 18 = .ok (.ifCond .ne 6, 3) := by decide +kernel
theorem d_X6_falls_21 : decode prog_8_method_52_code 21 = .ok (.bipush (-2), 2) := by decide +kernel
theorem d_X6_falls_23 : decode prog_8_method_52_code 23 = .ok (.ireturn, 1) := by decide +kernel
theorem d_X6_falls_24 : decode prog_8_method_52_code 24 = .ok (.aload_n 0, 1) := by decide +kernel
theorem d_X6_falls_25 : decode prog_8_method_52_code 25 = .ok (.iload_n 2, 1) := by decide +kernel
theorem d_X6_falls_26 : decode prog_8_method_52_code 26 = .ok (.invokevirtual 210, 3) := by decide +kernel
theorem d_X6_falls_29 : decode prog_8_method_52_code 29 = .ok (.istore_n 3, 1) := by decide +kernel
theorem d_X6_falls_30 : decode prog_8_method_52_code 30 = .ok (.aload_n 0, 1) := by decide +kernel
theorem d_X6_falls_31 : decode prog_8_method_52_code 31 = .ok (.invokevirtual 194, 3) := by decide +kernel
theorem d_X6_falls_34 : decode prog_8_method_52_code 34 = .ok (.iconst 0, 1) := by decide +kernel
theorem d_X6_falls_35 : decode prog_8_method_52_code 35 = .ok (.istore 4, 2) := by decide +kernel
theorem d_X6_falls_37 : decode prog_8_method_52_code 37 = .ok (.iload 4, 2) := by decide +kernel
theorem d_X6_falls_39 : decode prog_8_method_52_code 39 = .ok (.iload_n 1, 1) := by decide +kernel
theorem d_X6_falls_40 : decode prog_8_method_52_code 40 = .ok (.if_icmp .ge 22, 3) := by decide +kernel
theorem d_X6_falls_43 : decode prog_8_method_52_code 43 = .ok (.aload_n 0, 1) := by decide +kernel
theorem d_X6_falls_44 : decode prog_8_method_52_code 44 = .ok (.invokevirtual 191, 3) := by decide +kernel
theorem d_X6_falls_47 : decode prog_8_method_52_code 47 = .ok (.pop, 1) := by decide +kernel
theorem d_X6_falls_48 : decode prog_8_method_52_code 48 = .ok (.iload_n 3, 1) := by decide +kernel
theorem d_X6_falls_49 : decode prog_8_method_52_code 49 = .ok (.aload_n 0, 1) := by decide +kernel
theorem d_X6_falls_50 : decode prog_8_method_52_code 50 = .ok (.iload_n 2, 1) := by decide +kernel
theorem d_X6_falls_51 : decode prog_8_method_52_code 51 = .ok (.invokevirtual 210, 3) := by decide +kernel
theorem d_X6_falls_54 : decode prog_8_method_52_code 54 = .ok (.ior, 1) := by decide +kernel
theorem d_X6_falls_55 : decode prog_8_method_52_code 55 = .ok (.istore_n 3, 1) := by decide +kernel
theorem d_X6_falls_56 : decode prog_8_method_52_code 56 = .ok (.iinc 4 1, 3) := by decide +kernel
theorem d_X6_falls_59 : decode prog_8_method_52_code 59 = .ok (.goto (-22), 3) := by decide +kernel
theorem d_X6_falls_62 : decode prog_8_method_52_code 62 = .ok (.aload_n 0, 1) := by decide +kernel
theorem d_X6_falls_63 : decode prog_8_method_52_code 63 = .ok (.invokevirtual 197, 3) := by decide +kernel
theorem d_X6_falls_66 : decode prog_8_method_52_code 66 = .ok (.iload_n 3, 1) := by decide +kernel
theorem d_X6_falls_67 : decode prog_8_method_52_code 67 = .ok (.ireturn, 1) := by decide +kernel
def lp_X6_falls_37 (κ : it_KK) (x1 : Int32) (x2 : Int32) (k37 : (Int32 → it_SS → Option (Int32 × it_SS))) : Nat → Int32 → Int32 → it_SS → Option (Int32 × it_SS)
  | 0, _, _, _ => none
  | n37 + 1, v3, v4, S => if x1 ≤ v4 then
k37 v3 S
else
it_bi (f_X6_dayOf κ  S) (fun r13 S12 =>
it_bi (f_X6_belowSet κ x2 S12) (fun r15 S14 =>
lp_X6_falls_37 κ x1 x2 k37 n37 (v3 ||| r15) (v4 + 1) S14))
def f_X6_falls (κ : it_KK) (x1 : Int32) (x2 : Int32) (S : it_SS) : Option (Int32 × it_SS) :=
it_bi (f_X6_in κ x1 0 40 S) (fun r2 S1 =>
if r2 = 0 then
some ((-2), S1)
else
it_bi (f_X6_in κ x2 (-99) 99 S1) (fun r5 S4 =>
if r5 = 0 then
some ((-2), S4)
else
it_bi (f_X6_belowSet κ x2 S4) (fun r8 S7 =>
it_bi (f_X6_keeps κ  S7) (fun _ S9 =>
lp_X6_falls_37 κ x1 x2 (fun v16 S17 =>
it_bi (f_X6_lays κ  S17) (fun _ S18 =>
some (v16, S18))) it_FU r8 0 S9))))
set_option maxHeartbeats 4000000 in
set_option maxRecDepth 100000 in
theorem Llp_X6_falls_37 {g : it_G} {l : Launch} {κ : it_KK} {x1 : Int32} {x2 : Int32} (hm : it_wm κ) {P : Int32 → it_SS → Prop} {k37 : (Int32 → it_SS → Option (Int32 × it_SS))} (hk37 : ∀ (v3 : Int32) (S : it_SS), it_ok (k37 v3 S) P → it_Ev g l 6 it_m_X6_falls 0 0 62 [some (.ref 45), none, none, some (.int v3), none] [] κ S (it_pi κ P)) : ∀ (n : Nat) (v3 : Int32) (v4 : Int32) (S : it_SS), it_ok (lp_X6_falls_37 κ x1 x2 k37 n v3 v4 S) P → it_Ev g l 6 it_m_X6_falls 0 0 37 [some (.ref 45), some (.int x1), some (.int x2), some (.int v3), some (.int v4)] [] κ S (it_pi κ P) := by
  intro n
  induction n with
  | zero =>
    intro _ _ _ h
    exact (it_ok_n h).elim
  | succ n37 ih37 =>
    intro v3 v4 S h
    rw [lp_X6_falls_37] at h
    refine ev_iload d_X6_falls_37 rfl ?_
    refine ev_iload_n d_X6_falls_39 rfl ?_
    refine ev_icmp_ge (tgt := 62) d_X6_falls_40 (by decide) (fun hc11 => ?_) (fun hc11 => ?_)
    · have h := it_ok_t h hc11
      refine ev_keep [true, false, false, true, false] ?_
      exact hk37 _ _ h
    · have h := it_ok_f h hc11
      refine ev_aload_n d_X6_falls_43 rfl ?_
      refine ev_callV (ci := 6) (b := 45) (M' := it_m_X6_dayOf) (d' := 5) (As := []) d_X6_falls_44 ml_IcedTooSoonModel_191 hm.1.1 hm.1.2.1 ⟨_, rfl, rfl⟩ rfl rfl (Nat.le_of_ble_eq_true rfl) (by decide) (by decide) (by decide) (L_X6_dayOf hm (it_ok_b h)) (fun _ _ _ _ q => by cases q.1; rfl) ?_
      rintro _ _ S12 ⟨rfl, r13, rfl, h⟩
      show it_Ev g l 6 it_m_X6_falls 0 0 47 [some (.ref 45), some (.int x1), some (.int x2), some (.int v3), some (.int v4)] [.int r13] κ S12 (it_pi κ P)
      refine ev_pop d_X6_falls_47 rfl ?_
      refine ev_iload_n d_X6_falls_48 rfl ?_
      refine ev_aload_n d_X6_falls_49 rfl ?_
      refine ev_iload_n d_X6_falls_50 rfl ?_
      refine ev_callV (ci := 6) (b := 45) (M' := it_m_X6_belowSet) (d' := 1) (As := [.int x2]) d_X6_falls_51 ml_IcedTooSoonModel_210 hm.1.1 hm.1.2.1 ⟨_, rfl, rfl⟩ rfl rfl (Nat.le_of_ble_eq_true rfl) (by decide) (by decide) (by decide) (L_X6_belowSet hm (it_ok_b h)) (fun _ _ _ _ q => by cases q.1; rfl) ?_
      rintro _ _ S14 ⟨rfl, r15, rfl, h⟩
      show it_Ev g l 6 it_m_X6_falls 0 0 54 [some (.ref 45), some (.int x1), some (.int x2), some (.int v3), some (.int v4)] [.int r15, .int v3] κ S14 (it_pi κ P)
      refine ev_ior d_X6_falls_54 ?_
      refine ev_istore_n d_X6_falls_55 (by decide) ?_
      show it_Ev g l 6 it_m_X6_falls 0 0 56 [some (.ref 45), some (.int x1), some (.int x2), some (.int (v3 ||| r15)), some (.int v4)] [] κ S14 (it_pi κ P)
      refine ev_iinc d_X6_falls_56 kv_iconst_1 rfl (by decide) ?_
      show it_Ev g l 6 it_m_X6_falls 0 0 59 [some (.ref 45), some (.int x1), some (.int x2), some (.int (v3 ||| r15)), some (.int (v4 + 1))] [] κ S14 (it_pi κ P)
      refine ev_goto (tgt := 37) d_X6_falls_59 (by decide) ?_
      refine ev_keep [true, true, true, true, true] ?_
      exact ih37 _ _ _ h
set_option maxHeartbeats 4000000 in
set_option maxRecDepth 100000 in
theorem L_X6_falls {g : it_G} {l : Launch} {κ : it_KK} {x1 : Int32} {x2 : Int32} (hm : it_wm κ) {S : it_SS} {P : Int32 → it_SS → Prop} (h : it_ok (f_X6_falls κ x1 x2 S) P) : it_Cn g l 6 it_m_X6_falls [.ref 45, .int x1, .int x2] κ S (it_pi κ P) := by
  refine it_Cn.of (by decide +kernel) (Nat.le_of_ble_eq_true rfl) ?_
  rw [f_X6_falls] at h
  show it_Ev g l 6 it_m_X6_falls 0 0 0 [some (.ref 45), some (.int x1), some (.int x2), none, none] [] κ S (it_pi κ P)
  refine ev_iload_n d_X6_falls_0 rfl ?_
  refine ev_iconst d_X6_falls_1 kv_iconst_0 ?_
  refine ev_bipush d_X6_falls_2 kv_bipush_40 ?_
  refine ev_callS (M' := it_m_X6_in) (d' := 1) (As := [.int x1, .int 0, .int 40]) d_X6_falls_4 ml_IcedTooSoonModel_78 rfl rfl (Nat.le_of_ble_eq_true rfl) (by decide) (by decide) (by decide) (L_X6_in  (it_ok_b h)) (fun _ _ _ _ q => by cases q.1; rfl) ?_
  rintro _ _ S1 ⟨rfl, r2, rfl, h⟩
  show it_Ev g l 6 it_m_X6_falls 0 0 7 [some (.ref 45), some (.int x1), some (.int x2), none, none] [.int r2] κ S1 (it_pi κ P)
  refine ev_if_eq (tgt := 21) d_X6_falls_7 (by decide) (fun hc3 => ?_) (fun hc3 => ?_)
  · have h := it_ok_t h hc3
    refine ev_bipush d_X6_falls_21 kv_bipush_m2 ?_
    exact ev_ret (v := some (.int _)) ⟨d_X6_falls_23, _, rfl, rfl⟩ (by decide) (by decide) ⟨rfl, _, rfl, it_ok_r h⟩
  · have h := it_ok_f h hc3
    refine ev_iload_n d_X6_falls_10 rfl ?_
    refine ev_bipush d_X6_falls_11 kv_bipush_m99 ?_
    refine ev_bipush d_X6_falls_13 kv_bipush_99 ?_
    refine ev_callS (M' := it_m_X6_in) (d' := 1) (As := [.int x2, .int (-99), .int 99]) d_X6_falls_15 ml_IcedTooSoonModel_78 rfl rfl (Nat.le_of_ble_eq_true rfl) (by decide) (by decide) (by decide) (L_X6_in  (it_ok_b h)) (fun _ _ _ _ q => by cases q.1; rfl) ?_
    rintro _ _ S4 ⟨rfl, r5, rfl, h⟩
    show it_Ev g l 6 it_m_X6_falls 0 0 18 [some (.ref 45), some (.int x1), some (.int x2), none, none] [.int r5] κ S4 (it_pi κ P)
    refine ev_if_ne (tgt := 24) d_X6_falls_18 (by decide) (fun hc6 => ?_) (fun hc6 => ?_)
    · have h := it_ok_f h hc6
      refine ev_aload_n d_X6_falls_24 rfl ?_
      refine ev_iload_n d_X6_falls_25 rfl ?_
      refine ev_callV (ci := 6) (b := 45) (M' := it_m_X6_belowSet) (d' := 1) (As := [.int x2]) d_X6_falls_26 ml_IcedTooSoonModel_210 hm.1.1 hm.1.2.1 ⟨_, rfl, rfl⟩ rfl rfl (Nat.le_of_ble_eq_true rfl) (by decide) (by decide) (by decide) (L_X6_belowSet hm (it_ok_b h)) (fun _ _ _ _ q => by cases q.1; rfl) ?_
      rintro _ _ S7 ⟨rfl, r8, rfl, h⟩
      show it_Ev g l 6 it_m_X6_falls 0 0 29 [some (.ref 45), some (.int x1), some (.int x2), none, none] [.int r8] κ S7 (it_pi κ P)
      refine ev_istore_n d_X6_falls_29 (by decide) ?_
      show it_Ev g l 6 it_m_X6_falls 0 0 30 [some (.ref 45), some (.int x1), some (.int x2), some (.int r8), none] [] κ S7 (it_pi κ P)
      refine ev_aload_n d_X6_falls_30 rfl ?_
      refine ev_callV (ci := 6) (b := 45) (M' := it_m_X6_keeps) (d' := 1) (As := []) d_X6_falls_31 ml_IcedTooSoonModel_194 hm.1.1 hm.1.2.1 ⟨_, rfl, rfl⟩ rfl rfl (Nat.le_of_ble_eq_true rfl) (by decide) (by decide) (by decide) (L_X6_keeps hm (it_ok_b h)) (fun _ _ _ _ q => by cases q.1; rfl) ?_
      rintro _ _ S9 ⟨rfl, rfl, h⟩
      show it_Ev g l 6 it_m_X6_falls 0 0 34 [some (.ref 45), some (.int x1), some (.int x2), some (.int r8), none] [] κ S9 (it_pi κ P)
      refine ev_iconst d_X6_falls_34 kv_iconst_0 ?_
      refine ev_istore d_X6_falls_35 (by decide) ?_
      show it_Ev g l 6 it_m_X6_falls 0 0 37 [some (.ref 45), some (.int x1), some (.int x2), some (.int r8), some (.int 0)] [] κ S9 (it_pi κ P)
      refine ev_keep [true, true, true, true, true] ?_
      refine Llp_X6_falls_37 hm (fun v16 S17 h => ?_) _ _ _ _ h
      show it_Ev g l 6 it_m_X6_falls 0 0 62 [some (.ref 45), none, none, some (.int v16), none] [] κ S17 (it_pi κ P)
      refine ev_aload_n d_X6_falls_62 rfl ?_
      refine ev_callV (ci := 6) (b := 45) (M' := it_m_X6_lays) (d' := 1) (As := []) d_X6_falls_63 ml_IcedTooSoonModel_197 hm.1.1 hm.1.2.1 ⟨_, rfl, rfl⟩ rfl rfl (Nat.le_of_ble_eq_true rfl) (by decide) (by decide) (by decide) (L_X6_lays hm (it_ok_b h)) (fun _ _ _ _ q => by cases q.1; rfl) ?_
      rintro _ _ S18 ⟨rfl, rfl, h⟩
      show it_Ev g l 6 it_m_X6_falls 0 0 66 [some (.ref 45), none, none, some (.int v16), none] [] κ S18 (it_pi κ P)
      refine ev_iload_n d_X6_falls_66 rfl ?_
      exact ev_ret (v := some (.int _)) ⟨d_X6_falls_67, _, rfl, rfl⟩ (by decide) (by decide) ⟨rfl, _, rfl, it_ok_r h⟩
    · have h := it_ok_t h hc6
      refine ev_bipush d_X6_falls_21 kv_bipush_m2 ?_
      exact ev_ret (v := some (.int _)) ⟨d_X6_falls_23, _, rfl, rfl⟩ (by decide) (by decide) ⟨rfl, _, rfl, it_ok_r h⟩
theorem d_X6_moodBehind_0 : decode prog_8_method_53_code 0 = .ok (.aload_n 0, 1) := by decide +kernel
theorem d_X6_moodBehind_1 : decode prog_8_method_53_code 1 = .ok (.invokevirtual 194, 3) := by decide +kernel
theorem d_X6_moodBehind_4 : decode prog_8_method_53_code 4 = .ok (.aload_n 0, 1) := by decide +kernel
theorem d_X6_moodBehind_5 : decode prog_8_method_53_code 5 = .ok (.iload_n 1, 1) := by decide +kernel
theorem d_X6_moodBehind_6 : decode prog_8_method_53_code 6 = .ok (.invokevirtual 204, 3) := by decide +kernel
theorem d_X6_moodBehind_9 : decode prog_8_method_53_code 9 = .ok (.aload_n 0, 1) := by decide +kernel
theorem d_X6_moodBehind_10 : decode prog_8_method_53_code 10 = .ok (.invokevirtual 200, 3) := by decide +kernel
theorem d_X6_moodBehind_13 : decode prog_8_method_53_code 13 = .ok (.istore_n 2, 1) := by decide +kernel
theorem d_X6_moodBehind_14 : decode prog_8_method_53_code 14 = .ok (.aload_n 0, 1) := by decide +kernel
theorem d_X6_moodBehind_15 : decode prog_8_method_53_code 15 = .ok (.invokevirtual 197, 3) := by decide +kernel
theorem d_X6_moodBehind_18 : decode prog_8_method_53_code 18 = .ok (.iload_n 2, 1) := by decide +kernel
theorem d_X6_moodBehind_19 : decode prog_8_method_53_code 19 = .ok (.ireturn, 1) := by decide +kernel
def f_X6_moodBehind (κ : it_KK) (x1 : Int32) (S : it_SS) : Option (Int32 × it_SS) :=
it_bi (f_X6_keeps κ  S) (fun _ S1 =>
it_bi (f_X6_goes κ x1 S1) (fun _ S3 =>
it_bi (f_X6_moodAll κ  S3) (fun r6 S5 =>
it_bi (f_X6_lays κ  S5) (fun _ S7 =>
some (r6, S7)))))
set_option maxHeartbeats 4000000 in
set_option maxRecDepth 100000 in
theorem L_X6_moodBehind {g : it_G} {l : Launch} {κ : it_KK} {x1 : Int32} (hm : it_wm κ) {S : it_SS} {P : Int32 → it_SS → Prop} (h : it_ok (f_X6_moodBehind κ x1 S) P) : it_Cn g l 7 it_m_X6_moodBehind [.ref 45, .int x1] κ S (it_pi κ P) := by
  refine it_Cn.of (by decide +kernel) (Nat.le_of_ble_eq_true rfl) ?_
  rw [f_X6_moodBehind] at h
  show it_Ev g l 7 it_m_X6_moodBehind 0 0 0 [some (.ref 45), some (.int x1), none] [] κ S (it_pi κ P)
  refine ev_aload_n d_X6_moodBehind_0 rfl ?_
  refine ev_callV (ci := 6) (b := 45) (M' := it_m_X6_keeps) (d' := 1) (As := []) d_X6_moodBehind_1 ml_IcedTooSoonModel_194 hm.1.1 hm.1.2.1 ⟨_, rfl, rfl⟩ rfl rfl (Nat.le_of_ble_eq_true rfl) (by decide) (by decide) (by decide) (L_X6_keeps hm (it_ok_b h)) (fun _ _ _ _ q => by cases q.1; rfl) ?_
  rintro _ _ S1 ⟨rfl, rfl, h⟩
  show it_Ev g l 7 it_m_X6_moodBehind 0 0 4 [some (.ref 45), some (.int x1), none] [] κ S1 (it_pi κ P)
  refine ev_aload_n d_X6_moodBehind_4 rfl ?_
  refine ev_iload_n d_X6_moodBehind_5 rfl ?_
  refine ev_callV (ci := 6) (b := 45) (M' := it_m_X6_goes) (d' := 6) (As := [.int x1]) d_X6_moodBehind_6 ml_IcedTooSoonModel_204 hm.1.1 hm.1.2.1 ⟨_, rfl, rfl⟩ rfl rfl (Nat.le_of_ble_eq_true rfl) (by decide) (by decide) (by decide) (L_X6_goes hm (it_ok_b h)) (fun _ _ _ _ q => by cases q.1; rfl) ?_
  rintro _ _ S3 ⟨rfl, rfl, h⟩
  show it_Ev g l 7 it_m_X6_moodBehind 0 0 9 [some (.ref 45), some (.int x1), none] [] κ S3 (it_pi κ P)
  refine ev_aload_n d_X6_moodBehind_9 rfl ?_
  refine ev_callV (ci := 6) (b := 45) (M' := it_m_X6_moodAll) (d' := 1) (As := []) d_X6_moodBehind_10 ml_IcedTooSoonModel_200 hm.1.1 hm.1.2.1 ⟨_, rfl, rfl⟩ rfl rfl (Nat.le_of_ble_eq_true rfl) (by decide) (by decide) (by decide) (L_X6_moodAll hm (it_ok_b h)) (fun _ _ _ _ q => by cases q.1; rfl) ?_
  rintro _ _ S5 ⟨rfl, r6, rfl, h⟩
  show it_Ev g l 7 it_m_X6_moodBehind 0 0 13 [some (.ref 45), some (.int x1), none] [.int r6] κ S5 (it_pi κ P)
  refine ev_istore_n d_X6_moodBehind_13 (by decide) ?_
  show it_Ev g l 7 it_m_X6_moodBehind 0 0 14 [some (.ref 45), some (.int x1), some (.int r6)] [] κ S5 (it_pi κ P)
  refine ev_aload_n d_X6_moodBehind_14 rfl ?_
  refine ev_callV (ci := 6) (b := 45) (M' := it_m_X6_lays) (d' := 1) (As := []) d_X6_moodBehind_15 ml_IcedTooSoonModel_197 hm.1.1 hm.1.2.1 ⟨_, rfl, rfl⟩ rfl rfl (Nat.le_of_ble_eq_true rfl) (by decide) (by decide) (by decide) (L_X6_lays hm (it_ok_b h)) (fun _ _ _ _ q => by cases q.1; rfl) ?_
  rintro _ _ S7 ⟨rfl, rfl, h⟩
  show it_Ev g l 7 it_m_X6_moodBehind 0 0 18 [some (.ref 45), some (.int x1), some (.int r6)] [] κ S7 (it_pi κ P)
  refine ev_iload_n d_X6_moodBehind_18 rfl ?_
  exact ev_ret (v := some (.int _)) ⟨d_X6_moodBehind_19, _, rfl, rfl⟩ (by decide) (by decide) ⟨rfl, _, rfl, it_ok_r h⟩
theorem d_X6_again_0 : decode prog_8_method_54_code 0 = .ok (.iload_n 1, 1) := by decide +kernel
theorem d_X6_again_1 : decode prog_8_method_54_code 1 = .ok (.iconst 1, 1) := by decide +kernel
theorem d_X6_again_2 : decode prog_8_method_54_code 2 = .ok (.bipush 99, 2) := by decide +kernel
theorem d_X6_again_4 : decode prog_8_method_54_code 4 = .ok (.invokestatic 78, 3) := by decide +kernel
theorem d_X6_again_7 : decode prog_8_method_54_code 7 = .ok (.ifCond .eq 22, 3) := by decide +kernel
theorem d_X6_again_10 : decode prog_8_method_54_code 10 = .ok (.iload_n 2, 1) := by decide +kernel
theorem d_X6_again_11 : decode prog_8_method_54_code 11 = .ok (.iconst 1, 1) := by decide +kernel
theorem d_X6_again_12 : decode prog_8_method_54_code 12 = .ok (.bipush 20, 2) := by decide +kernel
theorem d_X6_again_14 : decode prog_8_method_54_code 14 = .ok (.invokestatic 78, 3) := by decide +kernel
theorem d_X6_again_17 : decode prog_8_method_54_code 17 = .ok (.ifCond .eq 12, 3) := by decide +kernel
theorem d_X6_again_20 : decode prog_8_method_54_code 20 = .ok (.iload_n 3, 1) := by decide +kernel
theorem d_X6_again_21 : decode prog_8_method_54_code 21 = .ok (.iconst 0, 1) := by decide +kernel
theorem d_X6_again_22 : decode prog_8_method_54_code 22 = .ok (.iconst 1, 1) := by decide +kernel
theorem d_X6_again_23 : decode prog_8_method_54_code 23 = .ok (.invokestatic 78, 3) := by decide +kernel
theorem d_X6_again_26 : decode prog_8_method_54_code 26 = .ok (.ifCond .ne 7, 3) := by decide +kernel
theorem d_X6_again_29 : decode prog_8_method_54_code 29 = .ok (.sipush (-1000), 3) := by decide +kernel
theorem d_X6_again_32 : decode prog_8_method_54_code 32 = .ok (.ireturn, 1) := by decide +kernel
theorem d_X6_again_33 : decode prog_8_method_54_code 33 = .ok (.iconst (-1), 1) := by decide +kernel
theorem d_X6_again_34 : decode prog_8_method_54_code 34 = .ok (.istore 4, 2) := by decide +kernel
theorem d_X6_again_36 : decode prog_8_method_54_code 36 = .ok (.aload_n 0, 1) := by decide +kernel
theorem d_X6_again_37 : decode prog_8_method_54_code 37 = .ok (.iload_n 2, 1) := by decide +kernel
theorem d_X6_again_38 : decode prog_8_method_54_code 38 = .ok (.invokevirtual 213, 3) := by decide +kernel
theorem d_X6_again_41 : decode prog_8_method_54_code 41 = .ok (.istore 5, 2) := by decide +kernel
theorem d_X6_again_43 : decode prog_8_method_54_code 43 = .ok (.iconst 0, 1) := by decide +kernel
theorem d_X6_again_44 : decode prog_8_method_54_code 44 = .ok (.istore 6, 2) := by decide +kernel
theorem d_X6_again_46 : decode prog_8_method_54_code 46 = .ok (.iload 6, 2) := by decide +kernel
theorem d_X6_again_48 : decode prog_8_method_54_code 48 = .ok (.bipush 10, 2) := by decide +kernel
theorem d_X6_again_50 : decode prog_8_method_54_code 50 = .ok (.if_icmp .ge 104, 3) := by decide +kernel
theorem d_X6_again_53 : decode prog_8_method_54_code 53 = .ok (.aload_n 0, 1) := by decide +kernel
theorem d_X6_again_54 : decode prog_8_method_54_code 54 = .ok (.iload 6, 2) := by decide +kernel
theorem d_X6_again_56 : decode prog_8_method_54_code 56 = .ok (.invokevirtual 86, 3) := by decide +kernel
theorem d_X6_again_59 : decode prog_8_method_54_code 59 = .ok (.ifCond .eq 89, 3) := by decide +kernel
theorem d_X6_again_62 : decode prog_8_method_54_code 62 = .ok (.aload_n 0, 1) := by decide +kernel
theorem d_X6_again_63 : decode prog_8_method_54_code 63 = .ok (.getfield 19, 3) := by decide +kernel
theorem d_X6_again_66 : decode prog_8_method_54_code 66 = .ok (.iconst 3, 1) := by decide +kernel
theorem d_X6_again_67 : decode prog_8_method_54_code 67 = .ok (.iload 6, 2) := by decide +kernel
theorem d_X6_again_69 : decode prog_8_method_54_code 69 = .ok (.imul, 1) := by decide +kernel
theorem d_X6_again_70 : decode prog_8_method_54_code 70 = .ok (.iconst 2, 1) := by decide +kernel
theorem d_X6_again_71 : decode prog_8_method_54_code 71 = .ok (.iadd, 1) := by decide +kernel
theorem d_X6_again_72 : decode prog_8_method_54_code 72 = .ok (.iaload, 1) := by decide +kernel
theorem d_X6_again_73 : decode prog_8_method_54_code 73 = .ok (.istore 7, 2) := by decide +kernel
theorem d_X6_again_75 : decode prog_8_method_54_code 75 = .ok (.aload_n 0, 1) := by decide +kernel
theorem d_X6_again_76 : decode prog_8_method_54_code 76 = .ok (.getfield 19, 3) := by decide +kernel
theorem d_X6_again_79 : decode prog_8_method_54_code 79 = .ok (.iconst 3, 1) := by decide +kernel
theorem d_X6_again_80 : decode prog_8_method_54_code 80 = .ok (.iload 6, 2) := by decide +kernel
theorem d_X6_again_82 : decode prog_8_method_54_code 82 = .ok (.imul, 1) := by decide +kernel
theorem d_X6_again_83 : decode prog_8_method_54_code 83 = .ok (.iconst 2, 1) := by decide +kernel
theorem d_X6_again_84 : decode prog_8_method_54_code 84 = .ok (.iadd, 1) := by decide +kernel
theorem d_X6_again_85 : decode prog_8_method_54_code 85 = .ok (.iload 7, 2) := by decide +kernel
theorem d_X6_again_87 : decode prog_8_method_54_code 87 = .ok (.iload_n 1, 1) := by decide +kernel
theorem d_X6_again_88 : decode prog_8_method_54_code 88 = .ok (.iadd, 1) := by decide +kernel
theorem d_X6_again_89 : decode prog_8_method_54_code 89 = .ok (.iconst 0, 1) := by decide +kernel
theorem d_X6_again_90 : decode prog_8_method_54_code 90 = .ok (.bipush 99, 2) := by decide +kernel
theorem d_X6_again_92 : decode prog_8_method_54_code 92 = .ok (.invokestatic 82, 3) := by decide +kernel
theorem d_X6_again_95 : decode prog_8_method_54_code 95 = .ok (.iastore, 1) := by decide +kernel
theorem d_X6_again_96 : decode prog_8_method_54_code 96 = .ok (.aload_n 0, 1) := by decide +kernel
theorem d_X6_again_97 : decode prog_8_method_54_code 97 = .ok (.iload_n 2, 1) := by decide +kernel
theorem d_X6_again_98 : decode prog_8_method_54_code 98 = .ok (.invokevirtual 213, 3) := by decide +kernel
theorem d_X6_again_101 : decode prog_8_method_54_code 101 = .ok (.istore 8, 2) := by decide +kernel
theorem d_X6_again_103 : decode prog_8_method_54_code 103 = .ok (.aload_n 0, 1) := by decide +kernel
theorem d_X6_again_104 : decode prog_8_method_54_code 104 = .ok (.getfield 19, 3) := by decide +kernel
theorem d_X6_again_107 : decode prog_8_method_54_code 107 = .ok (.iconst 3, 1) := by decide +kernel
theorem d_X6_again_108 : decode prog_8_method_54_code 108 = .ok (.iload 6, 2) := by decide +kernel
theorem d_X6_again_110 : decode prog_8_method_54_code 110 = .ok (.imul, 1) := by decide +kernel
theorem d_X6_again_111 : decode prog_8_method_54_code 111 = .ok (.iconst 2, 1) := by decide +kernel
theorem d_X6_again_112 : decode prog_8_method_54_code 112 = .ok (.iadd, 1) := by decide +kernel
theorem d_X6_again_113 : decode prog_8_method_54_code 113 = .ok (.iload 7, 2) := by decide +kernel
theorem d_X6_again_115 : decode prog_8_method_54_code 115 = .ok (.iastore, 1) := by decide +kernel
theorem d_X6_again_116 : decode prog_8_method_54_code 116 = .ok (.iload 8, 2) := by decide +kernel
theorem d_X6_again_118 : decode prog_8_method_54_code 118 = .ok (.iload 5, 2) := by decide +kernel
theorem d_X6_again_120 : decode prog_8_method_54_code 120 = .ok (.if_icmp .le 8, 3) := by decide +kernel
theorem d_X6_again_123 : decode prog_8_method_54_code 123 = .ok (.iload 6, 2) := by decide +kernel
theorem d_X6_again_125 : decode prog_8_method_54_code 125 = .ok (.goto 5, 3) := by decide +kernel
theorem d_X6_again_128 : decode prog_8_method_54_code 128 = .ok (.iload 4, 2) := by decide +kernel
theorem d_X6_again_130 : decode prog_8_method_54_code 130 = .ok (.istore 4, 2) := by decide +kernel
theorem d_X6_again_132 : decode prog_8_method_54_code 132 = .ok (.iload 8, 2) := by decide +kernel
theorem d_X6_again_134 : decode prog_8_method_54_code 134 = .ok (.iload 5, 2) := by decide +kernel
theorem d_X6_again_136 : decode prog_8_method_54_code 136 = .ok (.if_icmp .le 8, 3) := by decide +kernel
theorem d_X6_again_139 : decode prog_8_method_54_code 139 = .ok (.iload 8, 2) := by decide +kernel
theorem d_X6_again_141 : decode prog_8_method_54_code 141 = .ok (.goto 5, 3) := by decide +kernel
theorem d_X6_again_144 : decode prog_8_method_54_code 144 = .ok (.iload 5, 2) := by decide +kernel
theorem d_X6_again_146 : decode prog_8_method_54_code 146 = .ok (.istore 5, 2) := by decide +kernel
theorem d_X6_again_148 : decode prog_8_method_54_code 148 = .ok (.iinc 6 1, 3) := by decide +kernel
theorem d_X6_again_151 : decode prog_8_method_54_code 151 = .ok (.goto (-105), 3) := by decide +kernel
theorem d_X6_again_154 : decode prog_8_method_54_code 154 = .ok (.iload_n 3, 1) := by decide +kernel
theorem d_X6_again_155 : decode prog_8_method_54_code 155 = .ok (.ifCond .ne 8, 3) := by decide +kernel
theorem d_X6_again_158 : decode prog_8_method_54_code 158 = .ok (.iload 4, 2) := by decide +kernel
theorem d_X6_again_160 : decode prog_8_method_54_code 160 = .ok (.goto 5, 3) := by decide +kernel
theorem d_X6_again_163 : decode prog_8_method_54_code 163 = .ok (.iload 5, 2) := by decide +kernel
theorem d_X6_again_165 : decode prog_8_method_54_code 165 = .ok (.ireturn, 1) := by decide +kernel
def lp_X6_again_46 (κ : it_KK) (x1 : Int32) (x2 : Int32) (x3 : Int32) (k46 : (Int32 → Int32 → it_SS → Option (Int32 × it_SS))) : Nat → Int32 → Int32 → Int32 → it_SS → Option (Int32 × it_SS)
  | 0, _, _, _, _ => none
  | n46 + 1, v4, v5, v6, S => if 10 ≤ v6 then
k46 v4 v5 S
else
it_bi (f_X6_isThere κ v6 S) (fun r14 S13 =>
if r14 = 0 then
lp_X6_again_46 κ x1 x2 x3 k46 n46 v4 v5 (v6 + 1) S13
else
if it_bd ((3 * v6) + 2) 30 = true then
it_bi (f_X6_within κ ((S13 49 (((3 * v6) + 2) : Int32).toNatClampNeg) + x1) 0 99 S13) (fun r18 S17 =>
it_bi (f_X6_moodBehind κ x2 (it_up S17 49 (((3 * v6) + 2) : Int32).toNatClampNeg r18)) (fun r20 S19 =>
if r20 ≤ v5 then
if r20 ≤ v5 then
lp_X6_again_46 κ x1 x2 x3 k46 n46 v4 v5 (v6 + 1) (it_up S19 49 (((3 * v6) + 2) : Int32).toNatClampNeg (S13 49 (((3 * v6) + 2) : Int32).toNatClampNeg))
else
lp_X6_again_46 κ x1 x2 x3 k46 n46 v4 r20 (v6 + 1) (it_up S19 49 (((3 * v6) + 2) : Int32).toNatClampNeg (S13 49 (((3 * v6) + 2) : Int32).toNatClampNeg))
else
if r20 ≤ v5 then
lp_X6_again_46 κ x1 x2 x3 k46 n46 v6 v5 (v6 + 1) (it_up S19 49 (((3 * v6) + 2) : Int32).toNatClampNeg (S13 49 (((3 * v6) + 2) : Int32).toNatClampNeg))
else
lp_X6_again_46 κ x1 x2 x3 k46 n46 v6 r20 (v6 + 1) (it_up S19 49 (((3 * v6) + 2) : Int32).toNatClampNeg (S13 49 (((3 * v6) + 2) : Int32).toNatClampNeg))))
else none)
def f_X6_again (κ : it_KK) (x1 : Int32) (x2 : Int32) (x3 : Int32) (S : it_SS) : Option (Int32 × it_SS) :=
it_bi (f_X6_in κ x1 1 99 S) (fun r2 S1 =>
if r2 = 0 then
some ((-1000), S1)
else
it_bi (f_X6_in κ x2 1 20 S1) (fun r5 S4 =>
if r5 = 0 then
some ((-1000), S4)
else
it_bi (f_X6_in κ x3 0 1 S4) (fun r8 S7 =>
if r8 = 0 then
some ((-1000), S7)
else
it_bi (f_X6_moodBehind κ x2 S7) (fun r11 S10 =>
lp_X6_again_46 κ x1 x2 x3 (fun v24 v25 S26 =>
if x3 = 0 then
some (v24, S26)
else
some (v25, S26)) it_FU (-1) r11 0 S10))))
set_option maxHeartbeats 4000000 in
set_option maxRecDepth 100000 in
theorem Llp_X6_again_46 {g : it_G} {l : Launch} {κ : it_KK} {x1 : Int32} {x2 : Int32} {x3 : Int32} (hm : it_wm κ) {P : Int32 → it_SS → Prop} {k46 : (Int32 → Int32 → it_SS → Option (Int32 × it_SS))} (hk46 : ∀ (v4 : Int32) (v5 : Int32) (S : it_SS), it_ok (k46 v4 v5 S) P → it_Ev g l 8 it_m_X6_again 0 0 154 [none, none, none, some (.int x3), some (.int v4), some (.int v5), none, none, none] [] κ S (it_pi κ P)) : ∀ (n : Nat) (v4 : Int32) (v5 : Int32) (v6 : Int32) (S : it_SS), it_ok (lp_X6_again_46 κ x1 x2 x3 k46 n v4 v5 v6 S) P → it_Ev g l 8 it_m_X6_again 0 0 46 [some (.ref 45), some (.int x1), some (.int x2), some (.int x3), some (.int v4), some (.int v5), some (.int v6), none, none] [] κ S (it_pi κ P) := by
  intro n
  induction n with
  | zero =>
    intro _ _ _ _ h
    exact (it_ok_n h).elim
  | succ n46 ih46 =>
    intro v4 v5 v6 S h
    rw [lp_X6_again_46] at h
    refine ev_iload d_X6_again_46 rfl ?_
    refine ev_bipush d_X6_again_48 kv_bipush_10 ?_
    refine ev_icmp_ge (tgt := 154) d_X6_again_50 (by decide) (fun hc12 => ?_) (fun hc12 => ?_)
    · have h := it_ok_t h hc12
      refine ev_keep [false, false, false, true, true, true, false, false, false] ?_
      exact hk46 _ _ _ h
    · have h := it_ok_f h hc12
      refine ev_aload_n d_X6_again_53 rfl ?_
      refine ev_iload d_X6_again_54 rfl ?_
      refine ev_callV (ci := 6) (b := 45) (M' := it_m_X6_isThere) (d' := 2) (As := [.int v6]) d_X6_again_56 ml_IcedTooSoonModel_86 hm.1.1 hm.1.2.1 ⟨_, rfl, rfl⟩ rfl rfl (Nat.le_of_ble_eq_true rfl) (by decide) (by decide) (by decide) (L_X6_isThere hm (it_ok_b h)) (fun _ _ _ _ q => by cases q.1; rfl) ?_
      rintro _ _ S13 ⟨rfl, r14, rfl, h⟩
      show it_Ev g l 8 it_m_X6_again 0 0 59 [some (.ref 45), some (.int x1), some (.int x2), some (.int x3), some (.int v4), some (.int v5), some (.int v6), none, none] [.int r14] κ S13 (it_pi κ P)
      refine ev_if_eq (tgt := 148) d_X6_again_59 (by decide) (fun hc15 => ?_) (fun hc15 => ?_)
      · have h := it_ok_t h hc15
        refine ev_iinc d_X6_again_148 kv_iconst_1 rfl (by decide) ?_
        show it_Ev g l 8 it_m_X6_again 0 0 151 [some (.ref 45), some (.int x1), some (.int x2), some (.int x3), some (.int v4), some (.int v5), some (.int (v6 + 1)), none, none] [] κ S13 (it_pi κ P)
        refine ev_goto (tgt := 46) d_X6_again_151 (by decide) ?_
        refine ev_keep [true, true, true, true, true, true, true, false, false] ?_
        exact ih46 _ _ _ _ h
      · have h := it_ok_f h hc15
        refine ev_aload_n d_X6_again_62 rfl ?_
        refine ev_getRr (r := 49) rfl d_X6_again_63 fl_IcedTooSoonModel_19 hm.1 rfl ?_
        refine ev_iconst d_X6_again_66 kv_iconst_3 ?_
        refine ev_iload d_X6_again_67 rfl ?_
        refine ev_imul d_X6_again_69 ?_
        refine ev_iconst d_X6_again_70 kv_iconst_2 ?_
        refine ev_iadd d_X6_again_71 ?_
        obtain ⟨hb16, h⟩ := it_ok_g h
        refine ev_iald d_X6_again_72 (hm).2.2.2.2.1 (it_bd_in hb16) ?_
        refine ev_istore d_X6_again_73 (by decide) ?_
        show it_Ev g l 8 it_m_X6_again 0 0 75 [some (.ref 45), some (.int x1), some (.int x2), some (.int x3), some (.int v4), some (.int v5), some (.int v6), some (.int (S13 49 (((3 * v6) + 2) : Int32).toNatClampNeg)), none] [] κ S13 (it_pi κ P)
        refine ev_aload_n d_X6_again_75 rfl ?_
        refine ev_getRr (r := 49) rfl d_X6_again_76 fl_IcedTooSoonModel_19 hm.1 rfl ?_
        refine ev_iconst d_X6_again_79 kv_iconst_3 ?_
        refine ev_iload d_X6_again_80 rfl ?_
        refine ev_imul d_X6_again_82 ?_
        refine ev_iconst d_X6_again_83 kv_iconst_2 ?_
        refine ev_iadd d_X6_again_84 ?_
        refine ev_iload d_X6_again_85 rfl ?_
        refine ev_iload_n d_X6_again_87 rfl ?_
        refine ev_iadd d_X6_again_88 ?_
        refine ev_iconst d_X6_again_89 kv_iconst_0 ?_
        refine ev_bipush d_X6_again_90 kv_bipush_99 ?_
        refine ev_callS (M' := it_m_X6_within) (d' := 1) (As := [.int ((S13 49 (((3 * v6) + 2) : Int32).toNatClampNeg) + x1), .int 0, .int 99]) d_X6_again_92 ml_IcedTooSoonModel_82 rfl rfl (Nat.le_of_ble_eq_true rfl) (by decide) (by decide) (by decide) (L_X6_within  (it_ok_b h)) (fun _ _ _ _ q => by cases q.1; rfl) ?_
        rintro _ _ S17 ⟨rfl, r18, rfl, h⟩
        show it_Ev g l 8 it_m_X6_again 0 0 95 [some (.ref 45), some (.int x1), some (.int x2), some (.int x3), some (.int v4), some (.int v5), some (.int v6), some (.int (S13 49 (((3 * v6) + 2) : Int32).toNatClampNeg)), none] [.int r18, .int ((3 * v6) + 2), .ref 49] κ S17 (it_pi κ P)
        refine ev_iast d_X6_again_95 (by decide) (hm).2.2.2.2.1 (it_bd_in hb16) ?_
        refine ev_aload_n d_X6_again_96 rfl ?_
        refine ev_iload_n d_X6_again_97 rfl ?_
        refine ev_callV (ci := 6) (b := 45) (M' := it_m_X6_moodBehind) (d' := 7) (As := [.int x2]) d_X6_again_98 ml_IcedTooSoonModel_213 hm.1.1 hm.1.2.1 ⟨_, rfl, rfl⟩ rfl rfl (Nat.le_of_ble_eq_true rfl) (by decide) (by decide) (by decide) (L_X6_moodBehind hm (it_ok_b h)) (fun _ _ _ _ q => by cases q.1; rfl) ?_
        rintro _ _ S19 ⟨rfl, r20, rfl, h⟩
        show it_Ev g l 8 it_m_X6_again 0 0 101 [some (.ref 45), some (.int x1), some (.int x2), some (.int x3), some (.int v4), some (.int v5), some (.int v6), some (.int (S13 49 (((3 * v6) + 2) : Int32).toNatClampNeg)), none] [.int r20] κ S19 (it_pi κ P)
        refine ev_istore d_X6_again_101 (by decide) ?_
        show it_Ev g l 8 it_m_X6_again 0 0 103 [some (.ref 45), some (.int x1), some (.int x2), some (.int x3), some (.int v4), some (.int v5), some (.int v6), some (.int (S13 49 (((3 * v6) + 2) : Int32).toNatClampNeg)), some (.int r20)] [] κ S19 (it_pi κ P)
        refine ev_aload_n d_X6_again_103 rfl ?_
        refine ev_getRr (r := 49) rfl d_X6_again_104 fl_IcedTooSoonModel_19 hm.1 rfl ?_
        refine ev_iconst d_X6_again_107 kv_iconst_3 ?_
        refine ev_iload d_X6_again_108 rfl ?_
        refine ev_imul d_X6_again_110 ?_
        refine ev_iconst d_X6_again_111 kv_iconst_2 ?_
        refine ev_iadd d_X6_again_112 ?_
        refine ev_iload d_X6_again_113 rfl ?_
        refine ev_iast d_X6_again_115 (by decide) (hm).2.2.2.2.1 (it_bd_in hb16) ?_
        refine ev_iload d_X6_again_116 rfl ?_
        refine ev_iload d_X6_again_118 rfl ?_
        refine ev_icmp_le (tgt := 128) d_X6_again_120 (by decide) (fun hc21 => ?_) (fun hc21 => ?_)
        · have h := it_ok_t h hc21
          refine ev_iload d_X6_again_128 rfl ?_
          refine ev_istore d_X6_again_130 (by decide) ?_
          show it_Ev g l 8 it_m_X6_again 0 0 132 [some (.ref 45), some (.int x1), some (.int x2), some (.int x3), some (.int v4), some (.int v5), some (.int v6), some (.int (S13 49 (((3 * v6) + 2) : Int32).toNatClampNeg)), some (.int r20)] [] κ (it_up S19 49 (((3 * v6) + 2) : Int32).toNatClampNeg (S13 49 (((3 * v6) + 2) : Int32).toNatClampNeg)) (it_pi κ P)
          refine ev_iload d_X6_again_132 rfl ?_
          refine ev_iload d_X6_again_134 rfl ?_
          refine ev_icmp_le (tgt := 144) d_X6_again_136 (by decide) (fun hc22 => ?_) (fun hc22 => ?_)
          · have h := it_ok_t h hc22
            refine ev_iload d_X6_again_144 rfl ?_
            refine ev_istore d_X6_again_146 (by decide) ?_
            show it_Ev g l 8 it_m_X6_again 0 0 148 [some (.ref 45), some (.int x1), some (.int x2), some (.int x3), some (.int v4), some (.int v5), some (.int v6), some (.int (S13 49 (((3 * v6) + 2) : Int32).toNatClampNeg)), some (.int r20)] [] κ (it_up S19 49 (((3 * v6) + 2) : Int32).toNatClampNeg (S13 49 (((3 * v6) + 2) : Int32).toNatClampNeg)) (it_pi κ P)
            refine ev_iinc d_X6_again_148 kv_iconst_1 rfl (by decide) ?_
            show it_Ev g l 8 it_m_X6_again 0 0 151 [some (.ref 45), some (.int x1), some (.int x2), some (.int x3), some (.int v4), some (.int v5), some (.int (v6 + 1)), some (.int (S13 49 (((3 * v6) + 2) : Int32).toNatClampNeg)), some (.int r20)] [] κ (it_up S19 49 (((3 * v6) + 2) : Int32).toNatClampNeg (S13 49 (((3 * v6) + 2) : Int32).toNatClampNeg)) (it_pi κ P)
            refine ev_goto (tgt := 46) d_X6_again_151 (by decide) ?_
            refine ev_keep [true, true, true, true, true, true, true, false, false] ?_
            exact ih46 _ _ _ _ h
          · have h := it_ok_f h hc22
            refine ev_iload d_X6_again_139 rfl ?_
            refine ev_goto (tgt := 146) d_X6_again_141 (by decide) ?_
            refine ev_istore d_X6_again_146 (by decide) ?_
            show it_Ev g l 8 it_m_X6_again 0 0 148 [some (.ref 45), some (.int x1), some (.int x2), some (.int x3), some (.int v4), some (.int r20), some (.int v6), some (.int (S13 49 (((3 * v6) + 2) : Int32).toNatClampNeg)), some (.int r20)] [] κ (it_up S19 49 (((3 * v6) + 2) : Int32).toNatClampNeg (S13 49 (((3 * v6) + 2) : Int32).toNatClampNeg)) (it_pi κ P)
            refine ev_iinc d_X6_again_148 kv_iconst_1 rfl (by decide) ?_
            show it_Ev g l 8 it_m_X6_again 0 0 151 [some (.ref 45), some (.int x1), some (.int x2), some (.int x3), some (.int v4), some (.int r20), some (.int (v6 + 1)), some (.int (S13 49 (((3 * v6) + 2) : Int32).toNatClampNeg)), some (.int r20)] [] κ (it_up S19 49 (((3 * v6) + 2) : Int32).toNatClampNeg (S13 49 (((3 * v6) + 2) : Int32).toNatClampNeg)) (it_pi κ P)
            refine ev_goto (tgt := 46) d_X6_again_151 (by decide) ?_
            refine ev_keep [true, true, true, true, true, true, true, false, false] ?_
            exact ih46 _ _ _ _ h
        · have h := it_ok_f h hc21
          refine ev_iload d_X6_again_123 rfl ?_
          refine ev_goto (tgt := 130) d_X6_again_125 (by decide) ?_
          refine ev_istore d_X6_again_130 (by decide) ?_
          show it_Ev g l 8 it_m_X6_again 0 0 132 [some (.ref 45), some (.int x1), some (.int x2), some (.int x3), some (.int v6), some (.int v5), some (.int v6), some (.int (S13 49 (((3 * v6) + 2) : Int32).toNatClampNeg)), some (.int r20)] [] κ (it_up S19 49 (((3 * v6) + 2) : Int32).toNatClampNeg (S13 49 (((3 * v6) + 2) : Int32).toNatClampNeg)) (it_pi κ P)
          refine ev_iload d_X6_again_132 rfl ?_
          refine ev_iload d_X6_again_134 rfl ?_
          refine ev_icmp_le (tgt := 144) d_X6_again_136 (by decide) (fun hc23 => ?_) (fun hc23 => ?_)
          · have h := it_ok_t h hc23
            refine ev_iload d_X6_again_144 rfl ?_
            refine ev_istore d_X6_again_146 (by decide) ?_
            show it_Ev g l 8 it_m_X6_again 0 0 148 [some (.ref 45), some (.int x1), some (.int x2), some (.int x3), some (.int v6), some (.int v5), some (.int v6), some (.int (S13 49 (((3 * v6) + 2) : Int32).toNatClampNeg)), some (.int r20)] [] κ (it_up S19 49 (((3 * v6) + 2) : Int32).toNatClampNeg (S13 49 (((3 * v6) + 2) : Int32).toNatClampNeg)) (it_pi κ P)
            refine ev_iinc d_X6_again_148 kv_iconst_1 rfl (by decide) ?_
            show it_Ev g l 8 it_m_X6_again 0 0 151 [some (.ref 45), some (.int x1), some (.int x2), some (.int x3), some (.int v6), some (.int v5), some (.int (v6 + 1)), some (.int (S13 49 (((3 * v6) + 2) : Int32).toNatClampNeg)), some (.int r20)] [] κ (it_up S19 49 (((3 * v6) + 2) : Int32).toNatClampNeg (S13 49 (((3 * v6) + 2) : Int32).toNatClampNeg)) (it_pi κ P)
            refine ev_goto (tgt := 46) d_X6_again_151 (by decide) ?_
            refine ev_keep [true, true, true, true, true, true, true, false, false] ?_
            exact ih46 _ _ _ _ h
          · have h := it_ok_f h hc23
            refine ev_iload d_X6_again_139 rfl ?_
            refine ev_goto (tgt := 146) d_X6_again_141 (by decide) ?_
            refine ev_istore d_X6_again_146 (by decide) ?_
            show it_Ev g l 8 it_m_X6_again 0 0 148 [some (.ref 45), some (.int x1), some (.int x2), some (.int x3), some (.int v6), some (.int r20), some (.int v6), some (.int (S13 49 (((3 * v6) + 2) : Int32).toNatClampNeg)), some (.int r20)] [] κ (it_up S19 49 (((3 * v6) + 2) : Int32).toNatClampNeg (S13 49 (((3 * v6) + 2) : Int32).toNatClampNeg)) (it_pi κ P)
            refine ev_iinc d_X6_again_148 kv_iconst_1 rfl (by decide) ?_
            show it_Ev g l 8 it_m_X6_again 0 0 151 [some (.ref 45), some (.int x1), some (.int x2), some (.int x3), some (.int v6), some (.int r20), some (.int (v6 + 1)), some (.int (S13 49 (((3 * v6) + 2) : Int32).toNatClampNeg)), some (.int r20)] [] κ (it_up S19 49 (((3 * v6) + 2) : Int32).toNatClampNeg (S13 49 (((3 * v6) + 2) : Int32).toNatClampNeg)) (it_pi κ P)
            refine ev_goto (tgt := 46) d_X6_again_151 (by decide) ?_
            refine ev_keep [true, true, true, true, true, true, true, false, false] ?_
            exact ih46 _ _ _ _ h
set_option maxHeartbeats 4000000 in
set_option maxRecDepth 100000 in
theorem L_X6_again {g : it_G} {l : Launch} {κ : it_KK} {x1 : Int32} {x2 : Int32} {x3 : Int32} (hm : it_wm κ) {S : it_SS} {P : Int32 → it_SS → Prop} (h : it_ok (f_X6_again κ x1 x2 x3 S) P) : it_Cn g l 8 it_m_X6_again [.ref 45, .int x1, .int x2, .int x3] κ S (it_pi κ P) := by
  refine it_Cn.of (by decide +kernel) (Nat.le_of_ble_eq_true rfl) ?_
  rw [f_X6_again] at h
  show it_Ev g l 8 it_m_X6_again 0 0 0 [some (.ref 45), some (.int x1), some (.int x2), some (.int x3), none, none, none, none, none] [] κ S (it_pi κ P)
  refine ev_iload_n d_X6_again_0 rfl ?_
  refine ev_iconst d_X6_again_1 kv_iconst_1 ?_
  refine ev_bipush d_X6_again_2 kv_bipush_99 ?_
  refine ev_callS (M' := it_m_X6_in) (d' := 1) (As := [.int x1, .int 1, .int 99]) d_X6_again_4 ml_IcedTooSoonModel_78 rfl rfl (Nat.le_of_ble_eq_true rfl) (by decide) (by decide) (by decide) (L_X6_in  (it_ok_b h)) (fun _ _ _ _ q => by cases q.1; rfl) ?_
  rintro _ _ S1 ⟨rfl, r2, rfl, h⟩
  show it_Ev g l 8 it_m_X6_again 0 0 7 [some (.ref 45), some (.int x1), some (.int x2), some (.int x3), none, none, none, none, none] [.int r2] κ S1 (it_pi κ P)
  refine ev_if_eq (tgt := 29) d_X6_again_7 (by decide) (fun hc3 => ?_) (fun hc3 => ?_)
  · have h := it_ok_t h hc3
    refine ev_sipush d_X6_again_29 kv_sipush_m1000 ?_
    exact ev_ret (v := some (.int _)) ⟨d_X6_again_32, _, rfl, rfl⟩ (by decide) (by decide) ⟨rfl, _, rfl, it_ok_r h⟩
  · have h := it_ok_f h hc3
    refine ev_iload_n d_X6_again_10 rfl ?_
    refine ev_iconst d_X6_again_11 kv_iconst_1 ?_
    refine ev_bipush d_X6_again_12 kv_bipush_20 ?_
    refine ev_callS (M' := it_m_X6_in) (d' := 1) (As := [.int x2, .int 1, .int 20]) d_X6_again_14 ml_IcedTooSoonModel_78 rfl rfl (Nat.le_of_ble_eq_true rfl) (by decide) (by decide) (by decide) (L_X6_in  (it_ok_b h)) (fun _ _ _ _ q => by cases q.1; rfl) ?_
    rintro _ _ S4 ⟨rfl, r5, rfl, h⟩
    show it_Ev g l 8 it_m_X6_again 0 0 17 [some (.ref 45), some (.int x1), some (.int x2), some (.int x3), none, none, none, none, none] [.int r5] κ S4 (it_pi κ P)
    refine ev_if_eq (tgt := 29) d_X6_again_17 (by decide) (fun hc6 => ?_) (fun hc6 => ?_)
    · have h := it_ok_t h hc6
      refine ev_sipush d_X6_again_29 kv_sipush_m1000 ?_
      exact ev_ret (v := some (.int _)) ⟨d_X6_again_32, _, rfl, rfl⟩ (by decide) (by decide) ⟨rfl, _, rfl, it_ok_r h⟩
    · have h := it_ok_f h hc6
      refine ev_iload_n d_X6_again_20 rfl ?_
      refine ev_iconst d_X6_again_21 kv_iconst_0 ?_
      refine ev_iconst d_X6_again_22 kv_iconst_1 ?_
      refine ev_callS (M' := it_m_X6_in) (d' := 1) (As := [.int x3, .int 0, .int 1]) d_X6_again_23 ml_IcedTooSoonModel_78 rfl rfl (Nat.le_of_ble_eq_true rfl) (by decide) (by decide) (by decide) (L_X6_in  (it_ok_b h)) (fun _ _ _ _ q => by cases q.1; rfl) ?_
      rintro _ _ S7 ⟨rfl, r8, rfl, h⟩
      show it_Ev g l 8 it_m_X6_again 0 0 26 [some (.ref 45), some (.int x1), some (.int x2), some (.int x3), none, none, none, none, none] [.int r8] κ S7 (it_pi κ P)
      refine ev_if_ne (tgt := 33) d_X6_again_26 (by decide) (fun hc9 => ?_) (fun hc9 => ?_)
      · have h := it_ok_f h hc9
        refine ev_iconst d_X6_again_33 kv_iconst_m1 ?_
        refine ev_istore d_X6_again_34 (by decide) ?_
        show it_Ev g l 8 it_m_X6_again 0 0 36 [some (.ref 45), some (.int x1), some (.int x2), some (.int x3), some (.int (-1)), none, none, none, none] [] κ S7 (it_pi κ P)
        refine ev_aload_n d_X6_again_36 rfl ?_
        refine ev_iload_n d_X6_again_37 rfl ?_
        refine ev_callV (ci := 6) (b := 45) (M' := it_m_X6_moodBehind) (d' := 7) (As := [.int x2]) d_X6_again_38 ml_IcedTooSoonModel_213 hm.1.1 hm.1.2.1 ⟨_, rfl, rfl⟩ rfl rfl (Nat.le_of_ble_eq_true rfl) (by decide) (by decide) (by decide) (L_X6_moodBehind hm (it_ok_b h)) (fun _ _ _ _ q => by cases q.1; rfl) ?_
        rintro _ _ S10 ⟨rfl, r11, rfl, h⟩
        show it_Ev g l 8 it_m_X6_again 0 0 41 [some (.ref 45), some (.int x1), some (.int x2), some (.int x3), some (.int (-1)), none, none, none, none] [.int r11] κ S10 (it_pi κ P)
        refine ev_istore d_X6_again_41 (by decide) ?_
        show it_Ev g l 8 it_m_X6_again 0 0 43 [some (.ref 45), some (.int x1), some (.int x2), some (.int x3), some (.int (-1)), some (.int r11), none, none, none] [] κ S10 (it_pi κ P)
        refine ev_iconst d_X6_again_43 kv_iconst_0 ?_
        refine ev_istore d_X6_again_44 (by decide) ?_
        show it_Ev g l 8 it_m_X6_again 0 0 46 [some (.ref 45), some (.int x1), some (.int x2), some (.int x3), some (.int (-1)), some (.int r11), some (.int 0), none, none] [] κ S10 (it_pi κ P)
        refine ev_keep [true, true, true, true, true, true, true, false, false] ?_
        refine Llp_X6_again_46 hm (fun v24 v25 S26 h => ?_) _ _ _ _ _ h
        show it_Ev g l 8 it_m_X6_again 0 0 154 [none, none, none, some (.int x3), some (.int v24), some (.int v25), none, none, none] [] κ S26 (it_pi κ P)
        refine ev_iload_n d_X6_again_154 rfl ?_
        refine ev_if_ne (tgt := 163) d_X6_again_155 (by decide) (fun hc27 => ?_) (fun hc27 => ?_)
        · have h := it_ok_f h hc27
          refine ev_iload d_X6_again_163 rfl ?_
          exact ev_ret (v := some (.int _)) ⟨d_X6_again_165, _, rfl, rfl⟩ (by decide) (by decide) ⟨rfl, _, rfl, it_ok_r h⟩
        · have h := it_ok_t h hc27
          refine ev_iload d_X6_again_158 rfl ?_
          refine ev_goto (tgt := 165) d_X6_again_160 (by decide) ?_
          exact ev_ret (v := some (.int _)) ⟨d_X6_again_165, _, rfl, rfl⟩ (by decide) (by decide) ⟨rfl, _, rfl, it_ok_r h⟩
      · have h := it_ok_t h hc9
        refine ev_sipush d_X6_again_29 kv_sipush_m1000 ?_
        exact ev_ret (v := some (.int _)) ⟨d_X6_again_32, _, rfl, rfl⟩ (by decide) (by decide) ⟨rfl, _, rfl, it_ok_r h⟩
theorem d_X6_spilt_0 : decode prog_8_method_55_code 0 = .ok (.iload_n 1, 1) := by decide +kernel
theorem d_X6_spilt_1 : decode prog_8_method_55_code 1 = .ok (.iconst 1, 1) := by decide +kernel
theorem d_X6_spilt_2 : decode prog_8_method_55_code 2 = .ok (.bipush 20, 2) := by decide +kernel
theorem d_X6_spilt_4 : decode prog_8_method_55_code 4 = .ok (.invokestatic 78, 3) := by decide +kernel
theorem d_X6_spilt_7 : decode prog_8_method_55_code 7 = .ok (.ifCond .eq 12, 3) := by decide +kernel
theorem d_X6_spilt_10 : decode prog_8_method_55_code 10 = .ok (.iload_n 2, 1) := by decide +kernel
theorem d_X6_spilt_11 : decode prog_8_method_55_code 11 = .ok (.iconst 0, 1) := by decide +kernel
theorem d_X6_spilt_12 : decode prog_8_method_55_code 12 = .ok (.iconst 1, 1) := by decide +kernel
theorem d_X6_spilt_13 : decode prog_8_method_55_code 13 = .ok (.invokestatic 78, 3) := by decide +kernel
theorem d_X6_spilt_16 : decode prog_8_method_55_code 16 = .ok (.ifCond .ne 7, 3) := by decide +kernel
theorem d_X6_spilt_19 : decode prog_8_method_55_code 19 = .ok (.sipush (-1000), 3) := by decide +kernel
theorem d_X6_spilt_22 : decode prog_8_method_55_code 22 = .ok (.ireturn, 1) := by decide +kernel
theorem d_X6_spilt_23 : decode prog_8_method_55_code 23 = .ok (.iconst (-1), 1) := by decide +kernel
theorem d_X6_spilt_24 : decode prog_8_method_55_code 24 = .ok (.istore_n 3, 1) := by decide +kernel
theorem d_X6_spilt_25 : decode prog_8_method_55_code 25 = .ok (.aload_n 0, 1) := by decide +kernel
theorem d_X6_spilt_26 : decode prog_8_method_55_code 26 = .ok (.iload_n 1, 1) := by decide +kernel
theorem d_X6_spilt_27 : decode prog_8_method_55_code 27 = .ok (.invokevirtual 213, 3) := by decide +kernel
theorem d_X6_spilt_30 : decode prog_8_method_55_code 30 = .ok (.istore 4, 2) := by decide +kernel
theorem d_X6_spilt_32 : decode prog_8_method_55_code 32 = .ok (.iconst 0, 1) := by decide +kernel
theorem d_X6_spilt_33 : decode prog_8_method_55_code 33 = .ok (.istore 5, 2) := by decide +kernel
theorem d_X6_spilt_35 : decode prog_8_method_55_code 35 = .ok (.iload 5, 2) := by decide +kernel
theorem d_X6_spilt_37 : decode prog_8_method_55_code 37 = .ok (.bipush 10, 2) := by decide +kernel
theorem d_X6_spilt_39 : decode prog_8_method_55_code 39 = .ok (.if_icmp .ge 87, 3) := by decide +kernel
theorem d_X6_spilt_42 : decode prog_8_method_55_code 42 = .ok (.aload_n 0, 1) := by decide +kernel
theorem d_X6_spilt_43 : decode prog_8_method_55_code 43 = .ok (.iload 5, 2) := by decide +kernel
theorem d_X6_spilt_45 : decode prog_8_method_55_code 45 = .ok (.invokevirtual 86, 3) := by decide +kernel
theorem d_X6_spilt_48 : decode prog_8_method_55_code 48 = .ok (.ifCond .eq 72, 3) := by decide +kernel
theorem d_X6_spilt_51 : decode prog_8_method_55_code 51 = .ok (.aload_n 0, 1) := by decide +kernel
theorem d_X6_spilt_52 : decode prog_8_method_55_code 52 = .ok (.getfield 19, 3) := by decide +kernel
theorem d_X6_spilt_55 : decode prog_8_method_55_code 55 = .ok (.iconst 3, 1) := by decide +kernel
theorem d_X6_spilt_56 : decode prog_8_method_55_code 56 = .ok (.iload 5, 2) := by decide +kernel
theorem d_X6_spilt_58 : decode prog_8_method_55_code 58 = .ok (.imul, 1) := by decide +kernel
theorem d_X6_spilt_59 : decode prog_8_method_55_code 59 = .ok (.iaload, 1) := by decide +kernel
theorem d_X6_spilt_60 : decode prog_8_method_55_code 60 = .ok (.istore 6, 2) := by decide +kernel
theorem d_X6_spilt_62 : decode prog_8_method_55_code 62 = .ok (.aload_n 0, 1) := by decide +kernel
theorem d_X6_spilt_63 : decode prog_8_method_55_code 63 = .ok (.getfield 19, 3) := by decide +kernel
theorem d_X6_spilt_66 : decode prog_8_method_55_code 66 = .ok (.iconst 3, 1) := by decide +kernel
theorem d_X6_spilt_67 : decode prog_8_method_55_code 67 = .ok (.iload 5, 2) := by decide +kernel
theorem d_X6_spilt_69 : decode prog_8_method_55_code 69 = .ok (.imul, 1) := by decide +kernel
theorem d_X6_spilt_70 : decode prog_8_method_55_code 70 = .ok (.iconst (-1), 1) := by decide +kernel
theorem d_X6_spilt_71 : decode prog_8_method_55_code 71 = .ok (.iastore, 1) := by decide +kernel
theorem d_X6_spilt_72 : decode prog_8_method_55_code 72 = .ok (.aload_n 0, 1) := by decide +kernel
theorem d_X6_spilt_73 : decode prog_8_method_55_code 73 = .ok (.iload_n 1, 1) := by decide +kernel
theorem d_X6_spilt_74 : decode prog_8_method_55_code 74 = .ok (.invokevirtual 213, 3) := by decide +kernel
theorem d_X6_spilt_77 : decode prog_8_method_55_code 77 = .ok (.istore 7, 2) := by decide +kernel
theorem d_X6_spilt_79 : decode prog_8_method_55_code 79 = .ok (.aload_n 0, 1) := by decide +kernel
theorem d_X6_spilt_80 : decode prog_8_method_55_code 80 = .ok (.getfield 19, 3) := by decide +kernel
theorem d_X6_spilt_83 : decode prog_8_method_55_code 83 = .ok (.iconst 3, 1) := by decide +kernel
theorem d_X6_spilt_84 : decode prog_8_method_55_code 84 = .ok (.iload 5, 2) := by decide +kernel
theorem d_X6_spilt_86 : decode prog_8_method_55_code 86 = .ok (.imul, 1) := by decide +kernel
theorem d_X6_spilt_87 : decode prog_8_method_55_code 87 = .ok (.iload 6, 2) := by decide +kernel
theorem d_X6_spilt_89 : decode prog_8_method_55_code 89 = .ok (.iastore, 1) := by decide +kernel
theorem d_X6_spilt_90 : decode prog_8_method_55_code 90 = .ok (.iload 7, 2) := by decide +kernel
theorem d_X6_spilt_92 : decode prog_8_method_55_code 92 = .ok (.iload 4, 2) := by decide +kernel
theorem d_X6_spilt_94 : decode prog_8_method_55_code 94 = .ok (.if_icmp .le 8, 3) := by decide +kernel
theorem d_X6_spilt_97 : decode prog_8_method_55_code 97 = .ok (.iload 5, 2) := by decide +kernel
theorem d_X6_spilt_99 : decode prog_8_method_55_code 99 = .ok (.goto 4, 3) := by decide +kernel
theorem d_X6_spilt_102 : decode prog_8_method_55_code 102 = .ok (.iload_n 3, 1) := by decide +kernel
theorem d_X6_spilt_103 : decode prog_8_method_55_code 103 = .ok (.istore_n 3, 1) := by decide +kernel
theorem d_X6_spilt_104 : decode prog_8_method_55_code 104 = .ok (.iload 7, 2) := by decide +kernel
theorem d_X6_spilt_106 : decode prog_8_method_55_code 106 = .ok (.iload 4, 2) := by decide +kernel
theorem d_X6_spilt_108 : decode prog_8_method_55_code 108 = .ok (.if_icmp .le 8, 3) := by decide +kernel
theorem d_X6_spilt_111 : decode prog_8_method_55_code 111 = .ok (.iload 7, 2) := by decide +kernel
theorem d_X6_spilt_113 : decode prog_8_method_55_code 113 = .ok (.goto 5, 3) := by decide +kernel
theorem d_X6_spilt_116 : decode prog_8_method_55_code 116 = .ok (.iload 4, 2) := by decide +kernel
theorem d_X6_spilt_118 : decode prog_8_method_55_code 118 = .ok (.istore 4, 2) := by decide +kernel
theorem d_X6_spilt_120 : decode prog_8_method_55_code 120 = .ok (.iinc 5 1, 3) := by decide +kernel
theorem d_X6_spilt_123 : decode prog_8_method_55_code 123 = .ok (.goto (-88), 3) := by decide +kernel
theorem d_X6_spilt_126 : decode prog_8_method_55_code 126 = .ok (.iload_n 2, 1) := by decide +kernel
theorem d_X6_spilt_127 : decode prog_8_method_55_code 127 = .ok (.ifCond .ne 7, 3) := by decide +kernel
theorem d_X6_spilt_130 : decode prog_8_method_55_code 130 = .ok (.iload_n 3, 1) := by decide +kernel
theorem d_X6_spilt_131 : decode prog_8_method_55_code 131 = .ok (.goto 5, 3) := by decide +kernel
theorem d_X6_spilt_134 : decode prog_8_method_55_code 134 = .ok (.iload 4, 2) := by decide +kernel
theorem d_X6_spilt_136 : decode prog_8_method_55_code 136 = .ok (.ireturn, 1) := by decide +kernel
def lp_X6_spilt_35 (κ : it_KK) (x1 : Int32) (x2 : Int32) (k35 : (Int32 → Int32 → it_SS → Option (Int32 × it_SS))) : Nat → Int32 → Int32 → Int32 → it_SS → Option (Int32 × it_SS)
  | 0, _, _, _, _ => none
  | n35 + 1, v3, v4, v5, S => if 10 ≤ v5 then
k35 v3 v4 S
else
it_bi (f_X6_isThere κ v5 S) (fun r11 S10 =>
if r11 = 0 then
lp_X6_spilt_35 κ x1 x2 k35 n35 v3 v4 (v5 + 1) S10
else
if it_bd (3 * v5) 30 = true then
it_bi (f_X6_moodBehind κ x1 (it_up S10 49 ((3 * v5) : Int32).toNatClampNeg (-1))) (fun r15 S14 =>
if r15 ≤ v4 then
if r15 ≤ v4 then
lp_X6_spilt_35 κ x1 x2 k35 n35 v3 v4 (v5 + 1) (it_up S14 49 ((3 * v5) : Int32).toNatClampNeg (S10 49 ((3 * v5) : Int32).toNatClampNeg))
else
lp_X6_spilt_35 κ x1 x2 k35 n35 v3 r15 (v5 + 1) (it_up S14 49 ((3 * v5) : Int32).toNatClampNeg (S10 49 ((3 * v5) : Int32).toNatClampNeg))
else
if r15 ≤ v4 then
lp_X6_spilt_35 κ x1 x2 k35 n35 v5 v4 (v5 + 1) (it_up S14 49 ((3 * v5) : Int32).toNatClampNeg (S10 49 ((3 * v5) : Int32).toNatClampNeg))
else
lp_X6_spilt_35 κ x1 x2 k35 n35 v5 r15 (v5 + 1) (it_up S14 49 ((3 * v5) : Int32).toNatClampNeg (S10 49 ((3 * v5) : Int32).toNatClampNeg)))
else none)
def f_X6_spilt (κ : it_KK) (x1 : Int32) (x2 : Int32) (S : it_SS) : Option (Int32 × it_SS) :=
it_bi (f_X6_in κ x1 1 20 S) (fun r2 S1 =>
if r2 = 0 then
some ((-1000), S1)
else
it_bi (f_X6_in κ x2 0 1 S1) (fun r5 S4 =>
if r5 = 0 then
some ((-1000), S4)
else
it_bi (f_X6_moodBehind κ x1 S4) (fun r8 S7 =>
lp_X6_spilt_35 κ x1 x2 (fun v19 v20 S21 =>
if x2 = 0 then
some (v19, S21)
else
some (v20, S21)) it_FU (-1) r8 0 S7)))
set_option maxHeartbeats 4000000 in
set_option maxRecDepth 100000 in
theorem Llp_X6_spilt_35 {g : it_G} {l : Launch} {κ : it_KK} {x1 : Int32} {x2 : Int32} (hm : it_wm κ) {P : Int32 → it_SS → Prop} {k35 : (Int32 → Int32 → it_SS → Option (Int32 × it_SS))} (hk35 : ∀ (v3 : Int32) (v4 : Int32) (S : it_SS), it_ok (k35 v3 v4 S) P → it_Ev g l 8 it_m_X6_spilt 0 0 126 [none, none, some (.int x2), some (.int v3), some (.int v4), none, none, none] [] κ S (it_pi κ P)) : ∀ (n : Nat) (v3 : Int32) (v4 : Int32) (v5 : Int32) (S : it_SS), it_ok (lp_X6_spilt_35 κ x1 x2 k35 n v3 v4 v5 S) P → it_Ev g l 8 it_m_X6_spilt 0 0 35 [some (.ref 45), some (.int x1), some (.int x2), some (.int v3), some (.int v4), some (.int v5), none, none] [] κ S (it_pi κ P) := by
  intro n
  induction n with
  | zero =>
    intro _ _ _ _ h
    exact (it_ok_n h).elim
  | succ n35 ih35 =>
    intro v3 v4 v5 S h
    rw [lp_X6_spilt_35] at h
    refine ev_iload d_X6_spilt_35 rfl ?_
    refine ev_bipush d_X6_spilt_37 kv_bipush_10 ?_
    refine ev_icmp_ge (tgt := 126) d_X6_spilt_39 (by decide) (fun hc9 => ?_) (fun hc9 => ?_)
    · have h := it_ok_t h hc9
      refine ev_keep [false, false, true, true, true, false, false, false] ?_
      exact hk35 _ _ _ h
    · have h := it_ok_f h hc9
      refine ev_aload_n d_X6_spilt_42 rfl ?_
      refine ev_iload d_X6_spilt_43 rfl ?_
      refine ev_callV (ci := 6) (b := 45) (M' := it_m_X6_isThere) (d' := 2) (As := [.int v5]) d_X6_spilt_45 ml_IcedTooSoonModel_86 hm.1.1 hm.1.2.1 ⟨_, rfl, rfl⟩ rfl rfl (Nat.le_of_ble_eq_true rfl) (by decide) (by decide) (by decide) (L_X6_isThere hm (it_ok_b h)) (fun _ _ _ _ q => by cases q.1; rfl) ?_
      rintro _ _ S10 ⟨rfl, r11, rfl, h⟩
      show it_Ev g l 8 it_m_X6_spilt 0 0 48 [some (.ref 45), some (.int x1), some (.int x2), some (.int v3), some (.int v4), some (.int v5), none, none] [.int r11] κ S10 (it_pi κ P)
      refine ev_if_eq (tgt := 120) d_X6_spilt_48 (by decide) (fun hc12 => ?_) (fun hc12 => ?_)
      · have h := it_ok_t h hc12
        refine ev_iinc d_X6_spilt_120 kv_iconst_1 rfl (by decide) ?_
        show it_Ev g l 8 it_m_X6_spilt 0 0 123 [some (.ref 45), some (.int x1), some (.int x2), some (.int v3), some (.int v4), some (.int (v5 + 1)), none, none] [] κ S10 (it_pi κ P)
        refine ev_goto (tgt := 35) d_X6_spilt_123 (by decide) ?_
        refine ev_keep [true, true, true, true, true, true, false, false] ?_
        exact ih35 _ _ _ _ h
      · have h := it_ok_f h hc12
        refine ev_aload_n d_X6_spilt_51 rfl ?_
        refine ev_getRr (r := 49) rfl d_X6_spilt_52 fl_IcedTooSoonModel_19 hm.1 rfl ?_
        refine ev_iconst d_X6_spilt_55 kv_iconst_3 ?_
        refine ev_iload d_X6_spilt_56 rfl ?_
        refine ev_imul d_X6_spilt_58 ?_
        obtain ⟨hb13, h⟩ := it_ok_g h
        refine ev_iald d_X6_spilt_59 (hm).2.2.2.2.1 (it_bd_in hb13) ?_
        refine ev_istore d_X6_spilt_60 (by decide) ?_
        show it_Ev g l 8 it_m_X6_spilt 0 0 62 [some (.ref 45), some (.int x1), some (.int x2), some (.int v3), some (.int v4), some (.int v5), some (.int (S10 49 ((3 * v5) : Int32).toNatClampNeg)), none] [] κ S10 (it_pi κ P)
        refine ev_aload_n d_X6_spilt_62 rfl ?_
        refine ev_getRr (r := 49) rfl d_X6_spilt_63 fl_IcedTooSoonModel_19 hm.1 rfl ?_
        refine ev_iconst d_X6_spilt_66 kv_iconst_3 ?_
        refine ev_iload d_X6_spilt_67 rfl ?_
        refine ev_imul d_X6_spilt_69 ?_
        refine ev_iconst d_X6_spilt_70 kv_iconst_m1 ?_
        refine ev_iast d_X6_spilt_71 (by decide) (hm).2.2.2.2.1 (it_bd_in hb13) ?_
        refine ev_aload_n d_X6_spilt_72 rfl ?_
        refine ev_iload_n d_X6_spilt_73 rfl ?_
        refine ev_callV (ci := 6) (b := 45) (M' := it_m_X6_moodBehind) (d' := 7) (As := [.int x1]) d_X6_spilt_74 ml_IcedTooSoonModel_213 hm.1.1 hm.1.2.1 ⟨_, rfl, rfl⟩ rfl rfl (Nat.le_of_ble_eq_true rfl) (by decide) (by decide) (by decide) (L_X6_moodBehind hm (it_ok_b h)) (fun _ _ _ _ q => by cases q.1; rfl) ?_
        rintro _ _ S14 ⟨rfl, r15, rfl, h⟩
        show it_Ev g l 8 it_m_X6_spilt 0 0 77 [some (.ref 45), some (.int x1), some (.int x2), some (.int v3), some (.int v4), some (.int v5), some (.int (S10 49 ((3 * v5) : Int32).toNatClampNeg)), none] [.int r15] κ S14 (it_pi κ P)
        refine ev_istore d_X6_spilt_77 (by decide) ?_
        show it_Ev g l 8 it_m_X6_spilt 0 0 79 [some (.ref 45), some (.int x1), some (.int x2), some (.int v3), some (.int v4), some (.int v5), some (.int (S10 49 ((3 * v5) : Int32).toNatClampNeg)), some (.int r15)] [] κ S14 (it_pi κ P)
        refine ev_aload_n d_X6_spilt_79 rfl ?_
        refine ev_getRr (r := 49) rfl d_X6_spilt_80 fl_IcedTooSoonModel_19 hm.1 rfl ?_
        refine ev_iconst d_X6_spilt_83 kv_iconst_3 ?_
        refine ev_iload d_X6_spilt_84 rfl ?_
        refine ev_imul d_X6_spilt_86 ?_
        refine ev_iload d_X6_spilt_87 rfl ?_
        refine ev_iast d_X6_spilt_89 (by decide) (hm).2.2.2.2.1 (it_bd_in hb13) ?_
        refine ev_iload d_X6_spilt_90 rfl ?_
        refine ev_iload d_X6_spilt_92 rfl ?_
        refine ev_icmp_le (tgt := 102) d_X6_spilt_94 (by decide) (fun hc16 => ?_) (fun hc16 => ?_)
        · have h := it_ok_t h hc16
          refine ev_iload_n d_X6_spilt_102 rfl ?_
          refine ev_istore_n d_X6_spilt_103 (by decide) ?_
          show it_Ev g l 8 it_m_X6_spilt 0 0 104 [some (.ref 45), some (.int x1), some (.int x2), some (.int v3), some (.int v4), some (.int v5), some (.int (S10 49 ((3 * v5) : Int32).toNatClampNeg)), some (.int r15)] [] κ (it_up S14 49 ((3 * v5) : Int32).toNatClampNeg (S10 49 ((3 * v5) : Int32).toNatClampNeg)) (it_pi κ P)
          refine ev_iload d_X6_spilt_104 rfl ?_
          refine ev_iload d_X6_spilt_106 rfl ?_
          refine ev_icmp_le (tgt := 116) d_X6_spilt_108 (by decide) (fun hc17 => ?_) (fun hc17 => ?_)
          · have h := it_ok_t h hc17
            refine ev_iload d_X6_spilt_116 rfl ?_
            refine ev_istore d_X6_spilt_118 (by decide) ?_
            show it_Ev g l 8 it_m_X6_spilt 0 0 120 [some (.ref 45), some (.int x1), some (.int x2), some (.int v3), some (.int v4), some (.int v5), some (.int (S10 49 ((3 * v5) : Int32).toNatClampNeg)), some (.int r15)] [] κ (it_up S14 49 ((3 * v5) : Int32).toNatClampNeg (S10 49 ((3 * v5) : Int32).toNatClampNeg)) (it_pi κ P)
            refine ev_iinc d_X6_spilt_120 kv_iconst_1 rfl (by decide) ?_
            show it_Ev g l 8 it_m_X6_spilt 0 0 123 [some (.ref 45), some (.int x1), some (.int x2), some (.int v3), some (.int v4), some (.int (v5 + 1)), some (.int (S10 49 ((3 * v5) : Int32).toNatClampNeg)), some (.int r15)] [] κ (it_up S14 49 ((3 * v5) : Int32).toNatClampNeg (S10 49 ((3 * v5) : Int32).toNatClampNeg)) (it_pi κ P)
            refine ev_goto (tgt := 35) d_X6_spilt_123 (by decide) ?_
            refine ev_keep [true, true, true, true, true, true, false, false] ?_
            exact ih35 _ _ _ _ h
          · have h := it_ok_f h hc17
            refine ev_iload d_X6_spilt_111 rfl ?_
            refine ev_goto (tgt := 118) d_X6_spilt_113 (by decide) ?_
            refine ev_istore d_X6_spilt_118 (by decide) ?_
            show it_Ev g l 8 it_m_X6_spilt 0 0 120 [some (.ref 45), some (.int x1), some (.int x2), some (.int v3), some (.int r15), some (.int v5), some (.int (S10 49 ((3 * v5) : Int32).toNatClampNeg)), some (.int r15)] [] κ (it_up S14 49 ((3 * v5) : Int32).toNatClampNeg (S10 49 ((3 * v5) : Int32).toNatClampNeg)) (it_pi κ P)
            refine ev_iinc d_X6_spilt_120 kv_iconst_1 rfl (by decide) ?_
            show it_Ev g l 8 it_m_X6_spilt 0 0 123 [some (.ref 45), some (.int x1), some (.int x2), some (.int v3), some (.int r15), some (.int (v5 + 1)), some (.int (S10 49 ((3 * v5) : Int32).toNatClampNeg)), some (.int r15)] [] κ (it_up S14 49 ((3 * v5) : Int32).toNatClampNeg (S10 49 ((3 * v5) : Int32).toNatClampNeg)) (it_pi κ P)
            refine ev_goto (tgt := 35) d_X6_spilt_123 (by decide) ?_
            refine ev_keep [true, true, true, true, true, true, false, false] ?_
            exact ih35 _ _ _ _ h
        · have h := it_ok_f h hc16
          refine ev_iload d_X6_spilt_97 rfl ?_
          refine ev_goto (tgt := 103) d_X6_spilt_99 (by decide) ?_
          refine ev_istore_n d_X6_spilt_103 (by decide) ?_
          show it_Ev g l 8 it_m_X6_spilt 0 0 104 [some (.ref 45), some (.int x1), some (.int x2), some (.int v5), some (.int v4), some (.int v5), some (.int (S10 49 ((3 * v5) : Int32).toNatClampNeg)), some (.int r15)] [] κ (it_up S14 49 ((3 * v5) : Int32).toNatClampNeg (S10 49 ((3 * v5) : Int32).toNatClampNeg)) (it_pi κ P)
          refine ev_iload d_X6_spilt_104 rfl ?_
          refine ev_iload d_X6_spilt_106 rfl ?_
          refine ev_icmp_le (tgt := 116) d_X6_spilt_108 (by decide) (fun hc18 => ?_) (fun hc18 => ?_)
          · have h := it_ok_t h hc18
            refine ev_iload d_X6_spilt_116 rfl ?_
            refine ev_istore d_X6_spilt_118 (by decide) ?_
            show it_Ev g l 8 it_m_X6_spilt 0 0 120 [some (.ref 45), some (.int x1), some (.int x2), some (.int v5), some (.int v4), some (.int v5), some (.int (S10 49 ((3 * v5) : Int32).toNatClampNeg)), some (.int r15)] [] κ (it_up S14 49 ((3 * v5) : Int32).toNatClampNeg (S10 49 ((3 * v5) : Int32).toNatClampNeg)) (it_pi κ P)
            refine ev_iinc d_X6_spilt_120 kv_iconst_1 rfl (by decide) ?_
            show it_Ev g l 8 it_m_X6_spilt 0 0 123 [some (.ref 45), some (.int x1), some (.int x2), some (.int v5), some (.int v4), some (.int (v5 + 1)), some (.int (S10 49 ((3 * v5) : Int32).toNatClampNeg)), some (.int r15)] [] κ (it_up S14 49 ((3 * v5) : Int32).toNatClampNeg (S10 49 ((3 * v5) : Int32).toNatClampNeg)) (it_pi κ P)
            refine ev_goto (tgt := 35) d_X6_spilt_123 (by decide) ?_
            refine ev_keep [true, true, true, true, true, true, false, false] ?_
            exact ih35 _ _ _ _ h
          · have h := it_ok_f h hc18
            refine ev_iload d_X6_spilt_111 rfl ?_
            refine ev_goto (tgt := 118) d_X6_spilt_113 (by decide) ?_
            refine ev_istore d_X6_spilt_118 (by decide) ?_
            show it_Ev g l 8 it_m_X6_spilt 0 0 120 [some (.ref 45), some (.int x1), some (.int x2), some (.int v5), some (.int r15), some (.int v5), some (.int (S10 49 ((3 * v5) : Int32).toNatClampNeg)), some (.int r15)] [] κ (it_up S14 49 ((3 * v5) : Int32).toNatClampNeg (S10 49 ((3 * v5) : Int32).toNatClampNeg)) (it_pi κ P)
            refine ev_iinc d_X6_spilt_120 kv_iconst_1 rfl (by decide) ?_
            show it_Ev g l 8 it_m_X6_spilt 0 0 123 [some (.ref 45), some (.int x1), some (.int x2), some (.int v5), some (.int r15), some (.int (v5 + 1)), some (.int (S10 49 ((3 * v5) : Int32).toNatClampNeg)), some (.int r15)] [] κ (it_up S14 49 ((3 * v5) : Int32).toNatClampNeg (S10 49 ((3 * v5) : Int32).toNatClampNeg)) (it_pi κ P)
            refine ev_goto (tgt := 35) d_X6_spilt_123 (by decide) ?_
            refine ev_keep [true, true, true, true, true, true, false, false] ?_
            exact ih35 _ _ _ _ h
set_option maxHeartbeats 4000000 in
set_option maxRecDepth 100000 in
theorem L_X6_spilt {g : it_G} {l : Launch} {κ : it_KK} {x1 : Int32} {x2 : Int32} (hm : it_wm κ) {S : it_SS} {P : Int32 → it_SS → Prop} (h : it_ok (f_X6_spilt κ x1 x2 S) P) : it_Cn g l 8 it_m_X6_spilt [.ref 45, .int x1, .int x2] κ S (it_pi κ P) := by
  refine it_Cn.of (by decide +kernel) (Nat.le_of_ble_eq_true rfl) ?_
  rw [f_X6_spilt] at h
  show it_Ev g l 8 it_m_X6_spilt 0 0 0 [some (.ref 45), some (.int x1), some (.int x2), none, none, none, none, none] [] κ S (it_pi κ P)
  refine ev_iload_n d_X6_spilt_0 rfl ?_
  refine ev_iconst d_X6_spilt_1 kv_iconst_1 ?_
  refine ev_bipush d_X6_spilt_2 kv_bipush_20 ?_
  refine ev_callS (M' := it_m_X6_in) (d' := 1) (As := [.int x1, .int 1, .int 20]) d_X6_spilt_4 ml_IcedTooSoonModel_78 rfl rfl (Nat.le_of_ble_eq_true rfl) (by decide) (by decide) (by decide) (L_X6_in  (it_ok_b h)) (fun _ _ _ _ q => by cases q.1; rfl) ?_
  rintro _ _ S1 ⟨rfl, r2, rfl, h⟩
  show it_Ev g l 8 it_m_X6_spilt 0 0 7 [some (.ref 45), some (.int x1), some (.int x2), none, none, none, none, none] [.int r2] κ S1 (it_pi κ P)
  refine ev_if_eq (tgt := 19) d_X6_spilt_7 (by decide) (fun hc3 => ?_) (fun hc3 => ?_)
  · have h := it_ok_t h hc3
    refine ev_sipush d_X6_spilt_19 kv_sipush_m1000 ?_
    exact ev_ret (v := some (.int _)) ⟨d_X6_spilt_22, _, rfl, rfl⟩ (by decide) (by decide) ⟨rfl, _, rfl, it_ok_r h⟩
  · have h := it_ok_f h hc3
    refine ev_iload_n d_X6_spilt_10 rfl ?_
    refine ev_iconst d_X6_spilt_11 kv_iconst_0 ?_
    refine ev_iconst d_X6_spilt_12 kv_iconst_1 ?_
    refine ev_callS (M' := it_m_X6_in) (d' := 1) (As := [.int x2, .int 0, .int 1]) d_X6_spilt_13 ml_IcedTooSoonModel_78 rfl rfl (Nat.le_of_ble_eq_true rfl) (by decide) (by decide) (by decide) (L_X6_in  (it_ok_b h)) (fun _ _ _ _ q => by cases q.1; rfl) ?_
    rintro _ _ S4 ⟨rfl, r5, rfl, h⟩
    show it_Ev g l 8 it_m_X6_spilt 0 0 16 [some (.ref 45), some (.int x1), some (.int x2), none, none, none, none, none] [.int r5] κ S4 (it_pi κ P)
    refine ev_if_ne (tgt := 23) d_X6_spilt_16 (by decide) (fun hc6 => ?_) (fun hc6 => ?_)
    · have h := it_ok_f h hc6
      refine ev_iconst d_X6_spilt_23 kv_iconst_m1 ?_
      refine ev_istore_n d_X6_spilt_24 (by decide) ?_
      show it_Ev g l 8 it_m_X6_spilt 0 0 25 [some (.ref 45), some (.int x1), some (.int x2), some (.int (-1)), none, none, none, none] [] κ S4 (it_pi κ P)
      refine ev_aload_n d_X6_spilt_25 rfl ?_
      refine ev_iload_n d_X6_spilt_26 rfl ?_
      refine ev_callV (ci := 6) (b := 45) (M' := it_m_X6_moodBehind) (d' := 7) (As := [.int x1]) d_X6_spilt_27 ml_IcedTooSoonModel_213 hm.1.1 hm.1.2.1 ⟨_, rfl, rfl⟩ rfl rfl (Nat.le_of_ble_eq_true rfl) (by decide) (by decide) (by decide) (L_X6_moodBehind hm (it_ok_b h)) (fun _ _ _ _ q => by cases q.1; rfl) ?_
      rintro _ _ S7 ⟨rfl, r8, rfl, h⟩
      show it_Ev g l 8 it_m_X6_spilt 0 0 30 [some (.ref 45), some (.int x1), some (.int x2), some (.int (-1)), none, none, none, none] [.int r8] κ S7 (it_pi κ P)
      refine ev_istore d_X6_spilt_30 (by decide) ?_
      show it_Ev g l 8 it_m_X6_spilt 0 0 32 [some (.ref 45), some (.int x1), some (.int x2), some (.int (-1)), some (.int r8), none, none, none] [] κ S7 (it_pi κ P)
      refine ev_iconst d_X6_spilt_32 kv_iconst_0 ?_
      refine ev_istore d_X6_spilt_33 (by decide) ?_
      show it_Ev g l 8 it_m_X6_spilt 0 0 35 [some (.ref 45), some (.int x1), some (.int x2), some (.int (-1)), some (.int r8), some (.int 0), none, none] [] κ S7 (it_pi κ P)
      refine ev_keep [true, true, true, true, true, true, false, false] ?_
      refine Llp_X6_spilt_35 hm (fun v19 v20 S21 h => ?_) _ _ _ _ _ h
      show it_Ev g l 8 it_m_X6_spilt 0 0 126 [none, none, some (.int x2), some (.int v19), some (.int v20), none, none, none] [] κ S21 (it_pi κ P)
      refine ev_iload_n d_X6_spilt_126 rfl ?_
      refine ev_if_ne (tgt := 134) d_X6_spilt_127 (by decide) (fun hc22 => ?_) (fun hc22 => ?_)
      · have h := it_ok_f h hc22
        refine ev_iload d_X6_spilt_134 rfl ?_
        exact ev_ret (v := some (.int _)) ⟨d_X6_spilt_136, _, rfl, rfl⟩ (by decide) (by decide) ⟨rfl, _, rfl, it_ok_r h⟩
      · have h := it_ok_t h hc22
        refine ev_iload_n d_X6_spilt_130 rfl ?_
        refine ev_goto (tgt := 136) d_X6_spilt_131 (by decide) ?_
        exact ev_ret (v := some (.int _)) ⟨d_X6_spilt_136, _, rfl, rfl⟩ (by decide) (by decide) ⟨rfl, _, rfl, it_ok_r h⟩
    · have h := it_ok_t h hc6
      refine ev_sipush d_X6_spilt_19 kv_sipush_m1000 ?_
      exact ev_ret (v := some (.int _)) ⟨d_X6_spilt_22, _, rfl, rfl⟩ (by decide) (by decide) ⟨rfl, _, rfl, it_ok_r h⟩
theorem d_X6_ices_0 : decode prog_8_method_56_code 0 = .ok (.iconst 0, 1) := by decide +kernel
theorem d_X6_ices_1 : decode prog_8_method_56_code 1 = .ok (.istore_n 3, 1) := by decide +kernel
theorem d_X6_ices_2 : decode prog_8_method_56_code 2 = .ok (.aload_n 0, 1) := by decide +kernel
theorem d_X6_ices_3 : decode prog_8_method_56_code 3 = .ok (.iconst 0, 1) := by decide +kernel
theorem d_X6_ices_4 : decode prog_8_method_56_code 4 = .ok (.putfield 216, 3) := by decide +kernel
theorem d_X6_ices_7 : decode prog_8_method_56_code 7 = .ok (.iconst 0, 1) := by decide +kernel
theorem d_X6_ices_8 : decode prog_8_method_56_code 8 = .ok (.istore 4, 2) := by decide +kernel
theorem d_X6_ices_10 : decode prog_8_method_56_code 10 = .ok (.iload 4, 2) := by decide +kernel
theorem d_X6_ices_12 : decode prog_8_method_56_code 12 = .ok (.bipush 10, 2) := by decide +kernel
theorem d_X6_ices_14 : decode prog_8_method_56_code 14 = .ok (.if_icmp .ge 79, 3) := by decide +kernel
theorem d_X6_ices_17 : decode prog_8_method_56_code 17 = .ok (.iload_n 1, 1) := by decide +kernel
theorem d_X6_ices_18 : decode prog_8_method_56_code 18 = .ok (.bipush 9, 2) := by decide +kernel
theorem d_X6_ices_20 : decode prog_8_method_56_code 20 = .ok (.iload 4, 2) := by decide +kernel
theorem d_X6_ices_22 : decode prog_8_method_56_code 22 = .ok (.isub, 1) := by decide +kernel
theorem d_X6_ices_23 : decode prog_8_method_56_code 23 = .ok (.ishr, 1) := by decide +kernel
theorem d_X6_ices_24 : decode prog_8_method_56_code 24 = .ok (.iconst 1, 1) := by decide +kernel
theorem d_X6_ices_25 : decode prog_8_method_56_code 25 = .ok (.iand, 1) := by decide +kernel
theorem d_X6_ices_26 : decode prog_8_method_56_code 26 = .ok (.iconst 1, 1) := by decide +kernel
theorem d_X6_ices_27 : decode prog_8_method_56_code 27 = .ok (.if_icmp .ne 60, 3) := by decide +kernel
theorem d_X6_ices_30 : decode prog_8_method_56_code 30 = .ok (.aload_n 0, 1) := by decide +kernel
theorem d_X6_ices_31 : decode prog_8_method_56_code 31 = .ok (.iload 4, 2) := by decide +kernel
theorem d_X6_ices_33 : decode prog_8_method_56_code 33 = .ok (.invokevirtual 86, 3) := by decide +kernel
theorem d_X6_ices_36 : decode prog_8_method_56_code 36 = .ok (.ifCond .ne 5, 3) := by decide +kernel
theorem d_X6_ices_39 : decode prog_8_method_56_code 39 = .ok (.iconst (-1), 1) := by decide +kernel
theorem d_X6_ices_40 : decode prog_8_method_56_code 40 = .ok (.ireturn, 1) := by decide +kernel
theorem d_X6_ices_41 : decode prog_8_method_56_code 41 = .ok (.aload_n 0, 1) := by decide +kernel
theorem d_X6_ices_42 : decode prog_8_method_56_code 42 = .ok (.getfield 19, 3) := by decide +kernel
theorem d_X6_ices_45 : decode prog_8_method_56_code 45 = .ok (.iconst 3, 1) := by decide +kernel
theorem d_X6_ices_46 : decode prog_8_method_56_code 46 = .ok (.iload 4, 2) := by decide +kernel
theorem d_X6_ices_48 : decode prog_8_method_56_code 48 = .ok (.imul, 1) := by decide +kernel
theorem d_X6_ices_49 : decode prog_8_method_56_code 49 = .ok (.iconst 2, 1) := by decide +kernel
theorem d_X6_ices_50 : decode prog_8_method_56_code 50 = .ok (.iadd, 1) := by decide +kernel
theorem d_X6_ices_51 : decode prog_8_method_56_code 51 = .ok (.aload_n 0, 1) := by decide +kernel
theorem d_X6_ices_52 : decode prog_8_method_56_code 52 = .ok (.getfield 19, 3) := by decide +kernel
theorem d_X6_ices_55 : decode prog_8_method_56_code 55 = .ok (.iconst 3, 1) := by decide +kernel
theorem d_X6_ices_56 : decode prog_8_method_56_code 56 = .ok (.iload 4, 2) := by decide +kernel
theorem d_X6_ices_58 : decode prog_8_method_56_code 58 = .ok (.imul, 1) := by decide +kernel
theorem d_X6_ices_59 : decode prog_8_method_56_code 59 = .ok (.iconst 2, 1) := by decide +kernel
theorem d_X6_ices_60 : decode prog_8_method_56_code 60 = .ok (.iadd, 1) := by decide +kernel
theorem d_X6_ices_61 : decode prog_8_method_56_code 61 = .ok (.iaload, 1) := by decide +kernel
theorem d_X6_ices_62 : decode prog_8_method_56_code 62 = .ok (.iload_n 2, 1) := by decide +kernel
theorem d_X6_ices_63 : decode prog_8_method_56_code 63 = .ok (.iadd, 1) := by decide +kernel
theorem d_X6_ices_64 : decode prog_8_method_56_code 64 = .ok (.iconst 0, 1) := by decide +kernel
theorem d_X6_ices_65 : decode prog_8_method_56_code 65 = .ok (.bipush 99, 2) := by decide +kernel
theorem d_X6_ices_67 : decode prog_8_method_56_code 67 = .ok (.invokestatic 82, 3) := by decide +kernel
theorem d_X6_ices_70 : decode prog_8_method_56_code 70 = .ok (.iastore, 1) := by decide +kernel
theorem d_X6_ices_71 : decode prog_8_method_56_code 71 = .ok (.aload_n 0, 1) := by decide +kernel
theorem d_X6_ices_72 : decode prog_8_method_56_code 72 = .ok (.dup, 1) := by decide +kernel
theorem d_X6_ices_73 : decode prog_8_method_56_code 73 = .ok (.getfield 216, 3) := by decide +kernel
theorem d_X6_ices_76 : decode prog_8_method_56_code 76 = .ok (.iconst 1, 1) := by decide +kernel
theorem d_X6_ices_77 : decode prog_8_method_56_code 77 = .ok (.iload 4, 2) := by decide +kernel
theorem d_X6_ices_79 : decode prog_8_method_56_code 79 = .ok (.ishl, 1) := by decide +kernel
theorem d_X6_ices_80 : decode prog_8_method_56_code 80 = .ok (.ior, 1) := by decide +kernel
theorem d_X6_ices_81 : decode prog_8_method_56_code 81 = .ok (.putfield 216, 3) := by decide +kernel
theorem d_X6_ices_84 : decode prog_8_method_56_code 84 = .ok (.iinc 3 1, 3) := by decide +kernel
theorem d_X6_ices_87 : decode prog_8_method_56_code 87 = .ok (.iinc 4 1, 3) := by decide +kernel
theorem d_X6_ices_90 : decode prog_8_method_56_code 90 = .ok (.goto (-80), 3) := by decide +kernel
theorem d_X6_ices_93 : decode prog_8_method_56_code 93 = .ok (.iload_n 3, 1) := by decide +kernel
theorem d_X6_ices_94 : decode prog_8_method_56_code 94 = .ok (.ireturn, 1) := by decide +kernel
def lp_X6_ices_10 (κ : it_KK) (x1 : Int32) (x2 : Int32) (k10 : (Int32 → it_SS → Option (Int32 × it_SS))) : Nat → Int32 → Int32 → it_SS → Option (Int32 × it_SS)
  | 0, _, _, _ => none
  | n10 + 1, v3, v4, S => if 10 ≤ v4 then
k10 v3 S
else
if ((x1 >>> ((9 - v4) &&& 31)) &&& 1) = 1 then
it_bi (f_X6_isThere κ v4 S) (fun r4 S3 =>
if r4 = 0 then
some ((-1), S3)
else
if it_bd ((3 * v4) + 2) 30 = true then
it_bi (f_X6_within κ ((S3 49 (((3 * v4) + 2) : Int32).toNatClampNeg) + x2) 0 99 S3) (fun r8 S7 =>
lp_X6_ices_10 κ x1 x2 k10 n10 (v3 + 1) (v4 + 1) (it_up (it_up S7 49 (((3 * v4) + 2) : Int32).toNatClampNeg r8) 45 31 (((it_up S7 49 (((3 * v4) + 2) : Int32).toNatClampNeg r8) 45 31) ||| (1 <<< (v4 &&& 31)))))
else none)
else
lp_X6_ices_10 κ x1 x2 k10 n10 v3 (v4 + 1) S
def f_X6_ices (κ : it_KK) (x1 : Int32) (x2 : Int32) (S : it_SS) : Option (Int32 × it_SS) :=
lp_X6_ices_10 κ x1 x2 (fun v9 S10 =>
some (v9, S10)) it_FU 0 0 (it_up S 45 31 0)
set_option maxHeartbeats 4000000 in
set_option maxRecDepth 100000 in
theorem Llp_X6_ices_10 {g : it_G} {l : Launch} {κ : it_KK} {x1 : Int32} {x2 : Int32} (hm : it_wm κ) {P : Int32 → it_SS → Prop} {k10 : (Int32 → it_SS → Option (Int32 × it_SS))} (hk10 : ∀ (v3 : Int32) (S : it_SS), it_ok (k10 v3 S) P → it_Ev g l 3 it_m_X6_ices 0 0 93 [none, none, none, some (.int v3), none] [] κ S (it_pi κ P)) : ∀ (n : Nat) (v3 : Int32) (v4 : Int32) (S : it_SS), it_ok (lp_X6_ices_10 κ x1 x2 k10 n v3 v4 S) P → it_Ev g l 3 it_m_X6_ices 0 0 10 [some (.ref 45), some (.int x1), some (.int x2), some (.int v3), some (.int v4)] [] κ S (it_pi κ P) := by
  intro n
  induction n with
  | zero =>
    intro _ _ _ h
    exact (it_ok_n h).elim
  | succ n10 ih10 =>
    intro v3 v4 S h
    rw [lp_X6_ices_10] at h
    refine ev_iload d_X6_ices_10 rfl ?_
    refine ev_bipush d_X6_ices_12 kv_bipush_10 ?_
    refine ev_icmp_ge (tgt := 93) d_X6_ices_14 (by decide) (fun hc1 => ?_) (fun hc1 => ?_)
    · have h := it_ok_t h hc1
      refine ev_keep [false, false, false, true, false] ?_
      exact hk10 _ _ h
    · have h := it_ok_f h hc1
      refine ev_iload_n d_X6_ices_17 rfl ?_
      refine ev_bipush d_X6_ices_18 kv_bipush_9 ?_
      refine ev_iload d_X6_ices_20 rfl ?_
      refine ev_isub d_X6_ices_22 ?_
      refine ev_ishr d_X6_ices_23 ?_
      refine ev_iconst d_X6_ices_24 kv_iconst_1 ?_
      refine ev_iand d_X6_ices_25 ?_
      refine ev_iconst d_X6_ices_26 kv_iconst_1 ?_
      refine ev_icmp_ne (tgt := 87) d_X6_ices_27 (by decide) (fun hc2 => ?_) (fun hc2 => ?_)
      · have h := it_ok_f h hc2
        refine ev_iinc d_X6_ices_87 kv_iconst_1 rfl (by decide) ?_
        show it_Ev g l 3 it_m_X6_ices 0 0 90 [some (.ref 45), some (.int x1), some (.int x2), some (.int v3), some (.int (v4 + 1))] [] κ S (it_pi κ P)
        refine ev_goto (tgt := 10) d_X6_ices_90 (by decide) ?_
        refine ev_keep [true, true, true, true, true] ?_
        exact ih10 _ _ _ h
      · have h := it_ok_t h hc2
        refine ev_aload_n d_X6_ices_30 rfl ?_
        refine ev_iload d_X6_ices_31 rfl ?_
        refine ev_callV (ci := 6) (b := 45) (M' := it_m_X6_isThere) (d' := 2) (As := [.int v4]) d_X6_ices_33 ml_IcedTooSoonModel_86 hm.1.1 hm.1.2.1 ⟨_, rfl, rfl⟩ rfl rfl (Nat.le_of_ble_eq_true rfl) (by decide) (by decide) (by decide) (L_X6_isThere hm (it_ok_b h)) (fun _ _ _ _ q => by cases q.1; rfl) ?_
        rintro _ _ S3 ⟨rfl, r4, rfl, h⟩
        show it_Ev g l 3 it_m_X6_ices 0 0 36 [some (.ref 45), some (.int x1), some (.int x2), some (.int v3), some (.int v4)] [.int r4] κ S3 (it_pi κ P)
        refine ev_if_ne (tgt := 41) d_X6_ices_36 (by decide) (fun hc5 => ?_) (fun hc5 => ?_)
        · have h := it_ok_f h hc5
          refine ev_aload_n d_X6_ices_41 rfl ?_
          refine ev_getRr (r := 49) rfl d_X6_ices_42 fl_IcedTooSoonModel_19 hm.1 rfl ?_
          refine ev_iconst d_X6_ices_45 kv_iconst_3 ?_
          refine ev_iload d_X6_ices_46 rfl ?_
          refine ev_imul d_X6_ices_48 ?_
          refine ev_iconst d_X6_ices_49 kv_iconst_2 ?_
          refine ev_iadd d_X6_ices_50 ?_
          refine ev_aload_n d_X6_ices_51 rfl ?_
          refine ev_getRr (r := 49) rfl d_X6_ices_52 fl_IcedTooSoonModel_19 hm.1 rfl ?_
          refine ev_iconst d_X6_ices_55 kv_iconst_3 ?_
          refine ev_iload d_X6_ices_56 rfl ?_
          refine ev_imul d_X6_ices_58 ?_
          refine ev_iconst d_X6_ices_59 kv_iconst_2 ?_
          refine ev_iadd d_X6_ices_60 ?_
          obtain ⟨hb6, h⟩ := it_ok_g h
          refine ev_iald d_X6_ices_61 (hm).2.2.2.2.1 (it_bd_in hb6) ?_
          refine ev_iload_n d_X6_ices_62 rfl ?_
          refine ev_iadd d_X6_ices_63 ?_
          refine ev_iconst d_X6_ices_64 kv_iconst_0 ?_
          refine ev_bipush d_X6_ices_65 kv_bipush_99 ?_
          refine ev_callS (M' := it_m_X6_within) (d' := 1) (As := [.int ((S3 49 (((3 * v4) + 2) : Int32).toNatClampNeg) + x2), .int 0, .int 99]) d_X6_ices_67 ml_IcedTooSoonModel_82 rfl rfl (Nat.le_of_ble_eq_true rfl) (by decide) (by decide) (by decide) (L_X6_within  (it_ok_b h)) (fun _ _ _ _ q => by cases q.1; rfl) ?_
          rintro _ _ S7 ⟨rfl, r8, rfl, h⟩
          show it_Ev g l 3 it_m_X6_ices 0 0 70 [some (.ref 45), some (.int x1), some (.int x2), some (.int v3), some (.int v4)] [.int r8, .int ((3 * v4) + 2), .ref 49] κ S7 (it_pi κ P)
          refine ev_iast d_X6_ices_70 (by decide) (hm).2.2.2.2.1 (it_bd_in hb6) ?_
          refine ev_aload_n d_X6_ices_71 rfl ?_
          refine ev_dup d_X6_ices_72 rfl ?_
          refine ev_getI d_X6_ices_73 fl_IcedTooSoonModel_216 hm.1 rfl ?_
          refine ev_iconst d_X6_ices_76 kv_iconst_1 ?_
          refine ev_iload d_X6_ices_77 rfl ?_
          refine ev_ishl d_X6_ices_79 ?_
          refine ev_ior d_X6_ices_80 ?_
          refine ev_putI d_X6_ices_81 (by decide) fl_IcedTooSoonModel_216 fw_6_31 hm.1 rfl ?_
          refine ev_iinc d_X6_ices_84 kv_iconst_1 rfl (by decide) ?_
          show it_Ev g l 3 it_m_X6_ices 0 0 87 [some (.ref 45), some (.int x1), some (.int x2), some (.int (v3 + 1)), some (.int v4)] [] κ (it_up (it_up S7 49 (((3 * v4) + 2) : Int32).toNatClampNeg r8) 45 31 (((it_up S7 49 (((3 * v4) + 2) : Int32).toNatClampNeg r8) 45 31) ||| (1 <<< (v4 &&& 31)))) (it_pi κ P)
          refine ev_iinc d_X6_ices_87 kv_iconst_1 rfl (by decide) ?_
          show it_Ev g l 3 it_m_X6_ices 0 0 90 [some (.ref 45), some (.int x1), some (.int x2), some (.int (v3 + 1)), some (.int (v4 + 1))] [] κ (it_up (it_up S7 49 (((3 * v4) + 2) : Int32).toNatClampNeg r8) 45 31 (((it_up S7 49 (((3 * v4) + 2) : Int32).toNatClampNeg r8) 45 31) ||| (1 <<< (v4 &&& 31)))) (it_pi κ P)
          refine ev_goto (tgt := 10) d_X6_ices_90 (by decide) ?_
          refine ev_keep [true, true, true, true, true] ?_
          exact ih10 _ _ _ h
        · have h := it_ok_t h hc5
          refine ev_iconst d_X6_ices_39 kv_iconst_m1 ?_
          exact ev_ret (v := some (.int _)) ⟨d_X6_ices_40, _, rfl, rfl⟩ (by decide) (by decide) ⟨rfl, _, rfl, it_ok_r h⟩
set_option maxHeartbeats 4000000 in
set_option maxRecDepth 100000 in
theorem L_X6_ices {g : it_G} {l : Launch} {κ : it_KK} {x1 : Int32} {x2 : Int32} (hm : it_wm κ) {S : it_SS} {P : Int32 → it_SS → Prop} (h : it_ok (f_X6_ices κ x1 x2 S) P) : it_Cn g l 3 it_m_X6_ices [.ref 45, .int x1, .int x2] κ S (it_pi κ P) := by
  refine it_Cn.of (by decide +kernel) (Nat.le_of_ble_eq_true rfl) ?_
  rw [f_X6_ices] at h
  show it_Ev g l 3 it_m_X6_ices 0 0 0 [some (.ref 45), some (.int x1), some (.int x2), none, none] [] κ S (it_pi κ P)
  refine ev_iconst d_X6_ices_0 kv_iconst_0 ?_
  refine ev_istore_n d_X6_ices_1 (by decide) ?_
  show it_Ev g l 3 it_m_X6_ices 0 0 2 [some (.ref 45), some (.int x1), some (.int x2), some (.int 0), none] [] κ S (it_pi κ P)
  refine ev_aload_n d_X6_ices_2 rfl ?_
  refine ev_iconst d_X6_ices_3 kv_iconst_0 ?_
  refine ev_putI d_X6_ices_4 (by decide) fl_IcedTooSoonModel_216 fw_6_31 hm.1 rfl ?_
  refine ev_iconst d_X6_ices_7 kv_iconst_0 ?_
  refine ev_istore d_X6_ices_8 (by decide) ?_
  show it_Ev g l 3 it_m_X6_ices 0 0 10 [some (.ref 45), some (.int x1), some (.int x2), some (.int 0), some (.int 0)] [] κ (it_up S 45 31 0) (it_pi κ P)
  refine ev_keep [true, true, true, true, true] ?_
  refine Llp_X6_ices_10 hm (fun v9 S10 h => ?_) _ _ _ _ h
  show it_Ev g l 3 it_m_X6_ices 0 0 93 [none, none, none, some (.int v9), none] [] κ S10 (it_pi κ P)
  refine ev_iload_n d_X6_ices_93 rfl ?_
  exact ev_ret (v := some (.int _)) ⟨d_X6_ices_94, _, rfl, rfl⟩ (by decide) (by decide) ⟨rfl, _, rfl, it_ok_r h⟩
theorem d_X6_laysIce_0 : decode prog_8_method_57_code 0 = .ok (.iconst 0, 1) := by decide +kernel
theorem d_X6_laysIce_1 : decode prog_8_method_57_code 1 = .ok (.istore_n 1, 1) := by decide +kernel
theorem d_X6_laysIce_2 : decode prog_8_method_57_code 2 = .ok (.iload_n 1, 1) := by decide +kernel
theorem d_X6_laysIce_3 : decode prog_8_method_57_code 3 = .ok (.bipush 10, 2) := by decide +kernel
theorem d_X6_laysIce_5 : decode prog_8_method_57_code 5 = .ok (.if_icmp .ge 25, 3) := by decide +kernel
theorem d_X6_laysIce_8 : decode prog_8_method_57_code 8 = .ok (.aload_n 0, 1) := by decide +kernel
theorem d_X6_laysIce_9 : decode prog_8_method_57_code 9 = .ok (.getfield 19, 3) := by decide +kernel
theorem d_X6_laysIce_12 : decode prog_8_method_57_code 12 = .ok (.iconst 3, 1) := by decide +kernel
theorem d_X6_laysIce_13 : decode prog_8_method_57_code 13 = .ok (.iload_n 1, 1) := by decide +kernel
theorem d_X6_laysIce_14 : decode prog_8_method_57_code 14 = .ok (.imul, 1) := by decide +kernel
theorem d_X6_laysIce_15 : decode prog_8_method_57_code 15 = .ok (.iconst 2, 1) := by decide +kernel
theorem d_X6_laysIce_16 : decode prog_8_method_57_code 16 = .ok (.iadd, 1) := by decide +kernel
theorem d_X6_laysIce_17 : decode prog_8_method_57_code 17 = .ok (.aload_n 0, 1) := by decide +kernel
theorem d_X6_laysIce_18 : decode prog_8_method_57_code 18 = .ok (.getfield 64, 3) := by decide +kernel
theorem d_X6_laysIce_21 : decode prog_8_method_57_code 21 = .ok (.iload_n 1, 1) := by decide +kernel
theorem d_X6_laysIce_22 : decode prog_8_method_57_code 22 = .ok (.iaload, 1) := by decide +kernel
theorem d_X6_laysIce_23 : decode prog_8_method_57_code 23 = .ok (.iastore, 1) := by decide +kernel
theorem d_X6_laysIce_24 : decode prog_8_method_57_code 24 = .ok (.iinc 1 1, 3) := by decide +kernel
theorem d_X6_laysIce_27 : decode prog_8_method_57_code 27 = .ok (.goto (-25), 3) := by decide +kernel
theorem d_X6_laysIce_30 : decode prog_8_method_57_code 30 = .ok (.return_, 1) := by decide +kernel
def lp_X6_laysIce_2 (κ : it_KK)  (k2 : (it_SS → Option (Unit × it_SS))) : Nat → Int32 → it_SS → Option (Unit × it_SS)
  | 0, _, _ => none
  | n2 + 1, v1, S => if 10 ≤ v1 then
k2  S
else
if it_bd v1 10 = true then
if it_bd ((3 * v1) + 2) 30 = true then
lp_X6_laysIce_2 κ  k2 n2 (v1 + 1) (it_up S 49 (((3 * v1) + 2) : Int32).toNatClampNeg (S 64 (v1 : Int32).toNatClampNeg))
else none
else none
def f_X6_laysIce (κ : it_KK)  (S : it_SS) : Option (Unit × it_SS) :=
lp_X6_laysIce_2 κ  (fun  S4 =>
some ((), S4)) it_FU 0 S
set_option maxHeartbeats 4000000 in
set_option maxRecDepth 100000 in
theorem Llp_X6_laysIce_2 {g : it_G} {l : Launch} {κ : it_KK} (hm : it_wm κ) {P : Unit → it_SS → Prop} {k2 : (it_SS → Option (Unit × it_SS))} (hk2 : ∀  (S : it_SS), it_ok (k2  S) P → it_Ev g l 1 it_m_X6_laysIce 0 0 30 [none, none] [] κ S (it_pv κ P)) : ∀ (n : Nat) (v1 : Int32) (S : it_SS), it_ok (lp_X6_laysIce_2 κ  k2 n v1 S) P → it_Ev g l 1 it_m_X6_laysIce 0 0 2 [some (.ref 45), some (.int v1)] [] κ S (it_pv κ P) := by
  intro n
  induction n with
  | zero =>
    intro _ _ h
    exact (it_ok_n h).elim
  | succ n2 ih2 =>
    intro v1 S h
    rw [lp_X6_laysIce_2] at h
    refine ev_iload_n d_X6_laysIce_2 rfl ?_
    refine ev_bipush d_X6_laysIce_3 kv_bipush_10 ?_
    refine ev_icmp_ge (tgt := 30) d_X6_laysIce_5 (by decide) (fun hc1 => ?_) (fun hc1 => ?_)
    · have h := it_ok_t h hc1
      refine ev_keep [false, false] ?_
      exact hk2  _ h
    · have h := it_ok_f h hc1
      refine ev_aload_n d_X6_laysIce_8 rfl ?_
      refine ev_getRr (r := 49) rfl d_X6_laysIce_9 fl_IcedTooSoonModel_19 hm.1 rfl ?_
      refine ev_iconst d_X6_laysIce_12 kv_iconst_3 ?_
      refine ev_iload_n d_X6_laysIce_13 rfl ?_
      refine ev_imul d_X6_laysIce_14 ?_
      refine ev_iconst d_X6_laysIce_15 kv_iconst_2 ?_
      refine ev_iadd d_X6_laysIce_16 ?_
      refine ev_aload_n d_X6_laysIce_17 rfl ?_
      refine ev_getRr (r := 64) rfl d_X6_laysIce_18 fl_IcedTooSoonModel_64 hm.1 rfl ?_
      refine ev_iload_n d_X6_laysIce_21 rfl ?_
      obtain ⟨hb2, h⟩ := it_ok_g h
      refine ev_iald d_X6_laysIce_22 (hm).2.2.2.2.2.2.2.2.2.2.2.2.2.2.2.2.2.2.2 (it_bd_in hb2) ?_
      obtain ⟨hb3, h⟩ := it_ok_g h
      refine ev_iast d_X6_laysIce_23 (by decide) (hm).2.2.2.2.1 (it_bd_in hb3) ?_
      refine ev_iinc d_X6_laysIce_24 kv_iconst_1 rfl (by decide) ?_
      show it_Ev g l 1 it_m_X6_laysIce 0 0 27 [some (.ref 45), some (.int (v1 + 1))] [] κ (it_up S 49 (((3 * v1) + 2) : Int32).toNatClampNeg (S 64 (v1 : Int32).toNatClampNeg)) (it_pv κ P)
      refine ev_goto (tgt := 2) d_X6_laysIce_27 (by decide) ?_
      refine ev_keep [true, true] ?_
      exact ih2 _ _ h
set_option maxHeartbeats 4000000 in
set_option maxRecDepth 100000 in
theorem L_X6_laysIce {g : it_G} {l : Launch} {κ : it_KK} (hm : it_wm κ) {S : it_SS} {P : Unit → it_SS → Prop} (h : it_ok (f_X6_laysIce κ  S) P) : it_Cn g l 1 it_m_X6_laysIce [.ref 45] κ S (it_pv κ P) := by
  refine it_Cn.of (by decide +kernel) (Nat.le_of_ble_eq_true rfl) ?_
  rw [f_X6_laysIce] at h
  show it_Ev g l 1 it_m_X6_laysIce 0 0 0 [some (.ref 45), none] [] κ S (it_pv κ P)
  refine ev_iconst d_X6_laysIce_0 kv_iconst_0 ?_
  refine ev_istore_n d_X6_laysIce_1 (by decide) ?_
  show it_Ev g l 1 it_m_X6_laysIce 0 0 2 [some (.ref 45), some (.int 0)] [] κ S (it_pv κ P)
  refine ev_keep [true, true] ?_
  refine Llp_X6_laysIce_2 hm (fun  S4 h => ?_) _ _ _ h
  show it_Ev g l 1 it_m_X6_laysIce 0 0 30 [none, none] [] κ S4 (it_pv κ P)
  exact ev_ret (v := none) ⟨d_X6_laysIce_30, rfl⟩ (by decide) (by decide) ⟨rfl, rfl, it_ok_r h⟩
theorem d_X6_round_0 : decode prog_8_method_58_code 0 = .ok (.iload_n 1, 1) := by decide +kernel
theorem d_X6_round_1 : decode prog_8_method_58_code 1 = .ok (.iconst 1, 1) := by decide +kernel
theorem d_X6_round_2 : decode prog_8_method_58_code 2 = .ok (.bipush 99, 2) := by decide +kernel
theorem d_X6_round_4 : decode prog_8_method_58_code 4 = .ok (.invokestatic 78, 3) := by decide +kernel
theorem d_X6_round_7 : decode prog_8_method_58_code 7 = .ok (.ifCond .eq 22, 3) := by decide +kernel
theorem d_X6_round_10 : decode prog_8_method_58_code 10 = .ok (.iload_n 2, 1) := by decide +kernel
theorem d_X6_round_11 : decode prog_8_method_58_code 11 = .ok (.iconst 1, 1) := by decide +kernel
theorem d_X6_round_12 : decode prog_8_method_58_code 12 = .ok (.bipush 10, 2) := by decide +kernel
theorem d_X6_round_14 : decode prog_8_method_58_code 14 = .ok (.invokestatic 78, 3) := by decide +kernel
theorem d_X6_round_17 : decode prog_8_method_58_code 17 = .ok (.ifCond .eq 12, 3) := by decide +kernel
theorem d_X6_round_20 : decode prog_8_method_58_code 20 = .ok (.iload_n 3, 1) := by decide +kernel
theorem d_X6_round_21 : decode prog_8_method_58_code 21 = .ok (.iconst 0, 1) := by decide +kernel
theorem d_X6_round_22 : decode prog_8_method_58_code 22 = .ok (.iconst 1, 1) := by decide +kernel
theorem d_X6_round_23 : decode prog_8_method_58_code 23 = .ok (.invokestatic 78, 3) := by decide +kernel
theorem d_X6_round_26 : decode prog_8_method_58_code 26 = .ok (.ifCond .ne 7, 3) := by decide +kernel
theorem d_X6_round_29 : decode prog_8_method_58_code 29 = .ok (.sipush (-1000), 3) := by decide +kernel
theorem d_X6_round_32 : decode prog_8_method_58_code 32 = .ok (.ireturn, 1) := by decide +kernel
theorem d_X6_round_33 : decode prog_8_method_58_code 33 = .ok (.iconst 0, 1) := by decide +kernel
theorem d_X6_round_34 : decode prog_8_method_58_code 34 = .ok (.istore 4, 2) := by decide +kernel
theorem d_X6_round_36 : decode prog_8_method_58_code 36 = .ok (.iload 4, 2) := by decide +kernel
theorem d_X6_round_38 : decode prog_8_method_58_code 38 = .ok (.bipush 10, 2) := by decide +kernel
theorem d_X6_round_40 : decode prog_8_method_58_code 40 = .ok (.if_icmp .ge 27, 3) := by decide +kernel
theorem d_X6_round_43 : decode prog_8_method_58_code 43 = .ok (.aload_n 0, 1) := by decide +kernel
theorem d_X6_round_44 : decode prog_8_method_58_code 44 = .ok (.getfield 64, 3) := by decide +kernel
theorem d_X6_round_47 : decode prog_8_method_58_code 47 = .ok (.iload 4, 2) := by decide +kernel
theorem d_X6_round_49 : decode prog_8_method_58_code 49 = .ok (.aload_n 0, 1) := by decide +kernel
theorem d_X6_round_50 : decode prog_8_method_58_code 50 = .ok (.getfield 19, 3) := by decide +kernel
theorem d_X6_round_53 : decode prog_8_method_58_code 53 = .ok (.iconst 3, 1) := by decide +kernel
theorem d_X6_round_54 : decode prog_8_method_58_code 54 = .ok (.iload 4, 2) := by decide +kernel
theorem d_X6_round_56 : decode prog_8_method_58_code 56 = .ok (.imul, 1) := by decide +kernel
theorem d_X6_round_57 : decode prog_8_method_58_code 57 = .ok (.iconst 2, 1) := by decide +kernel
theorem d_X6_round_58 : decode prog_8_method_58_code 58 = .ok (.iadd, 1) := by decide +kernel
theorem d_X6_round_59 : decode prog_8_method_58_code 59 = .ok (.iaload, 1) := by decide +kernel
theorem d_X6_round_60 : decode prog_8_method_58_code 60 = .ok (.iastore, 1) := by decide +kernel
theorem d_X6_round_61 : decode prog_8_method_58_code 61 = .ok (.iinc 4 1, 3) := by decide +kernel
theorem d_X6_round_64 : decode prog_8_method_58_code 64 = .ok (.goto (-28), 3) := by decide +kernel
theorem d_X6_round_67 : decode prog_8_method_58_code 67 = .ok (.iconst 0, 1) := by decide +kernel
theorem d_X6_round_68 : decode prog_8_method_58_code 68 = .ok (.istore 4, 2) := by decide +kernel
theorem d_X6_round_70 : decode prog_8_method_58_code 70 = .ok (.iconst 0, 1) := by decide +kernel
theorem d_X6_round_71 : decode prog_8_method_58_code 71 = .ok (.istore 5, 2) := by decide +kernel
theorem d_X6_round_73 : decode prog_8_method_58_code 73 = .ok (.aload_n 0, 1) := by decide +kernel
theorem d_X6_round_74 : decode prog_8_method_58_code 74 = .ok (.iload_n 2, 1) := by decide +kernel
theorem d_X6_round_75 : decode prog_8_method_58_code 75 = .ok (.invokevirtual 213, 3) := by decide +kernel
theorem d_X6_round_78 : decode prog_8_method_58_code 78 = .ok (.istore 6, 2) := by decide +kernel
theorem d_X6_round_80 : decode prog_8_method_58_code 80 = .ok (.iconst 1, 1) := by decide +kernel
theorem d_X6_round_81 : decode prog_8_method_58_code 81 = .ok (.istore 7, 2) := by decide +kernel
theorem d_X6_round_83 : decode prog_8_method_58_code 83 = .ok (.iload 7, 2) := by decide +kernel
theorem d_X6_round_85 : decode prog_8_method_58_code 85 = .ok (.sipush 1024, 3) := by decide +kernel
theorem d_X6_round_88 : decode prog_8_method_58_code 88 = .ok (.if_icmp .ge 107, 3) := by decide +kernel
theorem d_X6_round_91 : decode prog_8_method_58_code 91 = .ok (.aload_n 0, 1) := by decide +kernel
theorem d_X6_round_92 : decode prog_8_method_58_code 92 = .ok (.iload 7, 2) := by decide +kernel
theorem d_X6_round_94 : decode prog_8_method_58_code 94 = .ok (.iload_n 1, 1) := by decide +kernel
theorem d_X6_round_95 : decode prog_8_method_58_code 95 = .ok (.invokevirtual 219, 3) := by decide +kernel
theorem d_X6_round_98 : decode prog_8_method_58_code 98 = .ok (.istore 8, 2) := by decide +kernel
theorem d_X6_round_100 : decode prog_8_method_58_code 100 = .ok (.iload 8, 2) := by decide +kernel
theorem d_X6_round_102 : decode prog_8_method_58_code 102 = .ok (.iconst (-1), 1) := by decide +kernel
theorem d_X6_round_103 : decode prog_8_method_58_code 103 = .ok (.if_icmp .eq 82, 3) := by decide +kernel
theorem d_X6_round_106 : decode prog_8_method_58_code 106 = .ok (.aload_n 0, 1) := by decide +kernel
theorem d_X6_round_107 : decode prog_8_method_58_code 107 = .ok (.iload_n 2, 1) := by decide +kernel
theorem d_X6_round_108 : decode prog_8_method_58_code 108 = .ok (.invokevirtual 213, 3) := by decide +kernel
theorem d_X6_round_111 : decode prog_8_method_58_code 111 = .ok (.istore 9, 2) := by decide +kernel
theorem d_X6_round_113 : decode prog_8_method_58_code 113 = .ok (.iload 9, 2) := by decide +kernel
theorem d_X6_round_115 : decode prog_8_method_58_code 115 = .ok (.iload 6, 2) := by decide +kernel
theorem d_X6_round_117 : decode prog_8_method_58_code 117 = .ok (.if_icmp .gt 17, 3) := by decide +kernel
theorem d_X6_round_120 : decode prog_8_method_58_code 120 = .ok (.iload 9, 2) := by decide +kernel
theorem d_X6_round_122 : decode prog_8_method_58_code 122 = .ok (.iload 6, 2) := by decide +kernel
theorem d_X6_round_124 : decode prog_8_method_58_code 124 = .ok (.if_icmp .ne 14, 3) := by decide +kernel
theorem d_X6_round_127 : decode prog_8_method_58_code 127 = .ok (.iload 8, 2) := by decide +kernel
theorem d_X6_round_129 : decode prog_8_method_58_code 129 = .ok (.iload 5, 2) := by decide +kernel
theorem d_X6_round_131 : decode prog_8_method_58_code 131 = .ok (.if_icmp .ge 7, 3) := by decide +kernel
theorem d_X6_round_134 : decode prog_8_method_58_code 134 = .ok (.iconst 1, 1) := by decide +kernel
theorem d_X6_round_135 : decode prog_8_method_58_code 135 = .ok (.goto 4, 3) := by decide +kernel
theorem d_X6_round_138 : decode prog_8_method_58_code 138 = .ok (.iconst 0, 1) := by decide +kernel
theorem d_X6_round_139 : decode prog_8_method_58_code 139 = .ok (.istore 10, 2) := by decide +kernel
theorem d_X6_round_141 : decode prog_8_method_58_code 141 = .ok (.iload 10, 2) := by decide +kernel
theorem d_X6_round_143 : decode prog_8_method_58_code 143 = .ok (.ifCond .eq 10, 3) := by decide +kernel
theorem d_X6_round_146 : decode prog_8_method_58_code 146 = .ok (.aload_n 0, 1) := by decide +kernel
theorem d_X6_round_147 : decode prog_8_method_58_code 147 = .ok (.getfield 216, 3) := by decide +kernel
theorem d_X6_round_150 : decode prog_8_method_58_code 150 = .ok (.goto 5, 3) := by decide +kernel
theorem d_X6_round_153 : decode prog_8_method_58_code 153 = .ok (.iload 4, 2) := by decide +kernel
theorem d_X6_round_155 : decode prog_8_method_58_code 155 = .ok (.istore 4, 2) := by decide +kernel
theorem d_X6_round_157 : decode prog_8_method_58_code 157 = .ok (.iload 10, 2) := by decide +kernel
theorem d_X6_round_159 : decode prog_8_method_58_code 159 = .ok (.ifCond .eq 8, 3) := by decide +kernel
theorem d_X6_round_162 : decode prog_8_method_58_code 162 = .ok (.iload 8, 2) := by decide +kernel
theorem d_X6_round_164 : decode prog_8_method_58_code 164 = .ok (.goto 5, 3) := by decide +kernel
theorem d_X6_round_167 : decode prog_8_method_58_code 167 = .ok (.iload 5, 2) := by decide +kernel
theorem d_X6_round_169 : decode prog_8_method_58_code 169 = .ok (.istore 5, 2) := by decide +kernel
theorem d_X6_round_171 : decode prog_8_method_58_code 171 = .ok (.iload 10, 2) := by decide +kernel
theorem d_X6_round_173 : decode prog_8_method_58_code 173 = .ok (.ifCond .eq 8, 3) := by decide +kernel
theorem d_X6_round_176 : decode prog_8_method_58_code 176 = .ok (.iload 9, 2) := by decide +kernel
theorem d_X6_round_178 : decode prog_8_method_58_code 178 = .ok (.goto 5, 3) := by decide +kernel
theorem d_X6_round_181 : decode prog_8_method_58_code 181 = .ok (.iload 6, 2) := by decide +kernel
theorem d_X6_round_183 : decode prog_8_method_58_code 183 = .ok (.istore 6, 2) := by decide +kernel
theorem d_X6_round_185 : decode prog_8_method_58_code 185 = .ok (.aload_n 0, 1) := by decide +kernel
theorem d_X6_round_186 : decode prog_8_method_58_code 186 = .ok (.invokevirtual 222, 3) := by decide +kernel
theorem d_X6_round_189 : decode prog_8_method_58_code 189 = .ok (.iinc 7 1, 3) := by decide +kernel
theorem d_X6_round_192 : decode prog_8_method_58_code 192 = .ok (.goto (-109), 3) := by decide +kernel
theorem d_X6_round_195 : decode prog_8_method_58_code 195 = .ok (.iload_n 3, 1) := by decide +kernel
theorem d_X6_round_196 : decode prog_8_method_58_code 196 = .ok (.ifCond .ne 8, 3) := by decide +kernel
theorem d_X6_round_199 : decode prog_8_method_58_code 199 = .ok (.iload 4, 2) := by decide +kernel
theorem d_X6_round_201 : decode prog_8_method_58_code 201 = .ok (.goto 5, 3) := by decide +kernel
theorem d_X6_round_204 : decode prog_8_method_58_code 204 = .ok (.iload 6, 2) := by decide +kernel
theorem d_X6_round_206 : decode prog_8_method_58_code 206 = .ok (.ireturn, 1) := by decide +kernel
def lp_X6_round_36 (κ : it_KK) (x1 : Int32) (x2 : Int32) (x3 : Int32) (k36 : (it_SS → Option (Int32 × it_SS))) : Nat → Int32 → it_SS → Option (Int32 × it_SS)
  | 0, _, _ => none
  | n36 + 1, v4, S => if 10 ≤ v4 then
k36  S
else
if it_bd ((3 * v4) + 2) 30 = true then
if it_bd v4 10 = true then
lp_X6_round_36 κ x1 x2 x3 k36 n36 (v4 + 1) (it_up S 64 (v4 : Int32).toNatClampNeg (S 49 (((3 * v4) + 2) : Int32).toNatClampNeg))
else none
else none
def lp_X6_round_83 (κ : it_KK) (x1 : Int32) (x2 : Int32) (x3 : Int32) (k83 : (Int32 → Int32 → it_SS → Option (Int32 × it_SS))) : Nat → Int32 → Int32 → Int32 → Int32 → it_SS → Option (Int32 × it_SS)
  | 0, _, _, _, _, _ => none
  | n83 + 1, v4, v5, v6, v7, S => if 1024 ≤ v7 then
k83 v4 v6 S
else
it_bi (f_X6_ices κ v7 x1 S) (fun r18 S17 =>
if r18 = (-1) then
it_bi (f_X6_laysIce κ  S17) (fun _ S20 =>
lp_X6_round_83 κ x1 x2 x3 k83 n83 v4 v5 v6 (v7 + 1) S20)
else
it_bi (f_X6_moodBehind κ x2 S17) (fun r23 S22 =>
if v6 < r23 then
it_bi (f_X6_laysIce κ  S22) (fun _ S25 =>
lp_X6_round_83 κ x1 x2 x3 k83 n83 (S22 45 31) r18 r23 (v7 + 1) S25)
else
if r23 = v6 then
if v5 ≤ r18 then
it_bi (f_X6_laysIce κ  S22) (fun _ S31 =>
lp_X6_round_83 κ x1 x2 x3 k83 n83 v4 v5 v6 (v7 + 1) S31)
else
it_bi (f_X6_laysIce κ  S22) (fun _ S33 =>
lp_X6_round_83 κ x1 x2 x3 k83 n83 (S22 45 31) r18 r23 (v7 + 1) S33)
else
it_bi (f_X6_laysIce κ  S22) (fun _ S28 =>
lp_X6_round_83 κ x1 x2 x3 k83 n83 v4 v5 v6 (v7 + 1) S28)))
def f_X6_round (κ : it_KK) (x1 : Int32) (x2 : Int32) (x3 : Int32) (S : it_SS) : Option (Int32 × it_SS) :=
it_bi (f_X6_in κ x1 1 99 S) (fun r2 S1 =>
if r2 = 0 then
some ((-1000), S1)
else
it_bi (f_X6_in κ x2 1 10 S1) (fun r5 S4 =>
if r5 = 0 then
some ((-1000), S4)
else
it_bi (f_X6_in κ x3 0 1 S4) (fun r8 S7 =>
if r8 = 0 then
some ((-1000), S7)
else
lp_X6_round_36 κ x1 x2 x3 (fun  S13 =>
it_bi (f_X6_moodBehind κ x2 S13) (fun r15 S14 =>
lp_X6_round_83 κ x1 x2 x3 (fun v35 v36 S37 =>
if x3 = 0 then
some (v35, S37)
else
some (v36, S37)) it_FU 0 0 r15 1 S14)) it_FU 0 S7)))
set_option maxHeartbeats 4000000 in
set_option maxRecDepth 100000 in
theorem Llp_X6_round_36 {g : it_G} {l : Launch} {κ : it_KK} {x1 : Int32} {x2 : Int32} {x3 : Int32} (hm : it_wm κ) {P : Int32 → it_SS → Prop} {k36 : (it_SS → Option (Int32 × it_SS))} (hk36 : ∀  (S : it_SS), it_ok (k36  S) P → it_Ev g l 8 it_m_X6_round 0 0 67 [some (.ref 45), some (.int x1), some (.int x2), some (.int x3), none, none, none, none, none, none, none] [] κ S (it_pi κ P)) : ∀ (n : Nat) (v4 : Int32) (S : it_SS), it_ok (lp_X6_round_36 κ x1 x2 x3 k36 n v4 S) P → it_Ev g l 8 it_m_X6_round 0 0 36 [some (.ref 45), some (.int x1), some (.int x2), some (.int x3), some (.int v4), none, none, none, none, none, none] [] κ S (it_pi κ P) := by
  intro n
  induction n with
  | zero =>
    intro _ _ h
    exact (it_ok_n h).elim
  | succ n36 ih36 =>
    intro v4 S h
    rw [lp_X6_round_36] at h
    refine ev_iload d_X6_round_36 rfl ?_
    refine ev_bipush d_X6_round_38 kv_bipush_10 ?_
    refine ev_icmp_ge (tgt := 67) d_X6_round_40 (by decide) (fun hc10 => ?_) (fun hc10 => ?_)
    · have h := it_ok_t h hc10
      refine ev_keep [true, true, true, true, false, false, false, false, false, false, false] ?_
      exact hk36  _ h
    · have h := it_ok_f h hc10
      refine ev_aload_n d_X6_round_43 rfl ?_
      refine ev_getRr (r := 64) rfl d_X6_round_44 fl_IcedTooSoonModel_64 hm.1 rfl ?_
      refine ev_iload d_X6_round_47 rfl ?_
      refine ev_aload_n d_X6_round_49 rfl ?_
      refine ev_getRr (r := 49) rfl d_X6_round_50 fl_IcedTooSoonModel_19 hm.1 rfl ?_
      refine ev_iconst d_X6_round_53 kv_iconst_3 ?_
      refine ev_iload d_X6_round_54 rfl ?_
      refine ev_imul d_X6_round_56 ?_
      refine ev_iconst d_X6_round_57 kv_iconst_2 ?_
      refine ev_iadd d_X6_round_58 ?_
      obtain ⟨hb11, h⟩ := it_ok_g h
      refine ev_iald d_X6_round_59 (hm).2.2.2.2.1 (it_bd_in hb11) ?_
      obtain ⟨hb12, h⟩ := it_ok_g h
      refine ev_iast d_X6_round_60 (by decide) (hm).2.2.2.2.2.2.2.2.2.2.2.2.2.2.2.2.2.2.2 (it_bd_in hb12) ?_
      refine ev_iinc d_X6_round_61 kv_iconst_1 rfl (by decide) ?_
      show it_Ev g l 8 it_m_X6_round 0 0 64 [some (.ref 45), some (.int x1), some (.int x2), some (.int x3), some (.int (v4 + 1)), none, none, none, none, none, none] [] κ (it_up S 64 (v4 : Int32).toNatClampNeg (S 49 (((3 * v4) + 2) : Int32).toNatClampNeg)) (it_pi κ P)
      refine ev_goto (tgt := 36) d_X6_round_64 (by decide) ?_
      refine ev_keep [true, true, true, true, true, false, false, false, false, false, false] ?_
      exact ih36 _ _ h
set_option maxHeartbeats 4000000 in
set_option maxRecDepth 100000 in
theorem Llp_X6_round_83 {g : it_G} {l : Launch} {κ : it_KK} {x1 : Int32} {x2 : Int32} {x3 : Int32} (hm : it_wm κ) {P : Int32 → it_SS → Prop} {k83 : (Int32 → Int32 → it_SS → Option (Int32 × it_SS))} (hk83 : ∀ (v4 : Int32) (v6 : Int32) (S : it_SS), it_ok (k83 v4 v6 S) P → it_Ev g l 8 it_m_X6_round 0 0 195 [none, none, none, some (.int x3), some (.int v4), none, some (.int v6), none, none, none, none] [] κ S (it_pi κ P)) : ∀ (n : Nat) (v4 : Int32) (v5 : Int32) (v6 : Int32) (v7 : Int32) (S : it_SS), it_ok (lp_X6_round_83 κ x1 x2 x3 k83 n v4 v5 v6 v7 S) P → it_Ev g l 8 it_m_X6_round 0 0 83 [some (.ref 45), some (.int x1), some (.int x2), some (.int x3), some (.int v4), some (.int v5), some (.int v6), some (.int v7), none, none, none] [] κ S (it_pi κ P) := by
  intro n
  induction n with
  | zero =>
    intro _ _ _ _ _ h
    exact (it_ok_n h).elim
  | succ n83 ih83 =>
    intro v4 v5 v6 v7 S h
    rw [lp_X6_round_83] at h
    refine ev_iload d_X6_round_83 rfl ?_
    refine ev_sipush d_X6_round_85 kv_sipush_1024 ?_
    refine ev_icmp_ge (tgt := 195) d_X6_round_88 (by decide) (fun hc16 => ?_) (fun hc16 => ?_)
    · have h := it_ok_t h hc16
      refine ev_keep [false, false, false, true, true, false, true, false, false, false, false] ?_
      exact hk83 _ _ _ h
    · have h := it_ok_f h hc16
      refine ev_aload_n d_X6_round_91 rfl ?_
      refine ev_iload d_X6_round_92 rfl ?_
      refine ev_iload_n d_X6_round_94 rfl ?_
      refine ev_callV (ci := 6) (b := 45) (M' := it_m_X6_ices) (d' := 3) (As := [.int v7, .int x1]) d_X6_round_95 ml_IcedTooSoonModel_219 hm.1.1 hm.1.2.1 ⟨_, rfl, rfl⟩ rfl rfl (Nat.le_of_ble_eq_true rfl) (by decide) (by decide) (by decide) (L_X6_ices hm (it_ok_b h)) (fun _ _ _ _ q => by cases q.1; rfl) ?_
      rintro _ _ S17 ⟨rfl, r18, rfl, h⟩
      show it_Ev g l 8 it_m_X6_round 0 0 98 [some (.ref 45), some (.int x1), some (.int x2), some (.int x3), some (.int v4), some (.int v5), some (.int v6), some (.int v7), none, none, none] [.int r18] κ S17 (it_pi κ P)
      refine ev_istore d_X6_round_98 (by decide) ?_
      show it_Ev g l 8 it_m_X6_round 0 0 100 [some (.ref 45), some (.int x1), some (.int x2), some (.int x3), some (.int v4), some (.int v5), some (.int v6), some (.int v7), some (.int r18), none, none] [] κ S17 (it_pi κ P)
      refine ev_iload d_X6_round_100 rfl ?_
      refine ev_iconst d_X6_round_102 kv_iconst_m1 ?_
      refine ev_icmp_eq (tgt := 185) d_X6_round_103 (by decide) (fun hc19 => ?_) (fun hc19 => ?_)
      · have h := it_ok_t h hc19
        refine ev_aload_n d_X6_round_185 rfl ?_
        refine ev_callV (ci := 6) (b := 45) (M' := it_m_X6_laysIce) (d' := 1) (As := []) d_X6_round_186 ml_IcedTooSoonModel_222 hm.1.1 hm.1.2.1 ⟨_, rfl, rfl⟩ rfl rfl (Nat.le_of_ble_eq_true rfl) (by decide) (by decide) (by decide) (L_X6_laysIce hm (it_ok_b h)) (fun _ _ _ _ q => by cases q.1; rfl) ?_
        rintro _ _ S20 ⟨rfl, rfl, h⟩
        show it_Ev g l 8 it_m_X6_round 0 0 189 [some (.ref 45), some (.int x1), some (.int x2), some (.int x3), some (.int v4), some (.int v5), some (.int v6), some (.int v7), some (.int r18), none, none] [] κ S20 (it_pi κ P)
        refine ev_iinc d_X6_round_189 kv_iconst_1 rfl (by decide) ?_
        show it_Ev g l 8 it_m_X6_round 0 0 192 [some (.ref 45), some (.int x1), some (.int x2), some (.int x3), some (.int v4), some (.int v5), some (.int v6), some (.int (v7 + 1)), some (.int r18), none, none] [] κ S20 (it_pi κ P)
        refine ev_goto (tgt := 83) d_X6_round_192 (by decide) ?_
        refine ev_keep [true, true, true, true, true, true, true, true, false, false, false] ?_
        exact ih83 _ _ _ _ _ h
      · have h := it_ok_f h hc19
        refine ev_aload_n d_X6_round_106 rfl ?_
        refine ev_iload_n d_X6_round_107 rfl ?_
        refine ev_callV (ci := 6) (b := 45) (M' := it_m_X6_moodBehind) (d' := 7) (As := [.int x2]) d_X6_round_108 ml_IcedTooSoonModel_213 hm.1.1 hm.1.2.1 ⟨_, rfl, rfl⟩ rfl rfl (Nat.le_of_ble_eq_true rfl) (by decide) (by decide) (by decide) (L_X6_moodBehind hm (it_ok_b h)) (fun _ _ _ _ q => by cases q.1; rfl) ?_
        rintro _ _ S22 ⟨rfl, r23, rfl, h⟩
        show it_Ev g l 8 it_m_X6_round 0 0 111 [some (.ref 45), some (.int x1), some (.int x2), some (.int x3), some (.int v4), some (.int v5), some (.int v6), some (.int v7), some (.int r18), none, none] [.int r23] κ S22 (it_pi κ P)
        refine ev_istore d_X6_round_111 (by decide) ?_
        show it_Ev g l 8 it_m_X6_round 0 0 113 [some (.ref 45), some (.int x1), some (.int x2), some (.int x3), some (.int v4), some (.int v5), some (.int v6), some (.int v7), some (.int r18), some (.int r23), none] [] κ S22 (it_pi κ P)
        refine ev_iload d_X6_round_113 rfl ?_
        refine ev_iload d_X6_round_115 rfl ?_
        refine ev_icmp_gt (tgt := 134) d_X6_round_117 (by decide) (fun hc24 => ?_) (fun hc24 => ?_)
        · have h := it_ok_t h hc24
          refine ev_iconst d_X6_round_134 kv_iconst_1 ?_
          refine ev_goto (tgt := 139) d_X6_round_135 (by decide) ?_
          refine ev_istore d_X6_round_139 (by decide) ?_
          show it_Ev g l 8 it_m_X6_round 0 0 141 [some (.ref 45), some (.int x1), some (.int x2), some (.int x3), some (.int v4), some (.int v5), some (.int v6), some (.int v7), some (.int r18), some (.int r23), some (.int 1)] [] κ S22 (it_pi κ P)
          refine ev_iload d_X6_round_141 rfl ?_
          refine ev_if_eq (tgt := 153) d_X6_round_143 (by decide) (fun hc => absurd hc (by decide)) (fun _ => ?_)
          refine ev_aload_n d_X6_round_146 rfl ?_
          refine ev_getI d_X6_round_147 fl_IcedTooSoonModel_216 hm.1 rfl ?_
          refine ev_goto (tgt := 155) d_X6_round_150 (by decide) ?_
          refine ev_istore d_X6_round_155 (by decide) ?_
          show it_Ev g l 8 it_m_X6_round 0 0 157 [some (.ref 45), some (.int x1), some (.int x2), some (.int x3), some (.int (S22 45 31)), some (.int v5), some (.int v6), some (.int v7), some (.int r18), some (.int r23), some (.int 1)] [] κ S22 (it_pi κ P)
          refine ev_iload d_X6_round_157 rfl ?_
          refine ev_if_eq (tgt := 167) d_X6_round_159 (by decide) (fun hc => absurd hc (by decide)) (fun _ => ?_)
          refine ev_iload d_X6_round_162 rfl ?_
          refine ev_goto (tgt := 169) d_X6_round_164 (by decide) ?_
          refine ev_istore d_X6_round_169 (by decide) ?_
          show it_Ev g l 8 it_m_X6_round 0 0 171 [some (.ref 45), some (.int x1), some (.int x2), some (.int x3), some (.int (S22 45 31)), some (.int r18), some (.int v6), some (.int v7), some (.int r18), some (.int r23), some (.int 1)] [] κ S22 (it_pi κ P)
          refine ev_iload d_X6_round_171 rfl ?_
          refine ev_if_eq (tgt := 181) d_X6_round_173 (by decide) (fun hc => absurd hc (by decide)) (fun _ => ?_)
          refine ev_iload d_X6_round_176 rfl ?_
          refine ev_goto (tgt := 183) d_X6_round_178 (by decide) ?_
          refine ev_istore d_X6_round_183 (by decide) ?_
          show it_Ev g l 8 it_m_X6_round 0 0 185 [some (.ref 45), some (.int x1), some (.int x2), some (.int x3), some (.int (S22 45 31)), some (.int r18), some (.int r23), some (.int v7), some (.int r18), some (.int r23), some (.int 1)] [] κ S22 (it_pi κ P)
          refine ev_aload_n d_X6_round_185 rfl ?_
          refine ev_callV (ci := 6) (b := 45) (M' := it_m_X6_laysIce) (d' := 1) (As := []) d_X6_round_186 ml_IcedTooSoonModel_222 hm.1.1 hm.1.2.1 ⟨_, rfl, rfl⟩ rfl rfl (Nat.le_of_ble_eq_true rfl) (by decide) (by decide) (by decide) (L_X6_laysIce hm (it_ok_b h)) (fun _ _ _ _ q => by cases q.1; rfl) ?_
          rintro _ _ S25 ⟨rfl, rfl, h⟩
          show it_Ev g l 8 it_m_X6_round 0 0 189 [some (.ref 45), some (.int x1), some (.int x2), some (.int x3), some (.int (S22 45 31)), some (.int r18), some (.int r23), some (.int v7), some (.int r18), some (.int r23), some (.int 1)] [] κ S25 (it_pi κ P)
          refine ev_iinc d_X6_round_189 kv_iconst_1 rfl (by decide) ?_
          show it_Ev g l 8 it_m_X6_round 0 0 192 [some (.ref 45), some (.int x1), some (.int x2), some (.int x3), some (.int (S22 45 31)), some (.int r18), some (.int r23), some (.int (v7 + 1)), some (.int r18), some (.int r23), some (.int 1)] [] κ S25 (it_pi κ P)
          refine ev_goto (tgt := 83) d_X6_round_192 (by decide) ?_
          refine ev_keep [true, true, true, true, true, true, true, true, false, false, false] ?_
          exact ih83 _ _ _ _ _ h
        · have h := it_ok_f h hc24
          refine ev_iload d_X6_round_120 rfl ?_
          refine ev_iload d_X6_round_122 rfl ?_
          refine ev_icmp_ne (tgt := 138) d_X6_round_124 (by decide) (fun hc27 => ?_) (fun hc27 => ?_)
          · have h := it_ok_f h hc27
            refine ev_iconst d_X6_round_138 kv_iconst_0 ?_
            refine ev_istore d_X6_round_139 (by decide) ?_
            show it_Ev g l 8 it_m_X6_round 0 0 141 [some (.ref 45), some (.int x1), some (.int x2), some (.int x3), some (.int v4), some (.int v5), some (.int v6), some (.int v7), some (.int r18), some (.int r23), some (.int 0)] [] κ S22 (it_pi κ P)
            refine ev_iload d_X6_round_141 rfl ?_
            refine ev_if_eq (tgt := 153) d_X6_round_143 (by decide) (fun _ => ?_) (fun hc => absurd (by decide) hc)
            refine ev_iload d_X6_round_153 rfl ?_
            refine ev_istore d_X6_round_155 (by decide) ?_
            show it_Ev g l 8 it_m_X6_round 0 0 157 [some (.ref 45), some (.int x1), some (.int x2), some (.int x3), some (.int v4), some (.int v5), some (.int v6), some (.int v7), some (.int r18), some (.int r23), some (.int 0)] [] κ S22 (it_pi κ P)
            refine ev_iload d_X6_round_157 rfl ?_
            refine ev_if_eq (tgt := 167) d_X6_round_159 (by decide) (fun _ => ?_) (fun hc => absurd (by decide) hc)
            refine ev_iload d_X6_round_167 rfl ?_
            refine ev_istore d_X6_round_169 (by decide) ?_
            show it_Ev g l 8 it_m_X6_round 0 0 171 [some (.ref 45), some (.int x1), some (.int x2), some (.int x3), some (.int v4), some (.int v5), some (.int v6), some (.int v7), some (.int r18), some (.int r23), some (.int 0)] [] κ S22 (it_pi κ P)
            refine ev_iload d_X6_round_171 rfl ?_
            refine ev_if_eq (tgt := 181) d_X6_round_173 (by decide) (fun _ => ?_) (fun hc => absurd (by decide) hc)
            refine ev_iload d_X6_round_181 rfl ?_
            refine ev_istore d_X6_round_183 (by decide) ?_
            show it_Ev g l 8 it_m_X6_round 0 0 185 [some (.ref 45), some (.int x1), some (.int x2), some (.int x3), some (.int v4), some (.int v5), some (.int v6), some (.int v7), some (.int r18), some (.int r23), some (.int 0)] [] κ S22 (it_pi κ P)
            refine ev_aload_n d_X6_round_185 rfl ?_
            refine ev_callV (ci := 6) (b := 45) (M' := it_m_X6_laysIce) (d' := 1) (As := []) d_X6_round_186 ml_IcedTooSoonModel_222 hm.1.1 hm.1.2.1 ⟨_, rfl, rfl⟩ rfl rfl (Nat.le_of_ble_eq_true rfl) (by decide) (by decide) (by decide) (L_X6_laysIce hm (it_ok_b h)) (fun _ _ _ _ q => by cases q.1; rfl) ?_
            rintro _ _ S28 ⟨rfl, rfl, h⟩
            show it_Ev g l 8 it_m_X6_round 0 0 189 [some (.ref 45), some (.int x1), some (.int x2), some (.int x3), some (.int v4), some (.int v5), some (.int v6), some (.int v7), some (.int r18), some (.int r23), some (.int 0)] [] κ S28 (it_pi κ P)
            refine ev_iinc d_X6_round_189 kv_iconst_1 rfl (by decide) ?_
            show it_Ev g l 8 it_m_X6_round 0 0 192 [some (.ref 45), some (.int x1), some (.int x2), some (.int x3), some (.int v4), some (.int v5), some (.int v6), some (.int (v7 + 1)), some (.int r18), some (.int r23), some (.int 0)] [] κ S28 (it_pi κ P)
            refine ev_goto (tgt := 83) d_X6_round_192 (by decide) ?_
            refine ev_keep [true, true, true, true, true, true, true, true, false, false, false] ?_
            exact ih83 _ _ _ _ _ h
          · have h := it_ok_t h hc27
            refine ev_iload d_X6_round_127 rfl ?_
            refine ev_iload d_X6_round_129 rfl ?_
            refine ev_icmp_ge (tgt := 138) d_X6_round_131 (by decide) (fun hc30 => ?_) (fun hc30 => ?_)
            · have h := it_ok_t h hc30
              refine ev_iconst d_X6_round_138 kv_iconst_0 ?_
              refine ev_istore d_X6_round_139 (by decide) ?_
              show it_Ev g l 8 it_m_X6_round 0 0 141 [some (.ref 45), some (.int x1), some (.int x2), some (.int x3), some (.int v4), some (.int v5), some (.int v6), some (.int v7), some (.int r18), some (.int r23), some (.int 0)] [] κ S22 (it_pi κ P)
              refine ev_iload d_X6_round_141 rfl ?_
              refine ev_if_eq (tgt := 153) d_X6_round_143 (by decide) (fun _ => ?_) (fun hc => absurd (by decide) hc)
              refine ev_iload d_X6_round_153 rfl ?_
              refine ev_istore d_X6_round_155 (by decide) ?_
              show it_Ev g l 8 it_m_X6_round 0 0 157 [some (.ref 45), some (.int x1), some (.int x2), some (.int x3), some (.int v4), some (.int v5), some (.int v6), some (.int v7), some (.int r18), some (.int r23), some (.int 0)] [] κ S22 (it_pi κ P)
              refine ev_iload d_X6_round_157 rfl ?_
              refine ev_if_eq (tgt := 167) d_X6_round_159 (by decide) (fun _ => ?_) (fun hc => absurd (by decide) hc)
              refine ev_iload d_X6_round_167 rfl ?_
              refine ev_istore d_X6_round_169 (by decide) ?_
              show it_Ev g l 8 it_m_X6_round 0 0 171 [some (.ref 45), some (.int x1), some (.int x2), some (.int x3), some (.int v4), some (.int v5), some (.int v6), some (.int v7), some (.int r18), some (.int r23), some (.int 0)] [] κ S22 (it_pi κ P)
              refine ev_iload d_X6_round_171 rfl ?_
              refine ev_if_eq (tgt := 181) d_X6_round_173 (by decide) (fun _ => ?_) (fun hc => absurd (by decide) hc)
              refine ev_iload d_X6_round_181 rfl ?_
              refine ev_istore d_X6_round_183 (by decide) ?_
              show it_Ev g l 8 it_m_X6_round 0 0 185 [some (.ref 45), some (.int x1), some (.int x2), some (.int x3), some (.int v4), some (.int v5), some (.int v6), some (.int v7), some (.int r18), some (.int r23), some (.int 0)] [] κ S22 (it_pi κ P)
              refine ev_aload_n d_X6_round_185 rfl ?_
              refine ev_callV (ci := 6) (b := 45) (M' := it_m_X6_laysIce) (d' := 1) (As := []) d_X6_round_186 ml_IcedTooSoonModel_222 hm.1.1 hm.1.2.1 ⟨_, rfl, rfl⟩ rfl rfl (Nat.le_of_ble_eq_true rfl) (by decide) (by decide) (by decide) (L_X6_laysIce hm (it_ok_b h)) (fun _ _ _ _ q => by cases q.1; rfl) ?_
              rintro _ _ S31 ⟨rfl, rfl, h⟩
              show it_Ev g l 8 it_m_X6_round 0 0 189 [some (.ref 45), some (.int x1), some (.int x2), some (.int x3), some (.int v4), some (.int v5), some (.int v6), some (.int v7), some (.int r18), some (.int r23), some (.int 0)] [] κ S31 (it_pi κ P)
              refine ev_iinc d_X6_round_189 kv_iconst_1 rfl (by decide) ?_
              show it_Ev g l 8 it_m_X6_round 0 0 192 [some (.ref 45), some (.int x1), some (.int x2), some (.int x3), some (.int v4), some (.int v5), some (.int v6), some (.int (v7 + 1)), some (.int r18), some (.int r23), some (.int 0)] [] κ S31 (it_pi κ P)
              refine ev_goto (tgt := 83) d_X6_round_192 (by decide) ?_
              refine ev_keep [true, true, true, true, true, true, true, true, false, false, false] ?_
              exact ih83 _ _ _ _ _ h
            · have h := it_ok_f h hc30
              refine ev_iconst d_X6_round_134 kv_iconst_1 ?_
              refine ev_goto (tgt := 139) d_X6_round_135 (by decide) ?_
              refine ev_istore d_X6_round_139 (by decide) ?_
              show it_Ev g l 8 it_m_X6_round 0 0 141 [some (.ref 45), some (.int x1), some (.int x2), some (.int x3), some (.int v4), some (.int v5), some (.int v6), some (.int v7), some (.int r18), some (.int r23), some (.int 1)] [] κ S22 (it_pi κ P)
              refine ev_iload d_X6_round_141 rfl ?_
              refine ev_if_eq (tgt := 153) d_X6_round_143 (by decide) (fun hc => absurd hc (by decide)) (fun _ => ?_)
              refine ev_aload_n d_X6_round_146 rfl ?_
              refine ev_getI d_X6_round_147 fl_IcedTooSoonModel_216 hm.1 rfl ?_
              refine ev_goto (tgt := 155) d_X6_round_150 (by decide) ?_
              refine ev_istore d_X6_round_155 (by decide) ?_
              show it_Ev g l 8 it_m_X6_round 0 0 157 [some (.ref 45), some (.int x1), some (.int x2), some (.int x3), some (.int (S22 45 31)), some (.int v5), some (.int v6), some (.int v7), some (.int r18), some (.int r23), some (.int 1)] [] κ S22 (it_pi κ P)
              refine ev_iload d_X6_round_157 rfl ?_
              refine ev_if_eq (tgt := 167) d_X6_round_159 (by decide) (fun hc => absurd hc (by decide)) (fun _ => ?_)
              refine ev_iload d_X6_round_162 rfl ?_
              refine ev_goto (tgt := 169) d_X6_round_164 (by decide) ?_
              refine ev_istore d_X6_round_169 (by decide) ?_
              show it_Ev g l 8 it_m_X6_round 0 0 171 [some (.ref 45), some (.int x1), some (.int x2), some (.int x3), some (.int (S22 45 31)), some (.int r18), some (.int v6), some (.int v7), some (.int r18), some (.int r23), some (.int 1)] [] κ S22 (it_pi κ P)
              refine ev_iload d_X6_round_171 rfl ?_
              refine ev_if_eq (tgt := 181) d_X6_round_173 (by decide) (fun hc => absurd hc (by decide)) (fun _ => ?_)
              refine ev_iload d_X6_round_176 rfl ?_
              refine ev_goto (tgt := 183) d_X6_round_178 (by decide) ?_
              refine ev_istore d_X6_round_183 (by decide) ?_
              show it_Ev g l 8 it_m_X6_round 0 0 185 [some (.ref 45), some (.int x1), some (.int x2), some (.int x3), some (.int (S22 45 31)), some (.int r18), some (.int r23), some (.int v7), some (.int r18), some (.int r23), some (.int 1)] [] κ S22 (it_pi κ P)
              refine ev_aload_n d_X6_round_185 rfl ?_
              refine ev_callV (ci := 6) (b := 45) (M' := it_m_X6_laysIce) (d' := 1) (As := []) d_X6_round_186 ml_IcedTooSoonModel_222 hm.1.1 hm.1.2.1 ⟨_, rfl, rfl⟩ rfl rfl (Nat.le_of_ble_eq_true rfl) (by decide) (by decide) (by decide) (L_X6_laysIce hm (it_ok_b h)) (fun _ _ _ _ q => by cases q.1; rfl) ?_
              rintro _ _ S33 ⟨rfl, rfl, h⟩
              show it_Ev g l 8 it_m_X6_round 0 0 189 [some (.ref 45), some (.int x1), some (.int x2), some (.int x3), some (.int (S22 45 31)), some (.int r18), some (.int r23), some (.int v7), some (.int r18), some (.int r23), some (.int 1)] [] κ S33 (it_pi κ P)
              refine ev_iinc d_X6_round_189 kv_iconst_1 rfl (by decide) ?_
              show it_Ev g l 8 it_m_X6_round 0 0 192 [some (.ref 45), some (.int x1), some (.int x2), some (.int x3), some (.int (S22 45 31)), some (.int r18), some (.int r23), some (.int (v7 + 1)), some (.int r18), some (.int r23), some (.int 1)] [] κ S33 (it_pi κ P)
              refine ev_goto (tgt := 83) d_X6_round_192 (by decide) ?_
              refine ev_keep [true, true, true, true, true, true, true, true, false, false, false] ?_
              exact ih83 _ _ _ _ _ h
set_option maxHeartbeats 4000000 in
set_option maxRecDepth 100000 in
theorem L_X6_round {g : it_G} {l : Launch} {κ : it_KK} {x1 : Int32} {x2 : Int32} {x3 : Int32} (hm : it_wm κ) {S : it_SS} {P : Int32 → it_SS → Prop} (h : it_ok (f_X6_round κ x1 x2 x3 S) P) : it_Cn g l 8 it_m_X6_round [.ref 45, .int x1, .int x2, .int x3] κ S (it_pi κ P) := by
  refine it_Cn.of (by decide +kernel) (Nat.le_of_ble_eq_true rfl) ?_
  rw [f_X6_round] at h
  show it_Ev g l 8 it_m_X6_round 0 0 0 [some (.ref 45), some (.int x1), some (.int x2), some (.int x3), none, none, none, none, none, none, none] [] κ S (it_pi κ P)
  refine ev_iload_n d_X6_round_0 rfl ?_
  refine ev_iconst d_X6_round_1 kv_iconst_1 ?_
  refine ev_bipush d_X6_round_2 kv_bipush_99 ?_
  refine ev_callS (M' := it_m_X6_in) (d' := 1) (As := [.int x1, .int 1, .int 99]) d_X6_round_4 ml_IcedTooSoonModel_78 rfl rfl (Nat.le_of_ble_eq_true rfl) (by decide) (by decide) (by decide) (L_X6_in  (it_ok_b h)) (fun _ _ _ _ q => by cases q.1; rfl) ?_
  rintro _ _ S1 ⟨rfl, r2, rfl, h⟩
  show it_Ev g l 8 it_m_X6_round 0 0 7 [some (.ref 45), some (.int x1), some (.int x2), some (.int x3), none, none, none, none, none, none, none] [.int r2] κ S1 (it_pi κ P)
  refine ev_if_eq (tgt := 29) d_X6_round_7 (by decide) (fun hc3 => ?_) (fun hc3 => ?_)
  · have h := it_ok_t h hc3
    refine ev_sipush d_X6_round_29 kv_sipush_m1000 ?_
    exact ev_ret (v := some (.int _)) ⟨d_X6_round_32, _, rfl, rfl⟩ (by decide) (by decide) ⟨rfl, _, rfl, it_ok_r h⟩
  · have h := it_ok_f h hc3
    refine ev_iload_n d_X6_round_10 rfl ?_
    refine ev_iconst d_X6_round_11 kv_iconst_1 ?_
    refine ev_bipush d_X6_round_12 kv_bipush_10 ?_
    refine ev_callS (M' := it_m_X6_in) (d' := 1) (As := [.int x2, .int 1, .int 10]) d_X6_round_14 ml_IcedTooSoonModel_78 rfl rfl (Nat.le_of_ble_eq_true rfl) (by decide) (by decide) (by decide) (L_X6_in  (it_ok_b h)) (fun _ _ _ _ q => by cases q.1; rfl) ?_
    rintro _ _ S4 ⟨rfl, r5, rfl, h⟩
    show it_Ev g l 8 it_m_X6_round 0 0 17 [some (.ref 45), some (.int x1), some (.int x2), some (.int x3), none, none, none, none, none, none, none] [.int r5] κ S4 (it_pi κ P)
    refine ev_if_eq (tgt := 29) d_X6_round_17 (by decide) (fun hc6 => ?_) (fun hc6 => ?_)
    · have h := it_ok_t h hc6
      refine ev_sipush d_X6_round_29 kv_sipush_m1000 ?_
      exact ev_ret (v := some (.int _)) ⟨d_X6_round_32, _, rfl, rfl⟩ (by decide) (by decide) ⟨rfl, _, rfl, it_ok_r h⟩
    · have h := it_ok_f h hc6
      refine ev_iload_n d_X6_round_20 rfl ?_
      refine ev_iconst d_X6_round_21 kv_iconst_0 ?_
      refine ev_iconst d_X6_round_22 kv_iconst_1 ?_
      refine ev_callS (M' := it_m_X6_in) (d' := 1) (As := [.int x3, .int 0, .int 1]) d_X6_round_23 ml_IcedTooSoonModel_78 rfl rfl (Nat.le_of_ble_eq_true rfl) (by decide) (by decide) (by decide) (L_X6_in  (it_ok_b h)) (fun _ _ _ _ q => by cases q.1; rfl) ?_
      rintro _ _ S7 ⟨rfl, r8, rfl, h⟩
      show it_Ev g l 8 it_m_X6_round 0 0 26 [some (.ref 45), some (.int x1), some (.int x2), some (.int x3), none, none, none, none, none, none, none] [.int r8] κ S7 (it_pi κ P)
      refine ev_if_ne (tgt := 33) d_X6_round_26 (by decide) (fun hc9 => ?_) (fun hc9 => ?_)
      · have h := it_ok_f h hc9
        refine ev_iconst d_X6_round_33 kv_iconst_0 ?_
        refine ev_istore d_X6_round_34 (by decide) ?_
        show it_Ev g l 8 it_m_X6_round 0 0 36 [some (.ref 45), some (.int x1), some (.int x2), some (.int x3), some (.int 0), none, none, none, none, none, none] [] κ S7 (it_pi κ P)
        refine ev_keep [true, true, true, true, true, false, false, false, false, false, false] ?_
        refine Llp_X6_round_36 hm (fun  S13 h => ?_) _ _ _ h
        show it_Ev g l 8 it_m_X6_round 0 0 67 [some (.ref 45), some (.int x1), some (.int x2), some (.int x3), none, none, none, none, none, none, none] [] κ S13 (it_pi κ P)
        refine ev_iconst d_X6_round_67 kv_iconst_0 ?_
        refine ev_istore d_X6_round_68 (by decide) ?_
        show it_Ev g l 8 it_m_X6_round 0 0 70 [some (.ref 45), some (.int x1), some (.int x2), some (.int x3), some (.int 0), none, none, none, none, none, none] [] κ S13 (it_pi κ P)
        refine ev_iconst d_X6_round_70 kv_iconst_0 ?_
        refine ev_istore d_X6_round_71 (by decide) ?_
        show it_Ev g l 8 it_m_X6_round 0 0 73 [some (.ref 45), some (.int x1), some (.int x2), some (.int x3), some (.int 0), some (.int 0), none, none, none, none, none] [] κ S13 (it_pi κ P)
        refine ev_aload_n d_X6_round_73 rfl ?_
        refine ev_iload_n d_X6_round_74 rfl ?_
        refine ev_callV (ci := 6) (b := 45) (M' := it_m_X6_moodBehind) (d' := 7) (As := [.int x2]) d_X6_round_75 ml_IcedTooSoonModel_213 hm.1.1 hm.1.2.1 ⟨_, rfl, rfl⟩ rfl rfl (Nat.le_of_ble_eq_true rfl) (by decide) (by decide) (by decide) (L_X6_moodBehind hm (it_ok_b h)) (fun _ _ _ _ q => by cases q.1; rfl) ?_
        rintro _ _ S14 ⟨rfl, r15, rfl, h⟩
        show it_Ev g l 8 it_m_X6_round 0 0 78 [some (.ref 45), some (.int x1), some (.int x2), some (.int x3), some (.int 0), some (.int 0), none, none, none, none, none] [.int r15] κ S14 (it_pi κ P)
        refine ev_istore d_X6_round_78 (by decide) ?_
        show it_Ev g l 8 it_m_X6_round 0 0 80 [some (.ref 45), some (.int x1), some (.int x2), some (.int x3), some (.int 0), some (.int 0), some (.int r15), none, none, none, none] [] κ S14 (it_pi κ P)
        refine ev_iconst d_X6_round_80 kv_iconst_1 ?_
        refine ev_istore d_X6_round_81 (by decide) ?_
        show it_Ev g l 8 it_m_X6_round 0 0 83 [some (.ref 45), some (.int x1), some (.int x2), some (.int x3), some (.int 0), some (.int 0), some (.int r15), some (.int 1), none, none, none] [] κ S14 (it_pi κ P)
        refine ev_keep [true, true, true, true, true, true, true, true, false, false, false] ?_
        refine Llp_X6_round_83 hm (fun v35 v36 S37 h => ?_) _ _ _ _ _ _ h
        show it_Ev g l 8 it_m_X6_round 0 0 195 [none, none, none, some (.int x3), some (.int v35), none, some (.int v36), none, none, none, none] [] κ S37 (it_pi κ P)
        refine ev_iload_n d_X6_round_195 rfl ?_
        refine ev_if_ne (tgt := 204) d_X6_round_196 (by decide) (fun hc38 => ?_) (fun hc38 => ?_)
        · have h := it_ok_f h hc38
          refine ev_iload d_X6_round_204 rfl ?_
          exact ev_ret (v := some (.int _)) ⟨d_X6_round_206, _, rfl, rfl⟩ (by decide) (by decide) ⟨rfl, _, rfl, it_ok_r h⟩
        · have h := it_ok_t h hc38
          refine ev_iload d_X6_round_199 rfl ?_
          refine ev_goto (tgt := 206) d_X6_round_201 (by decide) ?_
          exact ev_ret (v := some (.int _)) ⟨d_X6_round_206, _, rfl, rfl⟩ (by decide) (by decide) ⟨rfl, _, rfl, it_ok_r h⟩
      · have h := it_ok_t h hc9
        refine ev_sipush d_X6_round_29 kv_sipush_m1000 ?_
        exact ev_ret (v := some (.int _)) ⟨d_X6_round_32, _, rfl, rfl⟩ (by decide) (by decide) ⟨rfl, _, rfl, it_ok_r h⟩
theorem d_X6_mean_0 : decode prog_8_method_60_code 0 = .ok (.aload_n 0, 1) := by decide +kernel
theorem d_X6_mean_1 : decode prog_8_method_60_code 1 = .ok (.invokevirtual 90, 3) := by decide +kernel
theorem d_X6_mean_4 : decode prog_8_method_60_code 4 = .ok (.istore_n 2, 1) := by decide +kernel
theorem d_X6_mean_5 : decode prog_8_method_60_code 5 = .ok (.iload_n 1, 1) := by decide +kernel
theorem d_X6_mean_6 : decode prog_8_method_60_code 6 = .ok (.iconst 0, 1) := by decide +kernel
theorem d_X6_mean_7 : decode prog_8_method_60_code 7 = .ok (.iconst 1, 1) := by decide +kernel
theorem d_X6_mean_8 : decode prog_8_method_60_code 8 = .ok (.invokestatic 78, 3) := by decide +kernel
theorem d_X6_mean_11 : decode prog_8_method_60_code 11 = .ok (.ifCond .eq 7, 3) := by decide +kernel
theorem d_X6_mean_14 : decode prog_8_method_60_code 14 = .ok (.iload_n 2, 1) := by decide +kernel
theorem d_X6_mean_15 : decode prog_8_method_60_code 15 = .ok (.ifCond .ne 7, 3) := by decide +kernel
theorem d_X6_mean_18 : decode prog_8_method_60_code 18 = .ok (.ldc2_w 225, 3) := by decide +kernel
theorem d_X6_mean_21 : decode prog_8_method_60_code 21 = .ok (.lreturn, 1) := by decide +kernel
theorem d_X6_mean_22 : decode prog_8_method_60_code 22 = .ok (.iconst 0, 1) := by decide +kernel
theorem d_X6_mean_23 : decode prog_8_method_60_code 23 = .ok (.istore_n 3, 1) := by decide +kernel
theorem d_X6_mean_24 : decode prog_8_method_60_code 24 = .ok (.iconst 0, 1) := by decide +kernel
theorem d_X6_mean_25 : decode prog_8_method_60_code 25 = .ok (.istore 4, 2) := by decide +kernel
theorem d_X6_mean_27 : decode prog_8_method_60_code 27 = .ok (.iload 4, 2) := by decide +kernel
theorem d_X6_mean_29 : decode prog_8_method_60_code 29 = .ok (.bipush 10, 2) := by decide +kernel
theorem d_X6_mean_31 : decode prog_8_method_60_code 31 = .ok (.if_icmp .ge 36, 3) := by decide +kernel
theorem d_X6_mean_34 : decode prog_8_method_60_code 34 = .ok (.iload_n 3, 1) := by decide +kernel
theorem d_X6_mean_35 : decode prog_8_method_60_code 35 = .ok (.aload_n 0, 1) := by decide +kernel
theorem d_X6_mean_36 : decode prog_8_method_60_code 36 = .ok (.iload 4, 2) := by decide +kernel
theorem d_X6_mean_38 : decode prog_8_method_60_code 38 = .ok (.invokevirtual 86, 3) := by decide +kernel
theorem d_X6_mean_41 : decode prog_8_method_60_code 41 = .ok (.ifCond .eq 17, 3) := by decide +kernel
theorem d_X6_mean_44 : decode prog_8_method_60_code 44 = .ok (.aload_n 0, 1) := by decide +kernel
theorem d_X6_mean_45 : decode prog_8_method_60_code 45 = .ok (.getfield 19, 3) := by decide +kernel
theorem d_X6_mean_48 : decode prog_8_method_60_code 48 = .ok (.iconst 3, 1) := by decide +kernel
theorem d_X6_mean_49 : decode prog_8_method_60_code 49 = .ok (.iload 4, 2) := by decide +kernel
theorem d_X6_mean_51 : decode prog_8_method_60_code 51 = .ok (.imul, 1) := by decide +kernel
theorem d_X6_mean_52 : decode prog_8_method_60_code 52 = .ok (.iconst 1, 1) := by decide +kernel
theorem d_X6_mean_53 : decode prog_8_method_60_code 53 = .ok (.iadd, 1) := by decide +kernel
theorem d_X6_mean_54 : decode prog_8_method_60_code 54 = .ok (.iaload, 1) := by decide +kernel
theorem d_X6_mean_55 : decode prog_8_method_60_code 55 = .ok (.goto 4, 3) := by decide +kernel
theorem d_X6_mean_58 : decode prog_8_method_60_code 58 = .ok (.iconst 0, 1) := by decide +kernel
theorem d_X6_mean_59 : decode prog_8_method_60_code 59 = .ok (.iadd, 1) := by decide +kernel
theorem d_X6_mean_60 : decode prog_8_method_60_code 60 = .ok (.istore_n 3, 1) := by decide +kernel
theorem d_X6_mean_61 : decode prog_8_method_60_code 61 = .ok (.iinc 4 1, 3) := by decide +kernel
theorem d_X6_mean_64 : decode prog_8_method_60_code 64 = .ok (.goto (-37), 3) := by decide +kernel
theorem d_X6_mean_67 : decode prog_8_method_60_code 67 = .ok (.iload_n 3, 1) := by decide +kernel
theorem d_X6_mean_68 : decode prog_8_method_60_code 68 = .ok (.i2l, 1) := by decide +kernel
theorem d_X6_mean_69 : decode prog_8_method_60_code 69 = .ok (.iload_n 2, 1) := by decide +kernel
theorem d_X6_mean_70 : decode prog_8_method_60_code 70 = .ok (.i2l, 1) := by decide +kernel
theorem d_X6_mean_71 : decode prog_8_method_60_code 71 = .ok (.iload_n 1, 1) := by decide +kernel
theorem d_X6_mean_72 : decode prog_8_method_60_code 72 = .ok (.invokestatic 227, 3) := by decide +kernel
theorem d_X6_mean_75 : decode prog_8_method_60_code 75 = .ok (.lreturn, 1) := by decide +kernel
def lp_X6_mean_27 (κ : it_KK) (x1 : Int32) (k27 : (Int32 → Int32 → it_SS → Option (Int64 × it_SS))) : Nat → Int32 → Int32 → Int32 → it_SS → Option (Int64 × it_SS)
  | 0, _, _, _, _ => none
  | n27 + 1, v2, v3, v4, S => if 10 ≤ v4 then
k27 v2 v3 S
else
it_bi (f_X6_isThere κ v4 S) (fun r9 S8 =>
if r9 = 0 then
lp_X6_mean_27 κ x1 k27 n27 v2 (v3 + 0) (v4 + 1) S8
else
if it_bd ((3 * v4) + 1) 30 = true then
lp_X6_mean_27 κ x1 k27 n27 v2 (v3 + (S8 49 (((3 * v4) + 1) : Int32).toNatClampNeg)) (v4 + 1) S8
else none)
def f_X6_mean (κ : it_KK) (x1 : Int32) (S : it_SS) : Option (Int64 × it_SS) :=
it_bi (f_X6_many κ  S) (fun r2 S1 =>
it_bi (f_X6_in κ x1 0 1 S1) (fun r4 S3 =>
if r4 = 0 then
some ((-4611686018427387904), S3)
else
if r2 = 0 then
some ((-4611686018427387904), S3)
else
lp_X6_mean_27 κ x1 (fun v12 v13 S14 =>
it_bi (f_X6_lowest κ ((v13 : Int32).toInt64) ((v12 : Int32).toInt64) x1 S14) (fun r16 S15 =>
some (r16, S15))) it_FU r2 0 0 S3))
set_option maxHeartbeats 4000000 in
set_option maxRecDepth 100000 in
theorem Llp_X6_mean_27 {g : it_G} {l : Launch} {κ : it_KK} {x1 : Int32} (hm : it_wm κ) {P : Int64 → it_SS → Prop} {k27 : (Int32 → Int32 → it_SS → Option (Int64 × it_SS))} (hk27 : ∀ (v2 : Int32) (v3 : Int32) (S : it_SS), it_ok (k27 v2 v3 S) P → it_Ev g l 4 it_m_X6_mean 0 0 67 [none, some (.int x1), some (.int v2), some (.int v3), none] [] κ S (it_pl κ P)) : ∀ (n : Nat) (v2 : Int32) (v3 : Int32) (v4 : Int32) (S : it_SS), it_ok (lp_X6_mean_27 κ x1 k27 n v2 v3 v4 S) P → it_Ev g l 4 it_m_X6_mean 0 0 27 [some (.ref 45), some (.int x1), some (.int v2), some (.int v3), some (.int v4)] [] κ S (it_pl κ P) := by
  intro n
  induction n with
  | zero =>
    intro _ _ _ _ h
    exact (it_ok_n h).elim
  | succ n27 ih27 =>
    intro v2 v3 v4 S h
    rw [lp_X6_mean_27] at h
    refine ev_iload d_X6_mean_27 rfl ?_
    refine ev_bipush d_X6_mean_29 kv_bipush_10 ?_
    refine ev_icmp_ge (tgt := 67) d_X6_mean_31 (by decide) (fun hc7 => ?_) (fun hc7 => ?_)
    · have h := it_ok_t h hc7
      refine ev_keep [false, true, true, true, false] ?_
      exact hk27 _ _ _ h
    · have h := it_ok_f h hc7
      refine ev_iload_n d_X6_mean_34 rfl ?_
      refine ev_aload_n d_X6_mean_35 rfl ?_
      refine ev_iload d_X6_mean_36 rfl ?_
      refine ev_callV (ci := 6) (b := 45) (M' := it_m_X6_isThere) (d' := 2) (As := [.int v4]) d_X6_mean_38 ml_IcedTooSoonModel_86 hm.1.1 hm.1.2.1 ⟨_, rfl, rfl⟩ rfl rfl (Nat.le_of_ble_eq_true rfl) (by decide) (by decide) (by decide) (L_X6_isThere hm (it_ok_b h)) (fun _ _ _ _ q => by cases q.1; rfl) ?_
      rintro _ _ S8 ⟨rfl, r9, rfl, h⟩
      show it_Ev g l 4 it_m_X6_mean 0 0 41 [some (.ref 45), some (.int x1), some (.int v2), some (.int v3), some (.int v4)] [.int r9, .int v3] κ S8 (it_pl κ P)
      refine ev_if_eq (tgt := 58) d_X6_mean_41 (by decide) (fun hc10 => ?_) (fun hc10 => ?_)
      · have h := it_ok_t h hc10
        refine ev_iconst d_X6_mean_58 kv_iconst_0 ?_
        refine ev_iadd d_X6_mean_59 ?_
        refine ev_istore_n d_X6_mean_60 (by decide) ?_
        show it_Ev g l 4 it_m_X6_mean 0 0 61 [some (.ref 45), some (.int x1), some (.int v2), some (.int (v3 + 0)), some (.int v4)] [] κ S8 (it_pl κ P)
        refine ev_iinc d_X6_mean_61 kv_iconst_1 rfl (by decide) ?_
        show it_Ev g l 4 it_m_X6_mean 0 0 64 [some (.ref 45), some (.int x1), some (.int v2), some (.int (v3 + 0)), some (.int (v4 + 1))] [] κ S8 (it_pl κ P)
        refine ev_goto (tgt := 27) d_X6_mean_64 (by decide) ?_
        refine ev_keep [true, true, true, true, true] ?_
        exact ih27 _ _ _ _ h
      · have h := it_ok_f h hc10
        refine ev_aload_n d_X6_mean_44 rfl ?_
        refine ev_getRr (r := 49) rfl d_X6_mean_45 fl_IcedTooSoonModel_19 hm.1 rfl ?_
        refine ev_iconst d_X6_mean_48 kv_iconst_3 ?_
        refine ev_iload d_X6_mean_49 rfl ?_
        refine ev_imul d_X6_mean_51 ?_
        refine ev_iconst d_X6_mean_52 kv_iconst_1 ?_
        refine ev_iadd d_X6_mean_53 ?_
        obtain ⟨hb11, h⟩ := it_ok_g h
        refine ev_iald d_X6_mean_54 (hm).2.2.2.2.1 (it_bd_in hb11) ?_
        refine ev_goto (tgt := 59) d_X6_mean_55 (by decide) ?_
        refine ev_iadd d_X6_mean_59 ?_
        refine ev_istore_n d_X6_mean_60 (by decide) ?_
        show it_Ev g l 4 it_m_X6_mean 0 0 61 [some (.ref 45), some (.int x1), some (.int v2), some (.int (v3 + (S8 49 (((3 * v4) + 1) : Int32).toNatClampNeg))), some (.int v4)] [] κ S8 (it_pl κ P)
        refine ev_iinc d_X6_mean_61 kv_iconst_1 rfl (by decide) ?_
        show it_Ev g l 4 it_m_X6_mean 0 0 64 [some (.ref 45), some (.int x1), some (.int v2), some (.int (v3 + (S8 49 (((3 * v4) + 1) : Int32).toNatClampNeg))), some (.int (v4 + 1))] [] κ S8 (it_pl κ P)
        refine ev_goto (tgt := 27) d_X6_mean_64 (by decide) ?_
        refine ev_keep [true, true, true, true, true] ?_
        exact ih27 _ _ _ _ h
set_option maxHeartbeats 4000000 in
set_option maxRecDepth 100000 in
theorem L_X6_mean {g : it_G} {l : Launch} {κ : it_KK} {x1 : Int32} (hm : it_wm κ) {S : it_SS} {P : Int64 → it_SS → Prop} (h : it_ok (f_X6_mean κ x1 S) P) : it_Cn g l 4 it_m_X6_mean [.ref 45, .int x1] κ S (it_pl κ P) := by
  refine it_Cn.of (by decide +kernel) (Nat.le_of_ble_eq_true rfl) ?_
  rw [f_X6_mean] at h
  show it_Ev g l 4 it_m_X6_mean 0 0 0 [some (.ref 45), some (.int x1), none, none, none] [] κ S (it_pl κ P)
  refine ev_aload_n d_X6_mean_0 rfl ?_
  refine ev_callV (ci := 6) (b := 45) (M' := it_m_X6_many) (d' := 3) (As := []) d_X6_mean_1 ml_IcedTooSoonModel_90 hm.1.1 hm.1.2.1 ⟨_, rfl, rfl⟩ rfl rfl (Nat.le_of_ble_eq_true rfl) (by decide) (by decide) (by decide) (L_X6_many hm (it_ok_b h)) (fun _ _ _ _ q => by cases q.1; rfl) ?_
  rintro _ _ S1 ⟨rfl, r2, rfl, h⟩
  show it_Ev g l 4 it_m_X6_mean 0 0 4 [some (.ref 45), some (.int x1), none, none, none] [.int r2] κ S1 (it_pl κ P)
  refine ev_istore_n d_X6_mean_4 (by decide) ?_
  show it_Ev g l 4 it_m_X6_mean 0 0 5 [some (.ref 45), some (.int x1), some (.int r2), none, none] [] κ S1 (it_pl κ P)
  refine ev_iload_n d_X6_mean_5 rfl ?_
  refine ev_iconst d_X6_mean_6 kv_iconst_0 ?_
  refine ev_iconst d_X6_mean_7 kv_iconst_1 ?_
  refine ev_callS (M' := it_m_X6_in) (d' := 1) (As := [.int x1, .int 0, .int 1]) d_X6_mean_8 ml_IcedTooSoonModel_78 rfl rfl (Nat.le_of_ble_eq_true rfl) (by decide) (by decide) (by decide) (L_X6_in  (it_ok_b h)) (fun _ _ _ _ q => by cases q.1; rfl) ?_
  rintro _ _ S3 ⟨rfl, r4, rfl, h⟩
  show it_Ev g l 4 it_m_X6_mean 0 0 11 [some (.ref 45), some (.int x1), some (.int r2), none, none] [.int r4] κ S3 (it_pl κ P)
  refine ev_if_eq (tgt := 18) d_X6_mean_11 (by decide) (fun hc5 => ?_) (fun hc5 => ?_)
  · have h := it_ok_t h hc5
    refine ev_ldc2 d_X6_mean_18 kn_IcedTooSoonModel_225 ?_
    exact ev_ret (v := some (.long _)) ⟨d_X6_mean_21, rfl⟩ (by decide) (by decide) ⟨rfl, _, rfl, it_ok_r h⟩
  · have h := it_ok_f h hc5
    refine ev_iload_n d_X6_mean_14 rfl ?_
    refine ev_if_ne (tgt := 22) d_X6_mean_15 (by decide) (fun hc6 => ?_) (fun hc6 => ?_)
    · have h := it_ok_f h hc6
      refine ev_iconst d_X6_mean_22 kv_iconst_0 ?_
      refine ev_istore_n d_X6_mean_23 (by decide) ?_
      show it_Ev g l 4 it_m_X6_mean 0 0 24 [some (.ref 45), some (.int x1), some (.int r2), some (.int 0), none] [] κ S3 (it_pl κ P)
      refine ev_iconst d_X6_mean_24 kv_iconst_0 ?_
      refine ev_istore d_X6_mean_25 (by decide) ?_
      show it_Ev g l 4 it_m_X6_mean 0 0 27 [some (.ref 45), some (.int x1), some (.int r2), some (.int 0), some (.int 0)] [] κ S3 (it_pl κ P)
      refine ev_keep [true, true, true, true, true] ?_
      refine Llp_X6_mean_27 hm (fun v12 v13 S14 h => ?_) _ _ _ _ _ h
      show it_Ev g l 4 it_m_X6_mean 0 0 67 [none, some (.int x1), some (.int v12), some (.int v13), none] [] κ S14 (it_pl κ P)
      refine ev_iload_n d_X6_mean_67 rfl ?_
      refine ev_i2l d_X6_mean_68 ?_
      refine ev_iload_n d_X6_mean_69 rfl ?_
      refine ev_i2l d_X6_mean_70 ?_
      refine ev_iload_n d_X6_mean_71 rfl ?_
      refine ev_callS (M' := it_m_X6_lowest) (d' := 1) (As := [.long ((v13 : Int32).toInt64), .long ((v12 : Int32).toInt64), .int x1]) d_X6_mean_72 ml_IcedTooSoonModel_227 rfl rfl (Nat.le_of_ble_eq_true rfl) (by decide) (by decide) (by decide) (L_X6_lowest  (it_ok_b h)) (fun _ _ _ _ q => by cases q.1; rfl) ?_
      rintro _ _ S15 ⟨rfl, r16, rfl, h⟩
      show it_Ev g l 4 it_m_X6_mean 0 0 75 [none, some (.int x1), some (.int v12), some (.int v13), none] [.long r16] κ S15 (it_pl κ P)
      exact ev_ret (v := some (.long _)) ⟨d_X6_mean_75, rfl⟩ (by decide) (by decide) ⟨rfl, _, rfl, it_ok_r h⟩
    · have h := it_ok_t h hc6
      refine ev_ldc2 d_X6_mean_18 kn_IcedTooSoonModel_225 ?_
      exact ev_ret (v := some (.long _)) ⟨d_X6_mean_21, rfl⟩ (by decide) (by decide) ⟨rfl, _, rfl, it_ok_r h⟩
theorem d_X6_sheetWrong_0 : decode prog_8_method_61_code 0 = .ok (.iload_n 1, 1) := by decide +kernel
theorem d_X6_sheetWrong_1 : decode prog_8_method_61_code 1 = .ok (.iconst 0, 1) := by decide +kernel
theorem d_X6_sheetWrong_2 : decode prog_8_method_61_code 2 = .ok (.iconst 3, 1) := by decide +kernel
theorem d_X6_sheetWrong_3 : decode prog_8_method_61_code 3 = .ok (.invokestatic 78, 3) := by decide +kernel
theorem d_X6_sheetWrong_6 : decode prog_8_method_61_code 6 = .ok (.ifCond .ne 6, 3) := by decide +kernel
theorem d_X6_sheetWrong_9 : decode prog_8_method_61_code 9 = .ok (.bipush (-2), 2) := by decide +kernel
theorem d_X6_sheetWrong_11 : decode prog_8_method_61_code 11 = .ok (.ireturn, 1) := by decide +kernel
theorem d_X6_sheetWrong_12 : decode prog_8_method_61_code 12 = .ok (.aload_n 0, 1) := by decide +kernel
theorem d_X6_sheetWrong_13 : decode prog_8_method_61_code 13 = .ok (.getfield 37, 3) := by decide +kernel
theorem d_X6_sheetWrong_16 : decode prog_8_method_61_code 16 = .ok (.iload_n 1, 1) := by decide +kernel
theorem d_X6_sheetWrong_17 : decode prog_8_method_61_code 17 = .ok (.iaload, 1) := by decide +kernel
theorem d_X6_sheetWrong_18 : decode prog_8_method_61_code 18 = .ok (.iconst (-1), 1) := by decide +kernel
theorem d_X6_sheetWrong_19 : decode prog_8_method_61_code 19 = .ok (.if_icmp .ne 6, 3) := by decide +kernel
theorem d_X6_sheetWrong_22 : decode prog_8_method_61_code 22 = .ok (.bipush (-11), 2) := by decide +kernel
theorem d_X6_sheetWrong_24 : decode prog_8_method_61_code 24 = .ok (.ireturn, 1) := by decide +kernel
theorem d_X6_sheetWrong_25 : decode prog_8_method_61_code 25 = .ok (.aload_n 0, 1) := by decide +kernel
theorem d_X6_sheetWrong_26 : decode prog_8_method_61_code 26 = .ok (.getfield 40, 3) := by decide +kernel
theorem d_X6_sheetWrong_29 : decode prog_8_method_61_code 29 = .ok (.iload_n 1, 1) := by decide +kernel
theorem d_X6_sheetWrong_30 : decode prog_8_method_61_code 30 = .ok (.iaload, 1) := by decide +kernel
theorem d_X6_sheetWrong_31 : decode prog_8_method_61_code 31 = .ok (.bipush 20, 2) := by decide +kernel
theorem d_X6_sheetWrong_33 : decode prog_8_method_61_code 33 = .ok (.if_icmp .le 8, 3) := by decide +kernel
theorem d_X6_sheetWrong_36 : decode prog_8_method_61_code 36 = .ok (.bipush (-2), 2) := by decide +kernel
theorem d_X6_sheetWrong_38 : decode prog_8_method_61_code 38 = .ok (.goto 4, 3) := by decide +kernel
theorem d_X6_sheetWrong_41 : decode prog_8_method_61_code 41 = .ok (.iconst 0, 1) := by decide +kernel
theorem d_X6_sheetWrong_42 : decode prog_8_method_61_code 42 = .ok (.ireturn, 1) := by decide +kernel
def f_X6_sheetWrong (κ : it_KK) (x1 : Int32) (S : it_SS) : Option (Int32 × it_SS) :=
it_bi (f_X6_in κ x1 0 3 S) (fun r2 S1 =>
if r2 = 0 then
some ((-2), S1)
else
if it_bd x1 4 = true then
if (S1 55 (x1 : Int32).toNatClampNeg) = (-1) then
some ((-11), S1)
else
if (S1 56 (x1 : Int32).toNatClampNeg) ≤ 20 then
some (0, S1)
else
some ((-2), S1)
else none)
set_option maxHeartbeats 4000000 in
set_option maxRecDepth 100000 in
theorem L_X6_sheetWrong {g : it_G} {l : Launch} {κ : it_KK} {x1 : Int32} (hm : it_wm κ) {S : it_SS} {P : Int32 → it_SS → Prop} (h : it_ok (f_X6_sheetWrong κ x1 S) P) : it_Cn g l 2 it_m_X6_sheetWrong [.ref 45, .int x1] κ S (it_pi κ P) := by
  refine it_Cn.of (by decide +kernel) (Nat.le_of_ble_eq_true rfl) ?_
  rw [f_X6_sheetWrong] at h
  show it_Ev g l 2 it_m_X6_sheetWrong 0 0 0 [some (.ref 45), some (.int x1)] [] κ S (it_pi κ P)
  refine ev_iload_n d_X6_sheetWrong_0 rfl ?_
  refine ev_iconst d_X6_sheetWrong_1 kv_iconst_0 ?_
  refine ev_iconst d_X6_sheetWrong_2 kv_iconst_3 ?_
  refine ev_callS (M' := it_m_X6_in) (d' := 1) (As := [.int x1, .int 0, .int 3]) d_X6_sheetWrong_3 ml_IcedTooSoonModel_78 rfl rfl (Nat.le_of_ble_eq_true rfl) (by decide) (by decide) (by decide) (L_X6_in  (it_ok_b h)) (fun _ _ _ _ q => by cases q.1; rfl) ?_
  rintro _ _ S1 ⟨rfl, r2, rfl, h⟩
  show it_Ev g l 2 it_m_X6_sheetWrong 0 0 6 [some (.ref 45), some (.int x1)] [.int r2] κ S1 (it_pi κ P)
  refine ev_if_ne (tgt := 12) d_X6_sheetWrong_6 (by decide) (fun hc3 => ?_) (fun hc3 => ?_)
  · have h := it_ok_f h hc3
    refine ev_aload_n d_X6_sheetWrong_12 rfl ?_
    refine ev_getRr (r := 55) rfl d_X6_sheetWrong_13 fl_IcedTooSoonModel_37 hm.1 rfl ?_
    refine ev_iload_n d_X6_sheetWrong_16 rfl ?_
    obtain ⟨hb4, h⟩ := it_ok_g h
    refine ev_iald d_X6_sheetWrong_17 (hm).2.2.2.2.2.2.2.2.2.2.1 (it_bd_in hb4) ?_
    refine ev_iconst d_X6_sheetWrong_18 kv_iconst_m1 ?_
    refine ev_icmp_ne (tgt := 25) d_X6_sheetWrong_19 (by decide) (fun hc5 => ?_) (fun hc5 => ?_)
    · have h := it_ok_f h hc5
      refine ev_aload_n d_X6_sheetWrong_25 rfl ?_
      refine ev_getRr (r := 56) rfl d_X6_sheetWrong_26 fl_IcedTooSoonModel_40 hm.1 rfl ?_
      refine ev_iload_n d_X6_sheetWrong_29 rfl ?_
      refine ev_iald d_X6_sheetWrong_30 (hm).2.2.2.2.2.2.2.2.2.2.2.1 (it_bd_in hb4) ?_
      refine ev_bipush d_X6_sheetWrong_31 kv_bipush_20 ?_
      refine ev_icmp_le (tgt := 41) d_X6_sheetWrong_33 (by decide) (fun hc6 => ?_) (fun hc6 => ?_)
      · have h := it_ok_t h hc6
        refine ev_iconst d_X6_sheetWrong_41 kv_iconst_0 ?_
        exact ev_ret (v := some (.int _)) ⟨d_X6_sheetWrong_42, _, rfl, rfl⟩ (by decide) (by decide) ⟨rfl, _, rfl, it_ok_r h⟩
      · have h := it_ok_f h hc6
        refine ev_bipush d_X6_sheetWrong_36 kv_bipush_m2 ?_
        refine ev_goto (tgt := 42) d_X6_sheetWrong_38 (by decide) ?_
        exact ev_ret (v := some (.int _)) ⟨d_X6_sheetWrong_42, _, rfl, rfl⟩ (by decide) (by decide) ⟨rfl, _, rfl, it_ok_r h⟩
    · have h := it_ok_t h hc5
      refine ev_bipush d_X6_sheetWrong_22 kv_bipush_m11 ?_
      exact ev_ret (v := some (.int _)) ⟨d_X6_sheetWrong_24, _, rfl, rfl⟩ (by decide) (by decide) ⟨rfl, _, rfl, it_ok_r h⟩
  · have h := it_ok_t h hc3
    refine ev_bipush d_X6_sheetWrong_9 kv_bipush_m2 ?_
    exact ev_ret (v := some (.int _)) ⟨d_X6_sheetWrong_11, _, rfl, rfl⟩ (by decide) (by decide) ⟨rfl, _, rfl, it_ok_r h⟩
theorem d_X6_toldWrong_0 : decode prog_8_method_62_code 0 = .ok (.aload_n 0, 1) := by decide +kernel
theorem d_X6_toldWrong_1 : decode prog_8_method_62_code 1 = .ok (.iload_n 1, 1) := by decide +kernel
theorem d_X6_toldWrong_2 : decode prog_8_method_62_code 2 = .ok (.invokevirtual 231, 3) := by decide +kernel
theorem d_X6_toldWrong_5 : decode prog_8_method_62_code 5 = .ok (.istore_n 3, 1) := by decide +kernel
theorem d_X6_toldWrong_6 : decode prog_8_method_62_code 6 = .ok (.iload_n 3, 1) := by decide +kernel
theorem d_X6_toldWrong_7 : decode prog_8_method_62_code 7 = .ok (.ifCond .eq 7, 3) := by decide +kernel
theorem d_X6_toldWrong_10 : decode prog_8_method_62_code 10 = .ok (.iload_n 3, 1) := by decide +kernel
theorem d_X6_toldWrong_11 : decode prog_8_method_62_code 11 = .ok (.goto 17, 3) := by decide +kernel
theorem d_X6_toldWrong_14 : decode prog_8_method_62_code 14 = .ok (.aload_n 0, 1) := by decide +kernel
theorem d_X6_toldWrong_15 : decode prog_8_method_62_code 15 = .ok (.iload_n 2, 1) := by decide +kernel
theorem d_X6_toldWrong_16 : decode prog_8_method_62_code 16 = .ok (.invokevirtual 173, 3) := by decide +kernel
theorem d_X6_toldWrong_19 : decode prog_8_method_62_code 19 = .ok (.ifCond .eq 7, 3) := by decide +kernel
theorem d_X6_toldWrong_22 : decode prog_8_method_62_code 22 = .ok (.iconst 0, 1) := by decide +kernel
theorem d_X6_toldWrong_23 : decode prog_8_method_62_code 23 = .ok (.goto 5, 3) := by decide +kernel
theorem d_X6_toldWrong_26 : decode prog_8_method_62_code 26 = .ok (.bipush (-5), 2) := by decide +kernel
theorem d_X6_toldWrong_28 : decode prog_8_method_62_code 28 = .ok (.ireturn, 1) := by decide +kernel
def f_X6_toldWrong (κ : it_KK) (x1 : Int32) (x2 : Int32) (S : it_SS) : Option (Int32 × it_SS) :=
it_bi (f_X6_sheetWrong κ x1 S) (fun r2 S1 =>
if r2 = 0 then
it_bi (f_X6_isOne κ x2 S1) (fun r5 S4 =>
if r5 = 0 then
some ((-5), S4)
else
some (0, S4))
else
some (r2, S1))
set_option maxHeartbeats 4000000 in
set_option maxRecDepth 100000 in
theorem L_X6_toldWrong {g : it_G} {l : Launch} {κ : it_KK} {x1 : Int32} {x2 : Int32} (hm : it_wm κ) {S : it_SS} {P : Int32 → it_SS → Prop} (h : it_ok (f_X6_toldWrong κ x1 x2 S) P) : it_Cn g l 3 it_m_X6_toldWrong [.ref 45, .int x1, .int x2] κ S (it_pi κ P) := by
  refine it_Cn.of (by decide +kernel) (Nat.le_of_ble_eq_true rfl) ?_
  rw [f_X6_toldWrong] at h
  show it_Ev g l 3 it_m_X6_toldWrong 0 0 0 [some (.ref 45), some (.int x1), some (.int x2), none] [] κ S (it_pi κ P)
  refine ev_aload_n d_X6_toldWrong_0 rfl ?_
  refine ev_iload_n d_X6_toldWrong_1 rfl ?_
  refine ev_callV (ci := 6) (b := 45) (M' := it_m_X6_sheetWrong) (d' := 2) (As := [.int x1]) d_X6_toldWrong_2 ml_IcedTooSoonModel_231 hm.1.1 hm.1.2.1 ⟨_, rfl, rfl⟩ rfl rfl (Nat.le_of_ble_eq_true rfl) (by decide) (by decide) (by decide) (L_X6_sheetWrong hm (it_ok_b h)) (fun _ _ _ _ q => by cases q.1; rfl) ?_
  rintro _ _ S1 ⟨rfl, r2, rfl, h⟩
  show it_Ev g l 3 it_m_X6_toldWrong 0 0 5 [some (.ref 45), some (.int x1), some (.int x2), none] [.int r2] κ S1 (it_pi κ P)
  refine ev_istore_n d_X6_toldWrong_5 (by decide) ?_
  show it_Ev g l 3 it_m_X6_toldWrong 0 0 6 [some (.ref 45), some (.int x1), some (.int x2), some (.int r2)] [] κ S1 (it_pi κ P)
  refine ev_iload_n d_X6_toldWrong_6 rfl ?_
  refine ev_if_eq (tgt := 14) d_X6_toldWrong_7 (by decide) (fun hc3 => ?_) (fun hc3 => ?_)
  · have h := it_ok_t h hc3
    refine ev_aload_n d_X6_toldWrong_14 rfl ?_
    refine ev_iload_n d_X6_toldWrong_15 rfl ?_
    refine ev_callV (ci := 6) (b := 45) (M' := it_m_X6_isOne) (d' := 2) (As := [.int x2]) d_X6_toldWrong_16 ml_IcedTooSoonModel_173 hm.1.1 hm.1.2.1 ⟨_, rfl, rfl⟩ rfl rfl (Nat.le_of_ble_eq_true rfl) (by decide) (by decide) (by decide) (L_X6_isOne hm (it_ok_b h)) (fun _ _ _ _ q => by cases q.1; rfl) ?_
    rintro _ _ S4 ⟨rfl, r5, rfl, h⟩
    show it_Ev g l 3 it_m_X6_toldWrong 0 0 19 [some (.ref 45), some (.int x1), some (.int x2), some (.int r2)] [.int r5] κ S4 (it_pi κ P)
    refine ev_if_eq (tgt := 26) d_X6_toldWrong_19 (by decide) (fun hc6 => ?_) (fun hc6 => ?_)
    · have h := it_ok_t h hc6
      refine ev_bipush d_X6_toldWrong_26 kv_bipush_m5 ?_
      exact ev_ret (v := some (.int _)) ⟨d_X6_toldWrong_28, _, rfl, rfl⟩ (by decide) (by decide) ⟨rfl, _, rfl, it_ok_r h⟩
    · have h := it_ok_f h hc6
      refine ev_iconst d_X6_toldWrong_22 kv_iconst_0 ?_
      refine ev_goto (tgt := 28) d_X6_toldWrong_23 (by decide) ?_
      exact ev_ret (v := some (.int _)) ⟨d_X6_toldWrong_28, _, rfl, rfl⟩ (by decide) (by decide) ⟨rfl, _, rfl, it_ok_r h⟩
  · have h := it_ok_f h hc3
    refine ev_iload_n d_X6_toldWrong_10 rfl ?_
    refine ev_goto (tgt := 28) d_X6_toldWrong_11 (by decide) ?_
    exact ev_ret (v := some (.int _)) ⟨d_X6_toldWrong_28, _, rfl, rfl⟩ (by decide) (by decide) ⟨rfl, _, rfl, it_ok_r h⟩
theorem d_X6_unlike_0 : decode prog_8_method_63_code 0 = .ok (.iconst (-1), 1) := by decide +kernel
theorem d_X6_unlike_1 : decode prog_8_method_63_code 1 = .ok (.istore_n 3, 1) := by decide +kernel
theorem d_X6_unlike_2 : decode prog_8_method_63_code 2 = .ok (.aload_n 0, 1) := by decide +kernel
theorem d_X6_unlike_3 : decode prog_8_method_63_code 3 = .ok (.invokevirtual 194, 3) := by decide +kernel
theorem d_X6_unlike_6 : decode prog_8_method_63_code 6 = .ok (.iconst 0, 1) := by decide +kernel
theorem d_X6_unlike_7 : decode prog_8_method_63_code 7 = .ok (.istore 4, 2) := by decide +kernel
theorem d_X6_unlike_9 : decode prog_8_method_63_code 9 = .ok (.iload 4, 2) := by decide +kernel
theorem d_X6_unlike_11 : decode prog_8_method_63_code 11 = .ok (.aload_n 0, 1) := by decide +kernel
theorem d_X6_unlike_12 : decode prog_8_method_63_code 12 = .ok (.getfield 40, 3) := by decide +kernel
theorem d_X6_unlike_15 : decode prog_8_method_63_code 15 = .ok (.iload_n 1, 1) := by decide +kernel
theorem d_X6_unlike_16 : decode prog_8_method_63_code 16 = .ok (.iaload, 1) := by decide +kernel
theorem d_X6_unlike_17 : decode prog_8_method_63_code 17 = .ok (.if_icmp .ge 49, 3) := by decide +kernel
theorem d_X6_unlike_20 : decode prog_8_method_63_code 20 = .ok (.iload_n 3, 1) := by decide +kernel
theorem d_X6_unlike_21 : decode prog_8_method_63_code 21 = .ok (.iconst (-1), 1) := by decide +kernel
theorem d_X6_unlike_22 : decode prog_8_method_63_code 22 = .ok (.if_icmp .ne 44, 3) := by decide +kernel
theorem d_X6_unlike_25 : decode prog_8_method_63_code 25 = .ok (.aload_n 0, 1) := by decide +kernel
theorem d_X6_unlike_26 : decode prog_8_method_63_code 26 = .ok (.invokevirtual 191, 3) := by decide +kernel
theorem d_X6_unlike_29 : decode prog_8_method_63_code 29 = .ok (.pop, 1) := by decide +kernel
theorem d_X6_unlike_30 : decode prog_8_method_63_code 30 = .ok (.aload_n 0, 1) := by decide +kernel
theorem d_X6_unlike_31 : decode prog_8_method_63_code 31 = .ok (.getfield 43, 3) := by decide +kernel
theorem d_X6_unlike_34 : decode prog_8_method_63_code 34 = .ok (.bipush 40, 2) := by decide +kernel
theorem d_X6_unlike_36 : decode prog_8_method_63_code 36 = .ok (.iload_n 1, 1) := by decide +kernel
theorem d_X6_unlike_37 : decode prog_8_method_63_code 37 = .ok (.imul, 1) := by decide +kernel
theorem d_X6_unlike_38 : decode prog_8_method_63_code 38 = .ok (.iload 4, 2) := by decide +kernel
theorem d_X6_unlike_40 : decode prog_8_method_63_code 40 = .ok (.iadd, 1) := by decide +kernel
theorem d_X6_unlike_41 : decode prog_8_method_63_code 41 = .ok (.iaload, 1) := by decide +kernel
theorem d_X6_unlike_42 : decode prog_8_method_63_code 42 = .ok (.aload_n 0, 1) := by decide +kernel
theorem d_X6_unlike_43 : decode prog_8_method_63_code 43 = .ok (.getfield 16, 3) := by decide +kernel
theorem d_X6_unlike_46 : decode prog_8_method_63_code 46 = .ok (.iconst 2, 1) := by decide +kernel
theorem d_X6_unlike_47 : decode prog_8_method_63_code 47 = .ok (.iload_n 2, 1) := by decide +kernel
theorem d_X6_unlike_48 : decode prog_8_method_63_code 48 = .ok (.imul, 1) := by decide +kernel
theorem d_X6_unlike_49 : decode prog_8_method_63_code 49 = .ok (.iaload, 1) := by decide +kernel
theorem d_X6_unlike_50 : decode prog_8_method_63_code 50 = .ok (.if_icmp .ne 7, 3) := by decide +kernel
theorem d_X6_unlike_53 : decode prog_8_method_63_code 53 = .ok (.iconst (-1), 1) := by decide +kernel
theorem d_X6_unlike_54 : decode prog_8_method_63_code 54 = .ok (.goto 5, 3) := by decide +kernel
theorem d_X6_unlike_57 : decode prog_8_method_63_code 57 = .ok (.iload 4, 2) := by decide +kernel
theorem d_X6_unlike_59 : decode prog_8_method_63_code 59 = .ok (.istore_n 3, 1) := by decide +kernel
theorem d_X6_unlike_60 : decode prog_8_method_63_code 60 = .ok (.iinc 4 1, 3) := by decide +kernel
theorem d_X6_unlike_63 : decode prog_8_method_63_code 63 = .ok (.goto (-54), 3) := by decide +kernel
theorem d_X6_unlike_66 : decode prog_8_method_63_code 66 = .ok (.aload_n 0, 1) := by decide +kernel
theorem d_X6_unlike_67 : decode prog_8_method_63_code 67 = .ok (.invokevirtual 197, 3) := by decide +kernel
theorem d_X6_unlike_70 : decode prog_8_method_63_code 70 = .ok (.iload_n 3, 1) := by decide +kernel
theorem d_X6_unlike_71 : decode prog_8_method_63_code 71 = .ok (.ireturn, 1) := by decide +kernel
def lp_X6_unlike_9 (κ : it_KK) (x1 : Int32) (x2 : Int32) (k9 : (Int32 → it_SS → Option (Int32 × it_SS))) : Nat → Int32 → Int32 → it_SS → Option (Int32 × it_SS)
  | 0, _, _, _ => none
  | n9 + 1, v3, v4, S => if it_bd x1 4 = true then
if (S 56 (x1 : Int32).toNatClampNeg) ≤ v4 then
k9 v3 S
else
if v3 = (-1) then
it_bi (f_X6_dayOf κ  S) (fun r7 S6 =>
if it_bd ((40 * x1) + v4) 160 = true then
if it_bd (2 * x2) 12 = true then
if (S6 57 (((40 * x1) + v4) : Int32).toNatClampNeg) = (S6 48 ((2 * x2) : Int32).toNatClampNeg) then
lp_X6_unlike_9 κ x1 x2 k9 n9 (-1) (v4 + 1) S6
else
lp_X6_unlike_9 κ x1 x2 k9 n9 v4 (v4 + 1) S6
else none
else none)
else
k9 v3 S
else none
def f_X6_unlike (κ : it_KK) (x1 : Int32) (x2 : Int32) (S : it_SS) : Option (Int32 × it_SS) :=
it_bi (f_X6_keeps κ  S) (fun _ S1 =>
lp_X6_unlike_9 κ x1 x2 (fun v11 S12 =>
it_bi (f_X6_lays κ  S12) (fun _ S13 =>
some (v11, S13))) it_FU (-1) 0 S1)
set_option maxHeartbeats 4000000 in
set_option maxRecDepth 100000 in
theorem Llp_X6_unlike_9 {g : it_G} {l : Launch} {κ : it_KK} {x1 : Int32} {x2 : Int32} (hm : it_wm κ) {P : Int32 → it_SS → Prop} {k9 : (Int32 → it_SS → Option (Int32 × it_SS))} (hk9 : ∀ (v3 : Int32) (S : it_SS), it_ok (k9 v3 S) P → it_Ev g l 6 it_m_X6_unlike 0 0 66 [some (.ref 45), none, none, some (.int v3), none] [] κ S (it_pi κ P)) : ∀ (n : Nat) (v3 : Int32) (v4 : Int32) (S : it_SS), it_ok (lp_X6_unlike_9 κ x1 x2 k9 n v3 v4 S) P → it_Ev g l 6 it_m_X6_unlike 0 0 9 [some (.ref 45), some (.int x1), some (.int x2), some (.int v3), some (.int v4)] [] κ S (it_pi κ P) := by
  intro n
  induction n with
  | zero =>
    intro _ _ _ h
    exact (it_ok_n h).elim
  | succ n9 ih9 =>
    intro v3 v4 S h
    rw [lp_X6_unlike_9] at h
    refine ev_iload d_X6_unlike_9 rfl ?_
    refine ev_aload_n d_X6_unlike_11 rfl ?_
    refine ev_getRr (r := 56) rfl d_X6_unlike_12 fl_IcedTooSoonModel_40 hm.1 rfl ?_
    refine ev_iload_n d_X6_unlike_15 rfl ?_
    obtain ⟨hb3, h⟩ := it_ok_g h
    refine ev_iald d_X6_unlike_16 (hm).2.2.2.2.2.2.2.2.2.2.2.1 (it_bd_in hb3) ?_
    refine ev_icmp_ge (tgt := 66) d_X6_unlike_17 (by decide) (fun hc4 => ?_) (fun hc4 => ?_)
    · have h := it_ok_t h hc4
      refine ev_keep [true, false, false, true, false] ?_
      exact hk9 _ _ h
    · have h := it_ok_f h hc4
      refine ev_iload_n d_X6_unlike_20 rfl ?_
      refine ev_iconst d_X6_unlike_21 kv_iconst_m1 ?_
      refine ev_icmp_ne (tgt := 66) d_X6_unlike_22 (by decide) (fun hc5 => ?_) (fun hc5 => ?_)
      · have h := it_ok_f h hc5
        refine ev_keep [true, false, false, true, false] ?_
        exact hk9 _ _ h
      · have h := it_ok_t h hc5
        refine ev_aload_n d_X6_unlike_25 rfl ?_
        refine ev_callV (ci := 6) (b := 45) (M' := it_m_X6_dayOf) (d' := 5) (As := []) d_X6_unlike_26 ml_IcedTooSoonModel_191 hm.1.1 hm.1.2.1 ⟨_, rfl, rfl⟩ rfl rfl (Nat.le_of_ble_eq_true rfl) (by decide) (by decide) (by decide) (L_X6_dayOf hm (it_ok_b h)) (fun _ _ _ _ q => by cases q.1; rfl) ?_
        rintro _ _ S6 ⟨rfl, r7, rfl, h⟩
        show it_Ev g l 6 it_m_X6_unlike 0 0 29 [some (.ref 45), some (.int x1), some (.int x2), some (.int v3), some (.int v4)] [.int r7] κ S6 (it_pi κ P)
        refine ev_pop d_X6_unlike_29 rfl ?_
        refine ev_aload_n d_X6_unlike_30 rfl ?_
        refine ev_getRr (r := 57) rfl d_X6_unlike_31 fl_IcedTooSoonModel_43 hm.1 rfl ?_
        refine ev_bipush d_X6_unlike_34 kv_bipush_40 ?_
        refine ev_iload_n d_X6_unlike_36 rfl ?_
        refine ev_imul d_X6_unlike_37 ?_
        refine ev_iload d_X6_unlike_38 rfl ?_
        refine ev_iadd d_X6_unlike_40 ?_
        obtain ⟨hb8, h⟩ := it_ok_g h
        refine ev_iald d_X6_unlike_41 (hm).2.2.2.2.2.2.2.2.2.2.2.2.1 (it_bd_in hb8) ?_
        refine ev_aload_n d_X6_unlike_42 rfl ?_
        refine ev_getRr (r := 48) rfl d_X6_unlike_43 fl_IcedTooSoonModel_16 hm.1 rfl ?_
        refine ev_iconst d_X6_unlike_46 kv_iconst_2 ?_
        refine ev_iload_n d_X6_unlike_47 rfl ?_
        refine ev_imul d_X6_unlike_48 ?_
        obtain ⟨hb9, h⟩ := it_ok_g h
        refine ev_iald d_X6_unlike_49 (hm).2.2.2.1 (it_bd_in hb9) ?_
        refine ev_icmp_ne (tgt := 57) d_X6_unlike_50 (by decide) (fun hc10 => ?_) (fun hc10 => ?_)
        · have h := it_ok_f h hc10
          refine ev_iload d_X6_unlike_57 rfl ?_
          refine ev_istore_n d_X6_unlike_59 (by decide) ?_
          show it_Ev g l 6 it_m_X6_unlike 0 0 60 [some (.ref 45), some (.int x1), some (.int x2), some (.int v4), some (.int v4)] [] κ S6 (it_pi κ P)
          refine ev_iinc d_X6_unlike_60 kv_iconst_1 rfl (by decide) ?_
          show it_Ev g l 6 it_m_X6_unlike 0 0 63 [some (.ref 45), some (.int x1), some (.int x2), some (.int v4), some (.int (v4 + 1))] [] κ S6 (it_pi κ P)
          refine ev_goto (tgt := 9) d_X6_unlike_63 (by decide) ?_
          refine ev_keep [true, true, true, true, true] ?_
          exact ih9 _ _ _ h
        · have h := it_ok_t h hc10
          refine ev_iconst d_X6_unlike_53 kv_iconst_m1 ?_
          refine ev_goto (tgt := 59) d_X6_unlike_54 (by decide) ?_
          refine ev_istore_n d_X6_unlike_59 (by decide) ?_
          show it_Ev g l 6 it_m_X6_unlike 0 0 60 [some (.ref 45), some (.int x1), some (.int x2), some (.int (-1)), some (.int v4)] [] κ S6 (it_pi κ P)
          refine ev_iinc d_X6_unlike_60 kv_iconst_1 rfl (by decide) ?_
          show it_Ev g l 6 it_m_X6_unlike 0 0 63 [some (.ref 45), some (.int x1), some (.int x2), some (.int (-1)), some (.int (v4 + 1))] [] κ S6 (it_pi κ P)
          refine ev_goto (tgt := 9) d_X6_unlike_63 (by decide) ?_
          refine ev_keep [true, true, true, true, true] ?_
          exact ih9 _ _ _ h
set_option maxHeartbeats 4000000 in
set_option maxRecDepth 100000 in
theorem L_X6_unlike {g : it_G} {l : Launch} {κ : it_KK} {x1 : Int32} {x2 : Int32} (hm : it_wm κ) {S : it_SS} {P : Int32 → it_SS → Prop} (h : it_ok (f_X6_unlike κ x1 x2 S) P) : it_Cn g l 6 it_m_X6_unlike [.ref 45, .int x1, .int x2] κ S (it_pi κ P) := by
  refine it_Cn.of (by decide +kernel) (Nat.le_of_ble_eq_true rfl) ?_
  rw [f_X6_unlike] at h
  show it_Ev g l 6 it_m_X6_unlike 0 0 0 [some (.ref 45), some (.int x1), some (.int x2), none, none] [] κ S (it_pi κ P)
  refine ev_iconst d_X6_unlike_0 kv_iconst_m1 ?_
  refine ev_istore_n d_X6_unlike_1 (by decide) ?_
  show it_Ev g l 6 it_m_X6_unlike 0 0 2 [some (.ref 45), some (.int x1), some (.int x2), some (.int (-1)), none] [] κ S (it_pi κ P)
  refine ev_aload_n d_X6_unlike_2 rfl ?_
  refine ev_callV (ci := 6) (b := 45) (M' := it_m_X6_keeps) (d' := 1) (As := []) d_X6_unlike_3 ml_IcedTooSoonModel_194 hm.1.1 hm.1.2.1 ⟨_, rfl, rfl⟩ rfl rfl (Nat.le_of_ble_eq_true rfl) (by decide) (by decide) (by decide) (L_X6_keeps hm (it_ok_b h)) (fun _ _ _ _ q => by cases q.1; rfl) ?_
  rintro _ _ S1 ⟨rfl, rfl, h⟩
  show it_Ev g l 6 it_m_X6_unlike 0 0 6 [some (.ref 45), some (.int x1), some (.int x2), some (.int (-1)), none] [] κ S1 (it_pi κ P)
  refine ev_iconst d_X6_unlike_6 kv_iconst_0 ?_
  refine ev_istore d_X6_unlike_7 (by decide) ?_
  show it_Ev g l 6 it_m_X6_unlike 0 0 9 [some (.ref 45), some (.int x1), some (.int x2), some (.int (-1)), some (.int 0)] [] κ S1 (it_pi κ P)
  refine ev_keep [true, true, true, true, true] ?_
  refine Llp_X6_unlike_9 hm (fun v11 S12 h => ?_) _ _ _ _ h
  show it_Ev g l 6 it_m_X6_unlike 0 0 66 [some (.ref 45), none, none, some (.int v11), none] [] κ S12 (it_pi κ P)
  refine ev_aload_n d_X6_unlike_66 rfl ?_
  refine ev_callV (ci := 6) (b := 45) (M' := it_m_X6_lays) (d' := 1) (As := []) d_X6_unlike_67 ml_IcedTooSoonModel_197 hm.1.1 hm.1.2.1 ⟨_, rfl, rfl⟩ rfl rfl (Nat.le_of_ble_eq_true rfl) (by decide) (by decide) (by decide) (L_X6_lays hm (it_ok_b h)) (fun _ _ _ _ q => by cases q.1; rfl) ?_
  rintro _ _ S13 ⟨rfl, rfl, h⟩
  show it_Ev g l 6 it_m_X6_unlike 0 0 70 [some (.ref 45), none, none, some (.int v11), none] [] κ S13 (it_pi κ P)
  refine ev_iload_n d_X6_unlike_70 rfl ?_
  exact ev_ret (v := some (.int _)) ⟨d_X6_unlike_71, _, rfl, rfl⟩ (by decide) (by decide) ⟨rfl, _, rfl, it_ok_r h⟩
theorem d_X6_judge_0 : decode prog_8_method_64_code 0 = .ok (.aload_n 0, 1) := by decide +kernel
theorem d_X6_judge_1 : decode prog_8_method_64_code 1 = .ok (.iload_n 1, 1) := by decide +kernel
theorem d_X6_judge_2 : decode prog_8_method_64_code 2 = .ok (.iload_n 2, 1) := by decide +kernel
theorem d_X6_judge_3 : decode prog_8_method_64_code 3 = .ok (.invokevirtual 234, 3) := by decide +kernel
theorem d_X6_judge_6 : decode prog_8_method_64_code 6 = .ok (.istore_n 3, 1) := by decide +kernel
theorem d_X6_judge_7 : decode prog_8_method_64_code 7 = .ok (.iload_n 3, 1) := by decide +kernel
theorem d_X6_judge_8 : decode prog_8_method_64_code 8 = .ok (.ifCond .ne 12, 3) := by decide +kernel
theorem d_X6_judge_11 : decode prog_8_method_64_code 11 = .ok (.aload_n 0, 1) := by decide +kernel
theorem d_X6_judge_12 : decode prog_8_method_64_code 12 = .ok (.iload_n 1, 1) := by decide +kernel
theorem d_X6_judge_13 : decode prog_8_method_64_code 13 = .ok (.iload_n 2, 1) := by decide +kernel
theorem d_X6_judge_14 : decode prog_8_method_64_code 14 = .ok (.invokevirtual 237, 3) := by decide +kernel
theorem d_X6_judge_17 : decode prog_8_method_64_code 17 = .ok (.goto 4, 3) := by decide +kernel
theorem d_X6_judge_20 : decode prog_8_method_64_code 20 = .ok (.iload_n 3, 1) := by decide +kernel
theorem d_X6_judge_21 : decode prog_8_method_64_code 21 = .ok (.ireturn, 1) := by decide +kernel
def f_X6_judge (κ : it_KK) (x1 : Int32) (x2 : Int32) (S : it_SS) : Option (Int32 × it_SS) :=
it_bi (f_X6_toldWrong κ x1 x2 S) (fun r2 S1 =>
if r2 = 0 then
it_bi (f_X6_unlike κ x1 x2 S1) (fun r5 S4 =>
some (r5, S4))
else
some (r2, S1))
set_option maxHeartbeats 4000000 in
set_option maxRecDepth 100000 in
theorem L_X6_judge {g : it_G} {l : Launch} {κ : it_KK} {x1 : Int32} {x2 : Int32} (hm : it_wm κ) {S : it_SS} {P : Int32 → it_SS → Prop} (h : it_ok (f_X6_judge κ x1 x2 S) P) : it_Cn g l 7 it_m_X6_judge [.ref 45, .int x1, .int x2] κ S (it_pi κ P) := by
  refine it_Cn.of (by decide +kernel) (Nat.le_of_ble_eq_true rfl) ?_
  rw [f_X6_judge] at h
  show it_Ev g l 7 it_m_X6_judge 0 0 0 [some (.ref 45), some (.int x1), some (.int x2), none] [] κ S (it_pi κ P)
  refine ev_aload_n d_X6_judge_0 rfl ?_
  refine ev_iload_n d_X6_judge_1 rfl ?_
  refine ev_iload_n d_X6_judge_2 rfl ?_
  refine ev_callV (ci := 6) (b := 45) (M' := it_m_X6_toldWrong) (d' := 3) (As := [.int x1, .int x2]) d_X6_judge_3 ml_IcedTooSoonModel_234 hm.1.1 hm.1.2.1 ⟨_, rfl, rfl⟩ rfl rfl (Nat.le_of_ble_eq_true rfl) (by decide) (by decide) (by decide) (L_X6_toldWrong hm (it_ok_b h)) (fun _ _ _ _ q => by cases q.1; rfl) ?_
  rintro _ _ S1 ⟨rfl, r2, rfl, h⟩
  show it_Ev g l 7 it_m_X6_judge 0 0 6 [some (.ref 45), some (.int x1), some (.int x2), none] [.int r2] κ S1 (it_pi κ P)
  refine ev_istore_n d_X6_judge_6 (by decide) ?_
  show it_Ev g l 7 it_m_X6_judge 0 0 7 [some (.ref 45), some (.int x1), some (.int x2), some (.int r2)] [] κ S1 (it_pi κ P)
  refine ev_iload_n d_X6_judge_7 rfl ?_
  refine ev_if_ne (tgt := 20) d_X6_judge_8 (by decide) (fun hc3 => ?_) (fun hc3 => ?_)
  · have h := it_ok_f h hc3
    refine ev_iload_n d_X6_judge_20 rfl ?_
    exact ev_ret (v := some (.int _)) ⟨d_X6_judge_21, _, rfl, rfl⟩ (by decide) (by decide) ⟨rfl, _, rfl, it_ok_r h⟩
  · have h := it_ok_t h hc3
    refine ev_aload_n d_X6_judge_11 rfl ?_
    refine ev_iload_n d_X6_judge_12 rfl ?_
    refine ev_iload_n d_X6_judge_13 rfl ?_
    refine ev_callV (ci := 6) (b := 45) (M' := it_m_X6_unlike) (d' := 6) (As := [.int x1, .int x2]) d_X6_judge_14 ml_IcedTooSoonModel_237 hm.1.1 hm.1.2.1 ⟨_, rfl, rfl⟩ rfl rfl (Nat.le_of_ble_eq_true rfl) (by decide) (by decide) (by decide) (L_X6_unlike hm (it_ok_b h)) (fun _ _ _ _ q => by cases q.1; rfl) ?_
    rintro _ _ S4 ⟨rfl, r5, rfl, h⟩
    show it_Ev g l 7 it_m_X6_judge 0 0 17 [some (.ref 45), some (.int x1), some (.int x2), some (.int r2)] [.int r5] κ S4 (it_pi κ P)
    refine ev_goto (tgt := 21) d_X6_judge_17 (by decide) ?_
    exact ev_ret (v := some (.int _)) ⟨d_X6_judge_21, _, rfl, rfl⟩ (by decide) (by decide) ⟨rfl, _, rfl, it_ok_r h⟩
theorem d_X6_kinds_0 : decode prog_8_method_65_code 0 = .ok (.aload_n 0, 1) := by decide +kernel
theorem d_X6_kinds_1 : decode prog_8_method_65_code 1 = .ok (.iload_n 1, 1) := by decide +kernel
theorem d_X6_kinds_2 : decode prog_8_method_65_code 2 = .ok (.iload_n 2, 1) := by decide +kernel
theorem d_X6_kinds_3 : decode prog_8_method_65_code 3 = .ok (.invokevirtual 234, 3) := by decide +kernel
theorem d_X6_kinds_6 : decode prog_8_method_65_code 6 = .ok (.istore 4, 2) := by decide +kernel
theorem d_X6_kinds_8 : decode prog_8_method_65_code 8 = .ok (.iload 4, 2) := by decide +kernel
theorem d_X6_kinds_10 : decode prog_8_method_65_code 10 = .ok (.ifCond .eq 6, 3) := by decide +kernel
theorem d_X6_kinds_13 : decode prog_8_method_65_code 13 = .ok (.iload 4, 2) := by decide +kernel
theorem d_X6_kinds_15 : decode prog_8_method_65_code 15 = .ok (.ireturn, 1) := by decide +kernel
theorem d_X6_kinds_16 : decode prog_8_method_65_code 16 = .ok (.iload_n 3, 1) := by decide +kernel
theorem d_X6_kinds_17 : decode prog_8_method_65_code 17 = .ok (.iconst 0, 1) := by decide +kernel
theorem d_X6_kinds_18 : decode prog_8_method_65_code 18 = .ok (.iconst 1, 1) := by decide +kernel
theorem d_X6_kinds_19 : decode prog_8_method_65_code 19 = .ok (.invokestatic 78, 3) := by decide +kernel
theorem d_X6_kinds_22 : decode prog_8_method_65_code 22 = .ok (.ifCond .ne 6, 3) := by decide +kernel
theorem d_X6_kinds_25 : decode prog_8_method_65_code 25 = .ok (.bipush (-7), 2) := by decide +kernel
theorem d_X6_kinds_27 : decode prog_8_method_65_code 27 = .ok (.ireturn, 1) := by decide +kernel
theorem d_X6_kinds_28 : decode prog_8_method_65_code 28 = .ok (.aload_n 0, 1) := by decide +kernel
theorem d_X6_kinds_29 : decode prog_8_method_65_code 29 = .ok (.getfield 7, 3) := by decide +kernel
theorem d_X6_kinds_32 : decode prog_8_method_65_code 32 = .ok (.iload_n 2, 1) := by decide +kernel
theorem d_X6_kinds_33 : decode prog_8_method_65_code 33 = .ok (.iaload, 1) := by decide +kernel
theorem d_X6_kinds_34 : decode prog_8_method_65_code 34 = .ok (.istore 5, 2) := by decide +kernel
theorem d_X6_kinds_36 : decode prog_8_method_65_code 36 = .ok (.aload_n 0, 1) := by decide +kernel
theorem d_X6_kinds_37 : decode prog_8_method_65_code 37 = .ok (.getfield 13, 3) := by decide +kernel
theorem d_X6_kinds_40 : decode prog_8_method_65_code 40 = .ok (.iload_n 2, 1) := by decide +kernel
theorem d_X6_kinds_41 : decode prog_8_method_65_code 41 = .ok (.iaload, 1) := by decide +kernel
theorem d_X6_kinds_42 : decode prog_8_method_65_code 42 = .ok (.istore 6, 2) := by decide +kernel
theorem d_X6_kinds_44 : decode prog_8_method_65_code 44 = .ok (.iconst 0, 1) := by decide +kernel
theorem d_X6_kinds_45 : decode prog_8_method_65_code 45 = .ok (.istore 7, 2) := by decide +kernel
theorem d_X6_kinds_47 : decode prog_8_method_65_code 47 = .ok (.iconst 0, 1) := by decide +kernel
theorem d_X6_kinds_48 : decode prog_8_method_65_code 48 = .ok (.istore 8, 2) := by decide +kernel
theorem d_X6_kinds_50 : decode prog_8_method_65_code 50 = .ok (.iload 8, 2) := by decide +kernel
theorem d_X6_kinds_52 : decode prog_8_method_65_code 52 = .ok (.iload_n 3, 1) := by decide +kernel
theorem d_X6_kinds_53 : decode prog_8_method_65_code 53 = .ok (.ifCond .ne 8, 3) := by decide +kernel
theorem d_X6_kinds_56 : decode prog_8_method_65_code 56 = .ok (.bipush 6, 2) := by decide +kernel
theorem d_X6_kinds_58 : decode prog_8_method_65_code 58 = .ok (.goto 5, 3) := by decide +kernel
theorem d_X6_kinds_61 : decode prog_8_method_65_code 61 = .ok (.bipush 10, 2) := by decide +kernel
theorem d_X6_kinds_63 : decode prog_8_method_65_code 63 = .ok (.if_icmp .ge 67, 3) := by decide +kernel
theorem d_X6_kinds_66 : decode prog_8_method_65_code 66 = .ok (.aload_n 0, 1) := by decide +kernel
theorem d_X6_kinds_67 : decode prog_8_method_65_code 67 = .ok (.getfield 7, 3) := by decide +kernel
theorem d_X6_kinds_70 : decode prog_8_method_65_code 70 = .ok (.iload_n 2, 1) := by decide +kernel
theorem d_X6_kinds_71 : decode prog_8_method_65_code 71 = .ok (.iload_n 3, 1) := by decide +kernel
theorem d_X6_kinds_72 : decode prog_8_method_65_code 72 = .ok (.ifCond .ne 8, 3) := by decide +kernel
theorem d_X6_kinds_75 : decode prog_8_method_65_code 75 = .ok (.iload 8, 2) := by decide +kernel
theorem d_X6_kinds_77 : decode prog_8_method_65_code 77 = .ok (.goto 5, 3) := by decide +kernel
theorem d_X6_kinds_80 : decode prog_8_method_65_code 80 = .ok (.iload 5, 2) := by decide +kernel
theorem d_X6_kinds_82 : decode prog_8_method_65_code 82 = .ok (.iastore, 1) := by decide +kernel
theorem d_X6_kinds_83 : decode prog_8_method_65_code 83 = .ok (.aload_n 0, 1) := by decide +kernel
theorem d_X6_kinds_84 : decode prog_8_method_65_code 84 = .ok (.getfield 13, 3) := by decide +kernel
theorem d_X6_kinds_87 : decode prog_8_method_65_code 87 = .ok (.iload_n 2, 1) := by decide +kernel
theorem d_X6_kinds_88 : decode prog_8_method_65_code 88 = .ok (.iload_n 3, 1) := by decide +kernel
theorem d_X6_kinds_89 : decode prog_8_method_65_code 89 = .ok (.iconst 1, 1) := by decide +kernel
theorem d_X6_kinds_90 : decode prog_8_method_65_code 90 = .ok (.if_icmp .ne 8, 3) := by decide +kernel
theorem d_X6_kinds_93 : decode prog_8_method_65_code 93 = .ok (.iload 8, 2) := by decide +kernel
theorem d_X6_kinds_95 : decode prog_8_method_65_code 95 = .ok (.goto 5, 3) := by decide +kernel
theorem d_X6_kinds_98 : decode prog_8_method_65_code 98 = .ok (.iload 6, 2) := by decide +kernel
theorem d_X6_kinds_100 : decode prog_8_method_65_code 100 = .ok (.iastore, 1) := by decide +kernel
theorem d_X6_kinds_101 : decode prog_8_method_65_code 101 = .ok (.iload 7, 2) := by decide +kernel
theorem d_X6_kinds_103 : decode prog_8_method_65_code 103 = .ok (.aload_n 0, 1) := by decide +kernel
theorem d_X6_kinds_104 : decode prog_8_method_65_code 104 = .ok (.iload_n 1, 1) := by decide +kernel
theorem d_X6_kinds_105 : decode prog_8_method_65_code 105 = .ok (.iload_n 2, 1) := by decide +kernel
theorem d_X6_kinds_106 : decode prog_8_method_65_code 106 = .ok (.invokevirtual 237, 3) := by decide +kernel
theorem d_X6_kinds_109 : decode prog_8_method_65_code 109 = .ok (.iconst (-1), 1) := by decide +kernel
theorem d_X6_kinds_110 : decode prog_8_method_65_code 110 = .ok (.if_icmp .ne 10, 3) := by decide +kernel
theorem d_X6_kinds_113 : decode prog_8_method_65_code 113 = .ok (.iconst 1, 1) := by decide +kernel
theorem d_X6_kinds_114 : decode prog_8_method_65_code 114 = .ok (.iload 8, 2) := by decide +kernel
theorem d_X6_kinds_116 : decode prog_8_method_65_code 116 = .ok (.ishl, 1) := by decide +kernel
theorem d_X6_kinds_117 : decode prog_8_method_65_code 117 = .ok (.goto 4, 3) := by decide +kernel
theorem d_X6_kinds_120 : decode prog_8_method_65_code 120 = .ok (.iconst 0, 1) := by decide +kernel
theorem d_X6_kinds_121 : decode prog_8_method_65_code 121 = .ok (.ior, 1) := by decide +kernel
theorem d_X6_kinds_122 : decode prog_8_method_65_code 122 = .ok (.istore 7, 2) := by decide +kernel
theorem d_X6_kinds_124 : decode prog_8_method_65_code 124 = .ok (.iinc 8 1, 3) := by decide +kernel
theorem d_X6_kinds_127 : decode prog_8_method_65_code 127 = .ok (.goto (-77), 3) := by decide +kernel
theorem d_X6_kinds_130 : decode prog_8_method_65_code 130 = .ok (.aload_n 0, 1) := by decide +kernel
theorem d_X6_kinds_131 : decode prog_8_method_65_code 131 = .ok (.getfield 7, 3) := by decide +kernel
theorem d_X6_kinds_134 : decode prog_8_method_65_code 134 = .ok (.iload_n 2, 1) := by decide +kernel
theorem d_X6_kinds_135 : decode prog_8_method_65_code 135 = .ok (.iload 5, 2) := by decide +kernel
theorem d_X6_kinds_137 : decode prog_8_method_65_code 137 = .ok (.iastore, 1) := by decide +kernel
theorem d_X6_kinds_138 : decode prog_8_method_65_code 138 = .ok (.aload_n 0, 1) := by decide +kernel
theorem d_X6_kinds_139 : decode prog_8_method_65_code 139 = .ok (.getfield 13, 3) := by decide +kernel
theorem d_X6_kinds_142 : decode prog_8_method_65_code 142 = .ok (.iload_n 2, 1) := by decide +kernel
theorem d_X6_kinds_143 : decode prog_8_method_65_code 143 = .ok (.iload 6, 2) := by decide +kernel
theorem d_X6_kinds_145 : decode prog_8_method_65_code 145 = .ok (.iastore, 1) := by decide +kernel
theorem d_X6_kinds_146 : decode prog_8_method_65_code 146 = .ok (.iload 7, 2) := by decide +kernel
theorem d_X6_kinds_148 : decode prog_8_method_65_code 148 = .ok (.ireturn, 1) := by decide +kernel
def lp_X6_kinds_50 (κ : it_KK) (x1 : Int32) (x2 : Int32) (x3 : Int32) (k50 : (Int32 → Int32 → Int32 → it_SS → Option (Int32 × it_SS))) : Nat → Int32 → Int32 → Int32 → Int32 → it_SS → Option (Int32 × it_SS)
  | 0, _, _, _, _, _ => none
  | n50 + 1, v5, v6, v7, v8, S => if x3 = 0 then
if 6 ≤ v8 then
k50 v5 v6 v7 S
else
if x3 = 0 then
if x3 = 1 then
it_bi (f_X6_unlike κ x1 x2 (it_up (it_up S 46 (x2 : Int32).toNatClampNeg v8) 47 (x2 : Int32).toNatClampNeg v8)) (fun r39 S38 =>
if r39 = (-1) then
lp_X6_kinds_50 κ x1 x2 x3 k50 n50 v5 v6 (v7 ||| (1 <<< (v8 &&& 31))) (v8 + 1) S38
else
lp_X6_kinds_50 κ x1 x2 x3 k50 n50 v5 v6 (v7 ||| 0) (v8 + 1) S38)
else
it_bi (f_X6_unlike κ x1 x2 (it_up (it_up S 46 (x2 : Int32).toNatClampNeg v8) 47 (x2 : Int32).toNatClampNeg v6)) (fun r36 S35 =>
if r36 = (-1) then
lp_X6_kinds_50 κ x1 x2 x3 k50 n50 v5 v6 (v7 ||| (1 <<< (v8 &&& 31))) (v8 + 1) S35
else
lp_X6_kinds_50 κ x1 x2 x3 k50 n50 v5 v6 (v7 ||| 0) (v8 + 1) S35)
else
if x3 = 1 then
it_bi (f_X6_unlike κ x1 x2 (it_up (it_up S 46 (x2 : Int32).toNatClampNeg v5) 47 (x2 : Int32).toNatClampNeg v8)) (fun r32 S31 =>
if r32 = (-1) then
lp_X6_kinds_50 κ x1 x2 x3 k50 n50 v5 v6 (v7 ||| (1 <<< (v8 &&& 31))) (v8 + 1) S31
else
lp_X6_kinds_50 κ x1 x2 x3 k50 n50 v5 v6 (v7 ||| 0) (v8 + 1) S31)
else
it_bi (f_X6_unlike κ x1 x2 (it_up (it_up S 46 (x2 : Int32).toNatClampNeg v5) 47 (x2 : Int32).toNatClampNeg v6)) (fun r29 S28 =>
if r29 = (-1) then
lp_X6_kinds_50 κ x1 x2 x3 k50 n50 v5 v6 (v7 ||| (1 <<< (v8 &&& 31))) (v8 + 1) S28
else
lp_X6_kinds_50 κ x1 x2 x3 k50 n50 v5 v6 (v7 ||| 0) (v8 + 1) S28)
else
if 10 ≤ v8 then
k50 v5 v6 v7 S
else
if x3 = 0 then
if x3 = 1 then
it_bi (f_X6_unlike κ x1 x2 (it_up (it_up S 46 (x2 : Int32).toNatClampNeg v8) 47 (x2 : Int32).toNatClampNeg v8)) (fun r23 S22 =>
if r23 = (-1) then
lp_X6_kinds_50 κ x1 x2 x3 k50 n50 v5 v6 (v7 ||| (1 <<< (v8 &&& 31))) (v8 + 1) S22
else
lp_X6_kinds_50 κ x1 x2 x3 k50 n50 v5 v6 (v7 ||| 0) (v8 + 1) S22)
else
it_bi (f_X6_unlike κ x1 x2 (it_up (it_up S 46 (x2 : Int32).toNatClampNeg v8) 47 (x2 : Int32).toNatClampNeg v6)) (fun r20 S19 =>
if r20 = (-1) then
lp_X6_kinds_50 κ x1 x2 x3 k50 n50 v5 v6 (v7 ||| (1 <<< (v8 &&& 31))) (v8 + 1) S19
else
lp_X6_kinds_50 κ x1 x2 x3 k50 n50 v5 v6 (v7 ||| 0) (v8 + 1) S19)
else
if x3 = 1 then
it_bi (f_X6_unlike κ x1 x2 (it_up (it_up S 46 (x2 : Int32).toNatClampNeg v5) 47 (x2 : Int32).toNatClampNeg v8)) (fun r16 S15 =>
if r16 = (-1) then
lp_X6_kinds_50 κ x1 x2 x3 k50 n50 v5 v6 (v7 ||| (1 <<< (v8 &&& 31))) (v8 + 1) S15
else
lp_X6_kinds_50 κ x1 x2 x3 k50 n50 v5 v6 (v7 ||| 0) (v8 + 1) S15)
else
it_bi (f_X6_unlike κ x1 x2 (it_up (it_up S 46 (x2 : Int32).toNatClampNeg v5) 47 (x2 : Int32).toNatClampNeg v6)) (fun r13 S12 =>
if r13 = (-1) then
lp_X6_kinds_50 κ x1 x2 x3 k50 n50 v5 v6 (v7 ||| (1 <<< (v8 &&& 31))) (v8 + 1) S12
else
lp_X6_kinds_50 κ x1 x2 x3 k50 n50 v5 v6 (v7 ||| 0) (v8 + 1) S12)
def f_X6_kinds (κ : it_KK) (x1 : Int32) (x2 : Int32) (x3 : Int32) (S : it_SS) : Option (Int32 × it_SS) :=
it_bi (f_X6_toldWrong κ x1 x2 S) (fun r2 S1 =>
if r2 = 0 then
it_bi (f_X6_in κ x3 0 1 S1) (fun r5 S4 =>
if r5 = 0 then
some ((-7), S4)
else
if it_bd x2 6 = true then
lp_X6_kinds_50 κ x1 x2 x3 (fun v41 v42 v43 S44 =>
some (v43, it_up (it_up S44 46 (x2 : Int32).toNatClampNeg v41) 47 (x2 : Int32).toNatClampNeg v42)) it_FU (S4 46 (x2 : Int32).toNatClampNeg) (S4 47 (x2 : Int32).toNatClampNeg) 0 0 S4
else none)
else
some (r2, S1))
set_option maxHeartbeats 4000000 in
set_option maxRecDepth 100000 in
theorem Llp_X6_kinds_50 {g : it_G} {l : Launch} {κ : it_KK} {x1 : Int32} {x2 : Int32} {x3 : Int32} (hm : it_wm κ) (hb7 : it_bd x2 6 = true) {P : Int32 → it_SS → Prop} {k50 : (Int32 → Int32 → Int32 → it_SS → Option (Int32 × it_SS))} (hk50 : ∀ (v5 : Int32) (v6 : Int32) (v7 : Int32) (S : it_SS), it_ok (k50 v5 v6 v7 S) P → it_Ev g l 7 it_m_X6_kinds 0 0 130 [some (.ref 45), none, some (.int x2), none, none, some (.int v5), some (.int v6), some (.int v7), none] [] κ S (it_pi κ P)) : ∀ (n : Nat) (v5 : Int32) (v6 : Int32) (v7 : Int32) (v8 : Int32) (S : it_SS), it_ok (lp_X6_kinds_50 κ x1 x2 x3 k50 n v5 v6 v7 v8 S) P → it_Ev g l 7 it_m_X6_kinds 0 0 50 [some (.ref 45), some (.int x1), some (.int x2), some (.int x3), none, some (.int v5), some (.int v6), some (.int v7), some (.int v8)] [] κ S (it_pi κ P) := by
  intro n
  induction n with
  | zero =>
    intro _ _ _ _ _ h
    exact (it_ok_n h).elim
  | succ n50 ih50 =>
    intro v5 v6 v7 v8 S h
    rw [lp_X6_kinds_50] at h
    refine ev_iload d_X6_kinds_50 rfl ?_
    refine ev_iload_n d_X6_kinds_52 rfl ?_
    refine ev_if_ne (tgt := 61) d_X6_kinds_53 (by decide) (fun hc8 => ?_) (fun hc8 => ?_)
    · have h := it_ok_f h hc8
      refine ev_bipush d_X6_kinds_61 kv_bipush_10 ?_
      refine ev_icmp_ge (tgt := 130) d_X6_kinds_63 (by decide) (fun hc9 => ?_) (fun hc9 => ?_)
      · have h := it_ok_t h hc9
        refine ev_keep [true, false, true, false, false, true, true, true, false] ?_
        exact hk50 _ _ _ _ h
      · have h := it_ok_f h hc9
        refine ev_aload_n d_X6_kinds_66 rfl ?_
        refine ev_getRr (r := 46) rfl d_X6_kinds_67 fl_IcedTooSoonModel_7 hm.1 rfl ?_
        refine ev_iload_n d_X6_kinds_70 rfl ?_
        refine ev_iload_n d_X6_kinds_71 rfl ?_
        refine ev_if_ne (tgt := 80) d_X6_kinds_72 (by decide) (fun hc10 => ?_) (fun hc10 => ?_)
        · have h := it_ok_f h hc10
          refine ev_iload d_X6_kinds_80 rfl ?_
          refine ev_iast d_X6_kinds_82 (by decide) (hm).2.1 (it_bd_in hb7) ?_
          refine ev_aload_n d_X6_kinds_83 rfl ?_
          refine ev_getRr (r := 47) rfl d_X6_kinds_84 fl_IcedTooSoonModel_13 hm.1 rfl ?_
          refine ev_iload_n d_X6_kinds_87 rfl ?_
          refine ev_iload_n d_X6_kinds_88 rfl ?_
          refine ev_iconst d_X6_kinds_89 kv_iconst_1 ?_
          refine ev_icmp_ne (tgt := 98) d_X6_kinds_90 (by decide) (fun hc11 => ?_) (fun hc11 => ?_)
          · have h := it_ok_f h hc11
            refine ev_iload d_X6_kinds_98 rfl ?_
            refine ev_iast d_X6_kinds_100 (by decide) (hm).2.2.1 (it_bd_in hb7) ?_
            refine ev_iload d_X6_kinds_101 rfl ?_
            refine ev_aload_n d_X6_kinds_103 rfl ?_
            refine ev_iload_n d_X6_kinds_104 rfl ?_
            refine ev_iload_n d_X6_kinds_105 rfl ?_
            refine ev_callV (ci := 6) (b := 45) (M' := it_m_X6_unlike) (d' := 6) (As := [.int x1, .int x2]) d_X6_kinds_106 ml_IcedTooSoonModel_237 hm.1.1 hm.1.2.1 ⟨_, rfl, rfl⟩ rfl rfl (Nat.le_of_ble_eq_true rfl) (by decide) (by decide) (by decide) (L_X6_unlike hm (it_ok_b h)) (fun _ _ _ _ q => by cases q.1; rfl) ?_
            rintro _ _ S12 ⟨rfl, r13, rfl, h⟩
            show it_Ev g l 7 it_m_X6_kinds 0 0 109 [some (.ref 45), some (.int x1), some (.int x2), some (.int x3), none, some (.int v5), some (.int v6), some (.int v7), some (.int v8)] [.int r13, .int v7] κ S12 (it_pi κ P)
            refine ev_iconst d_X6_kinds_109 kv_iconst_m1 ?_
            refine ev_icmp_ne (tgt := 120) d_X6_kinds_110 (by decide) (fun hc14 => ?_) (fun hc14 => ?_)
            · have h := it_ok_f h hc14
              refine ev_iconst d_X6_kinds_120 kv_iconst_0 ?_
              refine ev_ior d_X6_kinds_121 ?_
              refine ev_istore d_X6_kinds_122 (by decide) ?_
              show it_Ev g l 7 it_m_X6_kinds 0 0 124 [some (.ref 45), some (.int x1), some (.int x2), some (.int x3), none, some (.int v5), some (.int v6), some (.int (v7 ||| 0)), some (.int v8)] [] κ S12 (it_pi κ P)
              refine ev_iinc d_X6_kinds_124 kv_iconst_1 rfl (by decide) ?_
              show it_Ev g l 7 it_m_X6_kinds 0 0 127 [some (.ref 45), some (.int x1), some (.int x2), some (.int x3), none, some (.int v5), some (.int v6), some (.int (v7 ||| 0)), some (.int (v8 + 1))] [] κ S12 (it_pi κ P)
              refine ev_goto (tgt := 50) d_X6_kinds_127 (by decide) ?_
              refine ev_keep [true, true, true, true, false, true, true, true, true] ?_
              exact ih50 _ _ _ _ _ h
            · have h := it_ok_t h hc14
              refine ev_iconst d_X6_kinds_113 kv_iconst_1 ?_
              refine ev_iload d_X6_kinds_114 rfl ?_
              refine ev_ishl d_X6_kinds_116 ?_
              refine ev_goto (tgt := 121) d_X6_kinds_117 (by decide) ?_
              refine ev_ior d_X6_kinds_121 ?_
              refine ev_istore d_X6_kinds_122 (by decide) ?_
              show it_Ev g l 7 it_m_X6_kinds 0 0 124 [some (.ref 45), some (.int x1), some (.int x2), some (.int x3), none, some (.int v5), some (.int v6), some (.int (v7 ||| (1 <<< (v8 &&& 31)))), some (.int v8)] [] κ S12 (it_pi κ P)
              refine ev_iinc d_X6_kinds_124 kv_iconst_1 rfl (by decide) ?_
              show it_Ev g l 7 it_m_X6_kinds 0 0 127 [some (.ref 45), some (.int x1), some (.int x2), some (.int x3), none, some (.int v5), some (.int v6), some (.int (v7 ||| (1 <<< (v8 &&& 31)))), some (.int (v8 + 1))] [] κ S12 (it_pi κ P)
              refine ev_goto (tgt := 50) d_X6_kinds_127 (by decide) ?_
              refine ev_keep [true, true, true, true, false, true, true, true, true] ?_
              exact ih50 _ _ _ _ _ h
          · have h := it_ok_t h hc11
            refine ev_iload d_X6_kinds_93 rfl ?_
            refine ev_goto (tgt := 100) d_X6_kinds_95 (by decide) ?_
            refine ev_iast d_X6_kinds_100 (by decide) (hm).2.2.1 (it_bd_in hb7) ?_
            refine ev_iload d_X6_kinds_101 rfl ?_
            refine ev_aload_n d_X6_kinds_103 rfl ?_
            refine ev_iload_n d_X6_kinds_104 rfl ?_
            refine ev_iload_n d_X6_kinds_105 rfl ?_
            refine ev_callV (ci := 6) (b := 45) (M' := it_m_X6_unlike) (d' := 6) (As := [.int x1, .int x2]) d_X6_kinds_106 ml_IcedTooSoonModel_237 hm.1.1 hm.1.2.1 ⟨_, rfl, rfl⟩ rfl rfl (Nat.le_of_ble_eq_true rfl) (by decide) (by decide) (by decide) (L_X6_unlike hm (it_ok_b h)) (fun _ _ _ _ q => by cases q.1; rfl) ?_
            rintro _ _ S15 ⟨rfl, r16, rfl, h⟩
            show it_Ev g l 7 it_m_X6_kinds 0 0 109 [some (.ref 45), some (.int x1), some (.int x2), some (.int x3), none, some (.int v5), some (.int v6), some (.int v7), some (.int v8)] [.int r16, .int v7] κ S15 (it_pi κ P)
            refine ev_iconst d_X6_kinds_109 kv_iconst_m1 ?_
            refine ev_icmp_ne (tgt := 120) d_X6_kinds_110 (by decide) (fun hc17 => ?_) (fun hc17 => ?_)
            · have h := it_ok_f h hc17
              refine ev_iconst d_X6_kinds_120 kv_iconst_0 ?_
              refine ev_ior d_X6_kinds_121 ?_
              refine ev_istore d_X6_kinds_122 (by decide) ?_
              show it_Ev g l 7 it_m_X6_kinds 0 0 124 [some (.ref 45), some (.int x1), some (.int x2), some (.int x3), none, some (.int v5), some (.int v6), some (.int (v7 ||| 0)), some (.int v8)] [] κ S15 (it_pi κ P)
              refine ev_iinc d_X6_kinds_124 kv_iconst_1 rfl (by decide) ?_
              show it_Ev g l 7 it_m_X6_kinds 0 0 127 [some (.ref 45), some (.int x1), some (.int x2), some (.int x3), none, some (.int v5), some (.int v6), some (.int (v7 ||| 0)), some (.int (v8 + 1))] [] κ S15 (it_pi κ P)
              refine ev_goto (tgt := 50) d_X6_kinds_127 (by decide) ?_
              refine ev_keep [true, true, true, true, false, true, true, true, true] ?_
              exact ih50 _ _ _ _ _ h
            · have h := it_ok_t h hc17
              refine ev_iconst d_X6_kinds_113 kv_iconst_1 ?_
              refine ev_iload d_X6_kinds_114 rfl ?_
              refine ev_ishl d_X6_kinds_116 ?_
              refine ev_goto (tgt := 121) d_X6_kinds_117 (by decide) ?_
              refine ev_ior d_X6_kinds_121 ?_
              refine ev_istore d_X6_kinds_122 (by decide) ?_
              show it_Ev g l 7 it_m_X6_kinds 0 0 124 [some (.ref 45), some (.int x1), some (.int x2), some (.int x3), none, some (.int v5), some (.int v6), some (.int (v7 ||| (1 <<< (v8 &&& 31)))), some (.int v8)] [] κ S15 (it_pi κ P)
              refine ev_iinc d_X6_kinds_124 kv_iconst_1 rfl (by decide) ?_
              show it_Ev g l 7 it_m_X6_kinds 0 0 127 [some (.ref 45), some (.int x1), some (.int x2), some (.int x3), none, some (.int v5), some (.int v6), some (.int (v7 ||| (1 <<< (v8 &&& 31)))), some (.int (v8 + 1))] [] κ S15 (it_pi κ P)
              refine ev_goto (tgt := 50) d_X6_kinds_127 (by decide) ?_
              refine ev_keep [true, true, true, true, false, true, true, true, true] ?_
              exact ih50 _ _ _ _ _ h
        · have h := it_ok_t h hc10
          refine ev_iload d_X6_kinds_75 rfl ?_
          refine ev_goto (tgt := 82) d_X6_kinds_77 (by decide) ?_
          refine ev_iast d_X6_kinds_82 (by decide) (hm).2.1 (it_bd_in hb7) ?_
          refine ev_aload_n d_X6_kinds_83 rfl ?_
          refine ev_getRr (r := 47) rfl d_X6_kinds_84 fl_IcedTooSoonModel_13 hm.1 rfl ?_
          refine ev_iload_n d_X6_kinds_87 rfl ?_
          refine ev_iload_n d_X6_kinds_88 rfl ?_
          refine ev_iconst d_X6_kinds_89 kv_iconst_1 ?_
          refine ev_icmp_ne (tgt := 98) d_X6_kinds_90 (by decide) (fun hc18 => ?_) (fun hc18 => ?_)
          · have h := it_ok_f h hc18
            refine ev_iload d_X6_kinds_98 rfl ?_
            refine ev_iast d_X6_kinds_100 (by decide) (hm).2.2.1 (it_bd_in hb7) ?_
            refine ev_iload d_X6_kinds_101 rfl ?_
            refine ev_aload_n d_X6_kinds_103 rfl ?_
            refine ev_iload_n d_X6_kinds_104 rfl ?_
            refine ev_iload_n d_X6_kinds_105 rfl ?_
            refine ev_callV (ci := 6) (b := 45) (M' := it_m_X6_unlike) (d' := 6) (As := [.int x1, .int x2]) d_X6_kinds_106 ml_IcedTooSoonModel_237 hm.1.1 hm.1.2.1 ⟨_, rfl, rfl⟩ rfl rfl (Nat.le_of_ble_eq_true rfl) (by decide) (by decide) (by decide) (L_X6_unlike hm (it_ok_b h)) (fun _ _ _ _ q => by cases q.1; rfl) ?_
            rintro _ _ S19 ⟨rfl, r20, rfl, h⟩
            show it_Ev g l 7 it_m_X6_kinds 0 0 109 [some (.ref 45), some (.int x1), some (.int x2), some (.int x3), none, some (.int v5), some (.int v6), some (.int v7), some (.int v8)] [.int r20, .int v7] κ S19 (it_pi κ P)
            refine ev_iconst d_X6_kinds_109 kv_iconst_m1 ?_
            refine ev_icmp_ne (tgt := 120) d_X6_kinds_110 (by decide) (fun hc21 => ?_) (fun hc21 => ?_)
            · have h := it_ok_f h hc21
              refine ev_iconst d_X6_kinds_120 kv_iconst_0 ?_
              refine ev_ior d_X6_kinds_121 ?_
              refine ev_istore d_X6_kinds_122 (by decide) ?_
              show it_Ev g l 7 it_m_X6_kinds 0 0 124 [some (.ref 45), some (.int x1), some (.int x2), some (.int x3), none, some (.int v5), some (.int v6), some (.int (v7 ||| 0)), some (.int v8)] [] κ S19 (it_pi κ P)
              refine ev_iinc d_X6_kinds_124 kv_iconst_1 rfl (by decide) ?_
              show it_Ev g l 7 it_m_X6_kinds 0 0 127 [some (.ref 45), some (.int x1), some (.int x2), some (.int x3), none, some (.int v5), some (.int v6), some (.int (v7 ||| 0)), some (.int (v8 + 1))] [] κ S19 (it_pi κ P)
              refine ev_goto (tgt := 50) d_X6_kinds_127 (by decide) ?_
              refine ev_keep [true, true, true, true, false, true, true, true, true] ?_
              exact ih50 _ _ _ _ _ h
            · have h := it_ok_t h hc21
              refine ev_iconst d_X6_kinds_113 kv_iconst_1 ?_
              refine ev_iload d_X6_kinds_114 rfl ?_
              refine ev_ishl d_X6_kinds_116 ?_
              refine ev_goto (tgt := 121) d_X6_kinds_117 (by decide) ?_
              refine ev_ior d_X6_kinds_121 ?_
              refine ev_istore d_X6_kinds_122 (by decide) ?_
              show it_Ev g l 7 it_m_X6_kinds 0 0 124 [some (.ref 45), some (.int x1), some (.int x2), some (.int x3), none, some (.int v5), some (.int v6), some (.int (v7 ||| (1 <<< (v8 &&& 31)))), some (.int v8)] [] κ S19 (it_pi κ P)
              refine ev_iinc d_X6_kinds_124 kv_iconst_1 rfl (by decide) ?_
              show it_Ev g l 7 it_m_X6_kinds 0 0 127 [some (.ref 45), some (.int x1), some (.int x2), some (.int x3), none, some (.int v5), some (.int v6), some (.int (v7 ||| (1 <<< (v8 &&& 31)))), some (.int (v8 + 1))] [] κ S19 (it_pi κ P)
              refine ev_goto (tgt := 50) d_X6_kinds_127 (by decide) ?_
              refine ev_keep [true, true, true, true, false, true, true, true, true] ?_
              exact ih50 _ _ _ _ _ h
          · have h := it_ok_t h hc18
            refine ev_iload d_X6_kinds_93 rfl ?_
            refine ev_goto (tgt := 100) d_X6_kinds_95 (by decide) ?_
            refine ev_iast d_X6_kinds_100 (by decide) (hm).2.2.1 (it_bd_in hb7) ?_
            refine ev_iload d_X6_kinds_101 rfl ?_
            refine ev_aload_n d_X6_kinds_103 rfl ?_
            refine ev_iload_n d_X6_kinds_104 rfl ?_
            refine ev_iload_n d_X6_kinds_105 rfl ?_
            refine ev_callV (ci := 6) (b := 45) (M' := it_m_X6_unlike) (d' := 6) (As := [.int x1, .int x2]) d_X6_kinds_106 ml_IcedTooSoonModel_237 hm.1.1 hm.1.2.1 ⟨_, rfl, rfl⟩ rfl rfl (Nat.le_of_ble_eq_true rfl) (by decide) (by decide) (by decide) (L_X6_unlike hm (it_ok_b h)) (fun _ _ _ _ q => by cases q.1; rfl) ?_
            rintro _ _ S22 ⟨rfl, r23, rfl, h⟩
            show it_Ev g l 7 it_m_X6_kinds 0 0 109 [some (.ref 45), some (.int x1), some (.int x2), some (.int x3), none, some (.int v5), some (.int v6), some (.int v7), some (.int v8)] [.int r23, .int v7] κ S22 (it_pi κ P)
            refine ev_iconst d_X6_kinds_109 kv_iconst_m1 ?_
            refine ev_icmp_ne (tgt := 120) d_X6_kinds_110 (by decide) (fun hc24 => ?_) (fun hc24 => ?_)
            · have h := it_ok_f h hc24
              refine ev_iconst d_X6_kinds_120 kv_iconst_0 ?_
              refine ev_ior d_X6_kinds_121 ?_
              refine ev_istore d_X6_kinds_122 (by decide) ?_
              show it_Ev g l 7 it_m_X6_kinds 0 0 124 [some (.ref 45), some (.int x1), some (.int x2), some (.int x3), none, some (.int v5), some (.int v6), some (.int (v7 ||| 0)), some (.int v8)] [] κ S22 (it_pi κ P)
              refine ev_iinc d_X6_kinds_124 kv_iconst_1 rfl (by decide) ?_
              show it_Ev g l 7 it_m_X6_kinds 0 0 127 [some (.ref 45), some (.int x1), some (.int x2), some (.int x3), none, some (.int v5), some (.int v6), some (.int (v7 ||| 0)), some (.int (v8 + 1))] [] κ S22 (it_pi κ P)
              refine ev_goto (tgt := 50) d_X6_kinds_127 (by decide) ?_
              refine ev_keep [true, true, true, true, false, true, true, true, true] ?_
              exact ih50 _ _ _ _ _ h
            · have h := it_ok_t h hc24
              refine ev_iconst d_X6_kinds_113 kv_iconst_1 ?_
              refine ev_iload d_X6_kinds_114 rfl ?_
              refine ev_ishl d_X6_kinds_116 ?_
              refine ev_goto (tgt := 121) d_X6_kinds_117 (by decide) ?_
              refine ev_ior d_X6_kinds_121 ?_
              refine ev_istore d_X6_kinds_122 (by decide) ?_
              show it_Ev g l 7 it_m_X6_kinds 0 0 124 [some (.ref 45), some (.int x1), some (.int x2), some (.int x3), none, some (.int v5), some (.int v6), some (.int (v7 ||| (1 <<< (v8 &&& 31)))), some (.int v8)] [] κ S22 (it_pi κ P)
              refine ev_iinc d_X6_kinds_124 kv_iconst_1 rfl (by decide) ?_
              show it_Ev g l 7 it_m_X6_kinds 0 0 127 [some (.ref 45), some (.int x1), some (.int x2), some (.int x3), none, some (.int v5), some (.int v6), some (.int (v7 ||| (1 <<< (v8 &&& 31)))), some (.int (v8 + 1))] [] κ S22 (it_pi κ P)
              refine ev_goto (tgt := 50) d_X6_kinds_127 (by decide) ?_
              refine ev_keep [true, true, true, true, false, true, true, true, true] ?_
              exact ih50 _ _ _ _ _ h
    · have h := it_ok_t h hc8
      refine ev_bipush d_X6_kinds_56 kv_bipush_6 ?_
      refine ev_goto (tgt := 63) d_X6_kinds_58 (by decide) ?_
      refine ev_icmp_ge (tgt := 130) d_X6_kinds_63 (by decide) (fun hc25 => ?_) (fun hc25 => ?_)
      · have h := it_ok_t h hc25
        refine ev_keep [true, false, true, false, false, true, true, true, false] ?_
        exact hk50 _ _ _ _ h
      · have h := it_ok_f h hc25
        refine ev_aload_n d_X6_kinds_66 rfl ?_
        refine ev_getRr (r := 46) rfl d_X6_kinds_67 fl_IcedTooSoonModel_7 hm.1 rfl ?_
        refine ev_iload_n d_X6_kinds_70 rfl ?_
        refine ev_iload_n d_X6_kinds_71 rfl ?_
        refine ev_if_ne (tgt := 80) d_X6_kinds_72 (by decide) (fun hc26 => ?_) (fun hc26 => ?_)
        · have h := it_ok_f h hc26
          refine ev_iload d_X6_kinds_80 rfl ?_
          refine ev_iast d_X6_kinds_82 (by decide) (hm).2.1 (it_bd_in hb7) ?_
          refine ev_aload_n d_X6_kinds_83 rfl ?_
          refine ev_getRr (r := 47) rfl d_X6_kinds_84 fl_IcedTooSoonModel_13 hm.1 rfl ?_
          refine ev_iload_n d_X6_kinds_87 rfl ?_
          refine ev_iload_n d_X6_kinds_88 rfl ?_
          refine ev_iconst d_X6_kinds_89 kv_iconst_1 ?_
          refine ev_icmp_ne (tgt := 98) d_X6_kinds_90 (by decide) (fun hc27 => ?_) (fun hc27 => ?_)
          · have h := it_ok_f h hc27
            refine ev_iload d_X6_kinds_98 rfl ?_
            refine ev_iast d_X6_kinds_100 (by decide) (hm).2.2.1 (it_bd_in hb7) ?_
            refine ev_iload d_X6_kinds_101 rfl ?_
            refine ev_aload_n d_X6_kinds_103 rfl ?_
            refine ev_iload_n d_X6_kinds_104 rfl ?_
            refine ev_iload_n d_X6_kinds_105 rfl ?_
            refine ev_callV (ci := 6) (b := 45) (M' := it_m_X6_unlike) (d' := 6) (As := [.int x1, .int x2]) d_X6_kinds_106 ml_IcedTooSoonModel_237 hm.1.1 hm.1.2.1 ⟨_, rfl, rfl⟩ rfl rfl (Nat.le_of_ble_eq_true rfl) (by decide) (by decide) (by decide) (L_X6_unlike hm (it_ok_b h)) (fun _ _ _ _ q => by cases q.1; rfl) ?_
            rintro _ _ S28 ⟨rfl, r29, rfl, h⟩
            show it_Ev g l 7 it_m_X6_kinds 0 0 109 [some (.ref 45), some (.int x1), some (.int x2), some (.int x3), none, some (.int v5), some (.int v6), some (.int v7), some (.int v8)] [.int r29, .int v7] κ S28 (it_pi κ P)
            refine ev_iconst d_X6_kinds_109 kv_iconst_m1 ?_
            refine ev_icmp_ne (tgt := 120) d_X6_kinds_110 (by decide) (fun hc30 => ?_) (fun hc30 => ?_)
            · have h := it_ok_f h hc30
              refine ev_iconst d_X6_kinds_120 kv_iconst_0 ?_
              refine ev_ior d_X6_kinds_121 ?_
              refine ev_istore d_X6_kinds_122 (by decide) ?_
              show it_Ev g l 7 it_m_X6_kinds 0 0 124 [some (.ref 45), some (.int x1), some (.int x2), some (.int x3), none, some (.int v5), some (.int v6), some (.int (v7 ||| 0)), some (.int v8)] [] κ S28 (it_pi κ P)
              refine ev_iinc d_X6_kinds_124 kv_iconst_1 rfl (by decide) ?_
              show it_Ev g l 7 it_m_X6_kinds 0 0 127 [some (.ref 45), some (.int x1), some (.int x2), some (.int x3), none, some (.int v5), some (.int v6), some (.int (v7 ||| 0)), some (.int (v8 + 1))] [] κ S28 (it_pi κ P)
              refine ev_goto (tgt := 50) d_X6_kinds_127 (by decide) ?_
              refine ev_keep [true, true, true, true, false, true, true, true, true] ?_
              exact ih50 _ _ _ _ _ h
            · have h := it_ok_t h hc30
              refine ev_iconst d_X6_kinds_113 kv_iconst_1 ?_
              refine ev_iload d_X6_kinds_114 rfl ?_
              refine ev_ishl d_X6_kinds_116 ?_
              refine ev_goto (tgt := 121) d_X6_kinds_117 (by decide) ?_
              refine ev_ior d_X6_kinds_121 ?_
              refine ev_istore d_X6_kinds_122 (by decide) ?_
              show it_Ev g l 7 it_m_X6_kinds 0 0 124 [some (.ref 45), some (.int x1), some (.int x2), some (.int x3), none, some (.int v5), some (.int v6), some (.int (v7 ||| (1 <<< (v8 &&& 31)))), some (.int v8)] [] κ S28 (it_pi κ P)
              refine ev_iinc d_X6_kinds_124 kv_iconst_1 rfl (by decide) ?_
              show it_Ev g l 7 it_m_X6_kinds 0 0 127 [some (.ref 45), some (.int x1), some (.int x2), some (.int x3), none, some (.int v5), some (.int v6), some (.int (v7 ||| (1 <<< (v8 &&& 31)))), some (.int (v8 + 1))] [] κ S28 (it_pi κ P)
              refine ev_goto (tgt := 50) d_X6_kinds_127 (by decide) ?_
              refine ev_keep [true, true, true, true, false, true, true, true, true] ?_
              exact ih50 _ _ _ _ _ h
          · have h := it_ok_t h hc27
            refine ev_iload d_X6_kinds_93 rfl ?_
            refine ev_goto (tgt := 100) d_X6_kinds_95 (by decide) ?_
            refine ev_iast d_X6_kinds_100 (by decide) (hm).2.2.1 (it_bd_in hb7) ?_
            refine ev_iload d_X6_kinds_101 rfl ?_
            refine ev_aload_n d_X6_kinds_103 rfl ?_
            refine ev_iload_n d_X6_kinds_104 rfl ?_
            refine ev_iload_n d_X6_kinds_105 rfl ?_
            refine ev_callV (ci := 6) (b := 45) (M' := it_m_X6_unlike) (d' := 6) (As := [.int x1, .int x2]) d_X6_kinds_106 ml_IcedTooSoonModel_237 hm.1.1 hm.1.2.1 ⟨_, rfl, rfl⟩ rfl rfl (Nat.le_of_ble_eq_true rfl) (by decide) (by decide) (by decide) (L_X6_unlike hm (it_ok_b h)) (fun _ _ _ _ q => by cases q.1; rfl) ?_
            rintro _ _ S31 ⟨rfl, r32, rfl, h⟩
            show it_Ev g l 7 it_m_X6_kinds 0 0 109 [some (.ref 45), some (.int x1), some (.int x2), some (.int x3), none, some (.int v5), some (.int v6), some (.int v7), some (.int v8)] [.int r32, .int v7] κ S31 (it_pi κ P)
            refine ev_iconst d_X6_kinds_109 kv_iconst_m1 ?_
            refine ev_icmp_ne (tgt := 120) d_X6_kinds_110 (by decide) (fun hc33 => ?_) (fun hc33 => ?_)
            · have h := it_ok_f h hc33
              refine ev_iconst d_X6_kinds_120 kv_iconst_0 ?_
              refine ev_ior d_X6_kinds_121 ?_
              refine ev_istore d_X6_kinds_122 (by decide) ?_
              show it_Ev g l 7 it_m_X6_kinds 0 0 124 [some (.ref 45), some (.int x1), some (.int x2), some (.int x3), none, some (.int v5), some (.int v6), some (.int (v7 ||| 0)), some (.int v8)] [] κ S31 (it_pi κ P)
              refine ev_iinc d_X6_kinds_124 kv_iconst_1 rfl (by decide) ?_
              show it_Ev g l 7 it_m_X6_kinds 0 0 127 [some (.ref 45), some (.int x1), some (.int x2), some (.int x3), none, some (.int v5), some (.int v6), some (.int (v7 ||| 0)), some (.int (v8 + 1))] [] κ S31 (it_pi κ P)
              refine ev_goto (tgt := 50) d_X6_kinds_127 (by decide) ?_
              refine ev_keep [true, true, true, true, false, true, true, true, true] ?_
              exact ih50 _ _ _ _ _ h
            · have h := it_ok_t h hc33
              refine ev_iconst d_X6_kinds_113 kv_iconst_1 ?_
              refine ev_iload d_X6_kinds_114 rfl ?_
              refine ev_ishl d_X6_kinds_116 ?_
              refine ev_goto (tgt := 121) d_X6_kinds_117 (by decide) ?_
              refine ev_ior d_X6_kinds_121 ?_
              refine ev_istore d_X6_kinds_122 (by decide) ?_
              show it_Ev g l 7 it_m_X6_kinds 0 0 124 [some (.ref 45), some (.int x1), some (.int x2), some (.int x3), none, some (.int v5), some (.int v6), some (.int (v7 ||| (1 <<< (v8 &&& 31)))), some (.int v8)] [] κ S31 (it_pi κ P)
              refine ev_iinc d_X6_kinds_124 kv_iconst_1 rfl (by decide) ?_
              show it_Ev g l 7 it_m_X6_kinds 0 0 127 [some (.ref 45), some (.int x1), some (.int x2), some (.int x3), none, some (.int v5), some (.int v6), some (.int (v7 ||| (1 <<< (v8 &&& 31)))), some (.int (v8 + 1))] [] κ S31 (it_pi κ P)
              refine ev_goto (tgt := 50) d_X6_kinds_127 (by decide) ?_
              refine ev_keep [true, true, true, true, false, true, true, true, true] ?_
              exact ih50 _ _ _ _ _ h
        · have h := it_ok_t h hc26
          refine ev_iload d_X6_kinds_75 rfl ?_
          refine ev_goto (tgt := 82) d_X6_kinds_77 (by decide) ?_
          refine ev_iast d_X6_kinds_82 (by decide) (hm).2.1 (it_bd_in hb7) ?_
          refine ev_aload_n d_X6_kinds_83 rfl ?_
          refine ev_getRr (r := 47) rfl d_X6_kinds_84 fl_IcedTooSoonModel_13 hm.1 rfl ?_
          refine ev_iload_n d_X6_kinds_87 rfl ?_
          refine ev_iload_n d_X6_kinds_88 rfl ?_
          refine ev_iconst d_X6_kinds_89 kv_iconst_1 ?_
          refine ev_icmp_ne (tgt := 98) d_X6_kinds_90 (by decide) (fun hc34 => ?_) (fun hc34 => ?_)
          · have h := it_ok_f h hc34
            refine ev_iload d_X6_kinds_98 rfl ?_
            refine ev_iast d_X6_kinds_100 (by decide) (hm).2.2.1 (it_bd_in hb7) ?_
            refine ev_iload d_X6_kinds_101 rfl ?_
            refine ev_aload_n d_X6_kinds_103 rfl ?_
            refine ev_iload_n d_X6_kinds_104 rfl ?_
            refine ev_iload_n d_X6_kinds_105 rfl ?_
            refine ev_callV (ci := 6) (b := 45) (M' := it_m_X6_unlike) (d' := 6) (As := [.int x1, .int x2]) d_X6_kinds_106 ml_IcedTooSoonModel_237 hm.1.1 hm.1.2.1 ⟨_, rfl, rfl⟩ rfl rfl (Nat.le_of_ble_eq_true rfl) (by decide) (by decide) (by decide) (L_X6_unlike hm (it_ok_b h)) (fun _ _ _ _ q => by cases q.1; rfl) ?_
            rintro _ _ S35 ⟨rfl, r36, rfl, h⟩
            show it_Ev g l 7 it_m_X6_kinds 0 0 109 [some (.ref 45), some (.int x1), some (.int x2), some (.int x3), none, some (.int v5), some (.int v6), some (.int v7), some (.int v8)] [.int r36, .int v7] κ S35 (it_pi κ P)
            refine ev_iconst d_X6_kinds_109 kv_iconst_m1 ?_
            refine ev_icmp_ne (tgt := 120) d_X6_kinds_110 (by decide) (fun hc37 => ?_) (fun hc37 => ?_)
            · have h := it_ok_f h hc37
              refine ev_iconst d_X6_kinds_120 kv_iconst_0 ?_
              refine ev_ior d_X6_kinds_121 ?_
              refine ev_istore d_X6_kinds_122 (by decide) ?_
              show it_Ev g l 7 it_m_X6_kinds 0 0 124 [some (.ref 45), some (.int x1), some (.int x2), some (.int x3), none, some (.int v5), some (.int v6), some (.int (v7 ||| 0)), some (.int v8)] [] κ S35 (it_pi κ P)
              refine ev_iinc d_X6_kinds_124 kv_iconst_1 rfl (by decide) ?_
              show it_Ev g l 7 it_m_X6_kinds 0 0 127 [some (.ref 45), some (.int x1), some (.int x2), some (.int x3), none, some (.int v5), some (.int v6), some (.int (v7 ||| 0)), some (.int (v8 + 1))] [] κ S35 (it_pi κ P)
              refine ev_goto (tgt := 50) d_X6_kinds_127 (by decide) ?_
              refine ev_keep [true, true, true, true, false, true, true, true, true] ?_
              exact ih50 _ _ _ _ _ h
            · have h := it_ok_t h hc37
              refine ev_iconst d_X6_kinds_113 kv_iconst_1 ?_
              refine ev_iload d_X6_kinds_114 rfl ?_
              refine ev_ishl d_X6_kinds_116 ?_
              refine ev_goto (tgt := 121) d_X6_kinds_117 (by decide) ?_
              refine ev_ior d_X6_kinds_121 ?_
              refine ev_istore d_X6_kinds_122 (by decide) ?_
              show it_Ev g l 7 it_m_X6_kinds 0 0 124 [some (.ref 45), some (.int x1), some (.int x2), some (.int x3), none, some (.int v5), some (.int v6), some (.int (v7 ||| (1 <<< (v8 &&& 31)))), some (.int v8)] [] κ S35 (it_pi κ P)
              refine ev_iinc d_X6_kinds_124 kv_iconst_1 rfl (by decide) ?_
              show it_Ev g l 7 it_m_X6_kinds 0 0 127 [some (.ref 45), some (.int x1), some (.int x2), some (.int x3), none, some (.int v5), some (.int v6), some (.int (v7 ||| (1 <<< (v8 &&& 31)))), some (.int (v8 + 1))] [] κ S35 (it_pi κ P)
              refine ev_goto (tgt := 50) d_X6_kinds_127 (by decide) ?_
              refine ev_keep [true, true, true, true, false, true, true, true, true] ?_
              exact ih50 _ _ _ _ _ h
          · have h := it_ok_t h hc34
            refine ev_iload d_X6_kinds_93 rfl ?_
            refine ev_goto (tgt := 100) d_X6_kinds_95 (by decide) ?_
            refine ev_iast d_X6_kinds_100 (by decide) (hm).2.2.1 (it_bd_in hb7) ?_
            refine ev_iload d_X6_kinds_101 rfl ?_
            refine ev_aload_n d_X6_kinds_103 rfl ?_
            refine ev_iload_n d_X6_kinds_104 rfl ?_
            refine ev_iload_n d_X6_kinds_105 rfl ?_
            refine ev_callV (ci := 6) (b := 45) (M' := it_m_X6_unlike) (d' := 6) (As := [.int x1, .int x2]) d_X6_kinds_106 ml_IcedTooSoonModel_237 hm.1.1 hm.1.2.1 ⟨_, rfl, rfl⟩ rfl rfl (Nat.le_of_ble_eq_true rfl) (by decide) (by decide) (by decide) (L_X6_unlike hm (it_ok_b h)) (fun _ _ _ _ q => by cases q.1; rfl) ?_
            rintro _ _ S38 ⟨rfl, r39, rfl, h⟩
            show it_Ev g l 7 it_m_X6_kinds 0 0 109 [some (.ref 45), some (.int x1), some (.int x2), some (.int x3), none, some (.int v5), some (.int v6), some (.int v7), some (.int v8)] [.int r39, .int v7] κ S38 (it_pi κ P)
            refine ev_iconst d_X6_kinds_109 kv_iconst_m1 ?_
            refine ev_icmp_ne (tgt := 120) d_X6_kinds_110 (by decide) (fun hc40 => ?_) (fun hc40 => ?_)
            · have h := it_ok_f h hc40
              refine ev_iconst d_X6_kinds_120 kv_iconst_0 ?_
              refine ev_ior d_X6_kinds_121 ?_
              refine ev_istore d_X6_kinds_122 (by decide) ?_
              show it_Ev g l 7 it_m_X6_kinds 0 0 124 [some (.ref 45), some (.int x1), some (.int x2), some (.int x3), none, some (.int v5), some (.int v6), some (.int (v7 ||| 0)), some (.int v8)] [] κ S38 (it_pi κ P)
              refine ev_iinc d_X6_kinds_124 kv_iconst_1 rfl (by decide) ?_
              show it_Ev g l 7 it_m_X6_kinds 0 0 127 [some (.ref 45), some (.int x1), some (.int x2), some (.int x3), none, some (.int v5), some (.int v6), some (.int (v7 ||| 0)), some (.int (v8 + 1))] [] κ S38 (it_pi κ P)
              refine ev_goto (tgt := 50) d_X6_kinds_127 (by decide) ?_
              refine ev_keep [true, true, true, true, false, true, true, true, true] ?_
              exact ih50 _ _ _ _ _ h
            · have h := it_ok_t h hc40
              refine ev_iconst d_X6_kinds_113 kv_iconst_1 ?_
              refine ev_iload d_X6_kinds_114 rfl ?_
              refine ev_ishl d_X6_kinds_116 ?_
              refine ev_goto (tgt := 121) d_X6_kinds_117 (by decide) ?_
              refine ev_ior d_X6_kinds_121 ?_
              refine ev_istore d_X6_kinds_122 (by decide) ?_
              show it_Ev g l 7 it_m_X6_kinds 0 0 124 [some (.ref 45), some (.int x1), some (.int x2), some (.int x3), none, some (.int v5), some (.int v6), some (.int (v7 ||| (1 <<< (v8 &&& 31)))), some (.int v8)] [] κ S38 (it_pi κ P)
              refine ev_iinc d_X6_kinds_124 kv_iconst_1 rfl (by decide) ?_
              show it_Ev g l 7 it_m_X6_kinds 0 0 127 [some (.ref 45), some (.int x1), some (.int x2), some (.int x3), none, some (.int v5), some (.int v6), some (.int (v7 ||| (1 <<< (v8 &&& 31)))), some (.int (v8 + 1))] [] κ S38 (it_pi κ P)
              refine ev_goto (tgt := 50) d_X6_kinds_127 (by decide) ?_
              refine ev_keep [true, true, true, true, false, true, true, true, true] ?_
              exact ih50 _ _ _ _ _ h
set_option maxHeartbeats 4000000 in
set_option maxRecDepth 100000 in
theorem L_X6_kinds {g : it_G} {l : Launch} {κ : it_KK} {x1 : Int32} {x2 : Int32} {x3 : Int32} (hm : it_wm κ) {S : it_SS} {P : Int32 → it_SS → Prop} (h : it_ok (f_X6_kinds κ x1 x2 x3 S) P) : it_Cn g l 7 it_m_X6_kinds [.ref 45, .int x1, .int x2, .int x3] κ S (it_pi κ P) := by
  refine it_Cn.of (by decide +kernel) (Nat.le_of_ble_eq_true rfl) ?_
  rw [f_X6_kinds] at h
  show it_Ev g l 7 it_m_X6_kinds 0 0 0 [some (.ref 45), some (.int x1), some (.int x2), some (.int x3), none, none, none, none, none] [] κ S (it_pi κ P)
  refine ev_aload_n d_X6_kinds_0 rfl ?_
  refine ev_iload_n d_X6_kinds_1 rfl ?_
  refine ev_iload_n d_X6_kinds_2 rfl ?_
  refine ev_callV (ci := 6) (b := 45) (M' := it_m_X6_toldWrong) (d' := 3) (As := [.int x1, .int x2]) d_X6_kinds_3 ml_IcedTooSoonModel_234 hm.1.1 hm.1.2.1 ⟨_, rfl, rfl⟩ rfl rfl (Nat.le_of_ble_eq_true rfl) (by decide) (by decide) (by decide) (L_X6_toldWrong hm (it_ok_b h)) (fun _ _ _ _ q => by cases q.1; rfl) ?_
  rintro _ _ S1 ⟨rfl, r2, rfl, h⟩
  show it_Ev g l 7 it_m_X6_kinds 0 0 6 [some (.ref 45), some (.int x1), some (.int x2), some (.int x3), none, none, none, none, none] [.int r2] κ S1 (it_pi κ P)
  refine ev_istore d_X6_kinds_6 (by decide) ?_
  show it_Ev g l 7 it_m_X6_kinds 0 0 8 [some (.ref 45), some (.int x1), some (.int x2), some (.int x3), some (.int r2), none, none, none, none] [] κ S1 (it_pi κ P)
  refine ev_iload d_X6_kinds_8 rfl ?_
  refine ev_if_eq (tgt := 16) d_X6_kinds_10 (by decide) (fun hc3 => ?_) (fun hc3 => ?_)
  · have h := it_ok_t h hc3
    refine ev_iload_n d_X6_kinds_16 rfl ?_
    refine ev_iconst d_X6_kinds_17 kv_iconst_0 ?_
    refine ev_iconst d_X6_kinds_18 kv_iconst_1 ?_
    refine ev_callS (M' := it_m_X6_in) (d' := 1) (As := [.int x3, .int 0, .int 1]) d_X6_kinds_19 ml_IcedTooSoonModel_78 rfl rfl (Nat.le_of_ble_eq_true rfl) (by decide) (by decide) (by decide) (L_X6_in  (it_ok_b h)) (fun _ _ _ _ q => by cases q.1; rfl) ?_
    rintro _ _ S4 ⟨rfl, r5, rfl, h⟩
    show it_Ev g l 7 it_m_X6_kinds 0 0 22 [some (.ref 45), some (.int x1), some (.int x2), some (.int x3), some (.int r2), none, none, none, none] [.int r5] κ S4 (it_pi κ P)
    refine ev_if_ne (tgt := 28) d_X6_kinds_22 (by decide) (fun hc6 => ?_) (fun hc6 => ?_)
    · have h := it_ok_f h hc6
      refine ev_aload_n d_X6_kinds_28 rfl ?_
      refine ev_getRr (r := 46) rfl d_X6_kinds_29 fl_IcedTooSoonModel_7 hm.1 rfl ?_
      refine ev_iload_n d_X6_kinds_32 rfl ?_
      obtain ⟨hb7, h⟩ := it_ok_g h
      refine ev_iald d_X6_kinds_33 (hm).2.1 (it_bd_in hb7) ?_
      refine ev_istore d_X6_kinds_34 (by decide) ?_
      show it_Ev g l 7 it_m_X6_kinds 0 0 36 [some (.ref 45), some (.int x1), some (.int x2), some (.int x3), some (.int r2), some (.int (S4 46 (x2 : Int32).toNatClampNeg)), none, none, none] [] κ S4 (it_pi κ P)
      refine ev_aload_n d_X6_kinds_36 rfl ?_
      refine ev_getRr (r := 47) rfl d_X6_kinds_37 fl_IcedTooSoonModel_13 hm.1 rfl ?_
      refine ev_iload_n d_X6_kinds_40 rfl ?_
      refine ev_iald d_X6_kinds_41 (hm).2.2.1 (it_bd_in hb7) ?_
      refine ev_istore d_X6_kinds_42 (by decide) ?_
      show it_Ev g l 7 it_m_X6_kinds 0 0 44 [some (.ref 45), some (.int x1), some (.int x2), some (.int x3), some (.int r2), some (.int (S4 46 (x2 : Int32).toNatClampNeg)), some (.int (S4 47 (x2 : Int32).toNatClampNeg)), none, none] [] κ S4 (it_pi κ P)
      refine ev_iconst d_X6_kinds_44 kv_iconst_0 ?_
      refine ev_istore d_X6_kinds_45 (by decide) ?_
      show it_Ev g l 7 it_m_X6_kinds 0 0 47 [some (.ref 45), some (.int x1), some (.int x2), some (.int x3), some (.int r2), some (.int (S4 46 (x2 : Int32).toNatClampNeg)), some (.int (S4 47 (x2 : Int32).toNatClampNeg)), some (.int 0), none] [] κ S4 (it_pi κ P)
      refine ev_iconst d_X6_kinds_47 kv_iconst_0 ?_
      refine ev_istore d_X6_kinds_48 (by decide) ?_
      show it_Ev g l 7 it_m_X6_kinds 0 0 50 [some (.ref 45), some (.int x1), some (.int x2), some (.int x3), some (.int r2), some (.int (S4 46 (x2 : Int32).toNatClampNeg)), some (.int (S4 47 (x2 : Int32).toNatClampNeg)), some (.int 0), some (.int 0)] [] κ S4 (it_pi κ P)
      refine ev_keep [true, true, true, true, false, true, true, true, true] ?_
      refine Llp_X6_kinds_50 hm hb7 (fun v41 v42 v43 S44 h => ?_) _ _ _ _ _ _ h
      show it_Ev g l 7 it_m_X6_kinds 0 0 130 [some (.ref 45), none, some (.int x2), none, none, some (.int v41), some (.int v42), some (.int v43), none] [] κ S44 (it_pi κ P)
      refine ev_aload_n d_X6_kinds_130 rfl ?_
      refine ev_getRr (r := 46) rfl d_X6_kinds_131 fl_IcedTooSoonModel_7 hm.1 rfl ?_
      refine ev_iload_n d_X6_kinds_134 rfl ?_
      refine ev_iload d_X6_kinds_135 rfl ?_
      refine ev_iast d_X6_kinds_137 (by decide) (hm).2.1 (it_bd_in hb7) ?_
      refine ev_aload_n d_X6_kinds_138 rfl ?_
      refine ev_getRr (r := 47) rfl d_X6_kinds_139 fl_IcedTooSoonModel_13 hm.1 rfl ?_
      refine ev_iload_n d_X6_kinds_142 rfl ?_
      refine ev_iload d_X6_kinds_143 rfl ?_
      refine ev_iast d_X6_kinds_145 (by decide) (hm).2.2.1 (it_bd_in hb7) ?_
      refine ev_iload d_X6_kinds_146 rfl ?_
      exact ev_ret (v := some (.int _)) ⟨d_X6_kinds_148, _, rfl, rfl⟩ (by decide) (by decide) ⟨rfl, _, rfl, it_ok_r h⟩
    · have h := it_ok_t h hc6
      refine ev_bipush d_X6_kinds_25 kv_bipush_m7 ?_
      exact ev_ret (v := some (.int _)) ⟨d_X6_kinds_27, _, rfl, rfl⟩ (by decide) (by decide) ⟨rfl, _, rfl, it_ok_r h⟩
  · have h := it_ok_f h hc3
    refine ev_iload d_X6_kinds_13 rfl ?_
    exact ev_ret (v := some (.int _)) ⟨d_X6_kinds_15, _, rfl, rfl⟩ (by decide) (by decide) ⟨rfl, _, rfl, it_ok_r h⟩
theorem d_X6_states_0 : decode prog_8_method_66_code 0 = .ok (.aload_n 0, 1) := by decide +kernel
theorem d_X6_states_1 : decode prog_8_method_66_code 1 = .ok (.iload_n 1, 1) := by decide +kernel
theorem d_X6_states_2 : decode prog_8_method_66_code 2 = .ok (.iload_n 2, 1) := by decide +kernel
theorem d_X6_states_3 : decode prog_8_method_66_code 3 = .ok (.invokevirtual 234, 3) := by decide +kernel
theorem d_X6_states_6 : decode prog_8_method_66_code 6 = .ok (.istore 5, 2) := by decide +kernel
theorem d_X6_states_8 : decode prog_8_method_66_code 8 = .ok (.iload 5, 2) := by decide +kernel
theorem d_X6_states_10 : decode prog_8_method_66_code 10 = .ok (.ifCond .eq 10, 3) := by decide +kernel
theorem d_X6_states_13 : decode prog_8_method_66_code 13 = .ok (.iload 5, 2) := by decide +kernel
theorem d_X6_states_15 : decode prog_8_method_66_code 15 = .ok (.sipush 1000, 3) := by decide +kernel
theorem d_X6_states_18 : decode prog_8_method_66_code 18 = .ok (.isub, 1) := by decide +kernel
theorem d_X6_states_19 : decode prog_8_method_66_code 19 = .ok (.ireturn, 1) := by decide +kernel
theorem d_X6_states_20 : decode prog_8_method_66_code 20 = .ok (.iload_n 3, 1) := by decide +kernel
theorem d_X6_states_21 : decode prog_8_method_66_code 21 = .ok (.iconst 0, 1) := by decide +kernel
theorem d_X6_states_22 : decode prog_8_method_66_code 22 = .ok (.iconst 1, 1) := by decide +kernel
theorem d_X6_states_23 : decode prog_8_method_66_code 23 = .ok (.invokestatic 78, 3) := by decide +kernel
theorem d_X6_states_26 : decode prog_8_method_66_code 26 = .ok (.ifCond .eq 13, 3) := by decide +kernel
theorem d_X6_states_29 : decode prog_8_method_66_code 29 = .ok (.iload 4, 2) := by decide +kernel
theorem d_X6_states_31 : decode prog_8_method_66_code 31 = .ok (.iconst 0, 1) := by decide +kernel
theorem d_X6_states_32 : decode prog_8_method_66_code 32 = .ok (.iconst 1, 1) := by decide +kernel
theorem d_X6_states_33 : decode prog_8_method_66_code 33 = .ok (.invokestatic 78, 3) := by decide +kernel
theorem d_X6_states_36 : decode prog_8_method_66_code 36 = .ok (.ifCond .ne 7, 3) := by decide +kernel
theorem d_X6_states_39 : decode prog_8_method_66_code 39 = .ok (.sipush (-7000), 3) := by decide +kernel
theorem d_X6_states_42 : decode prog_8_method_66_code 42 = .ok (.ireturn, 1) := by decide +kernel
theorem d_X6_states_43 : decode prog_8_method_66_code 43 = .ok (.aload_n 0, 1) := by decide +kernel
theorem d_X6_states_44 : decode prog_8_method_66_code 44 = .ok (.getfield 16, 3) := by decide +kernel
theorem d_X6_states_47 : decode prog_8_method_66_code 47 = .ok (.iconst 2, 1) := by decide +kernel
theorem d_X6_states_48 : decode prog_8_method_66_code 48 = .ok (.iload_n 2, 1) := by decide +kernel
theorem d_X6_states_49 : decode prog_8_method_66_code 49 = .ok (.imul, 1) := by decide +kernel
theorem d_X6_states_50 : decode prog_8_method_66_code 50 = .ok (.iload_n 3, 1) := by decide +kernel
theorem d_X6_states_51 : decode prog_8_method_66_code 51 = .ok (.iadd, 1) := by decide +kernel
theorem d_X6_states_52 : decode prog_8_method_66_code 52 = .ok (.iaload, 1) := by decide +kernel
theorem d_X6_states_53 : decode prog_8_method_66_code 53 = .ok (.istore 6, 2) := by decide +kernel
theorem d_X6_states_55 : decode prog_8_method_66_code 55 = .ok (.iconst 0, 1) := by decide +kernel
theorem d_X6_states_56 : decode prog_8_method_66_code 56 = .ok (.istore 7, 2) := by decide +kernel
theorem d_X6_states_58 : decode prog_8_method_66_code 58 = .ok (.sipush (-1000), 3) := by decide +kernel
theorem d_X6_states_61 : decode prog_8_method_66_code 61 = .ok (.istore 8, 2) := by decide +kernel
theorem d_X6_states_63 : decode prog_8_method_66_code 63 = .ok (.iload_n 3, 1) := by decide +kernel
theorem d_X6_states_64 : decode prog_8_method_66_code 64 = .ok (.ifCond .ne 8, 3) := by decide +kernel
theorem d_X6_states_67 : decode prog_8_method_66_code 67 = .ok (.bipush (-99), 2) := by decide +kernel
theorem d_X6_states_69 : decode prog_8_method_66_code 69 = .ok (.goto 4, 3) := by decide +kernel
theorem d_X6_states_72 : decode prog_8_method_66_code 72 = .ok (.iconst 0, 1) := by decide +kernel
theorem d_X6_states_73 : decode prog_8_method_66_code 73 = .ok (.istore 9, 2) := by decide +kernel
theorem d_X6_states_75 : decode prog_8_method_66_code 75 = .ok (.iload 9, 2) := by decide +kernel
theorem d_X6_states_77 : decode prog_8_method_66_code 77 = .ok (.bipush 99, 2) := by decide +kernel
theorem d_X6_states_79 : decode prog_8_method_66_code 79 = .ok (.if_icmp .gt 75, 3) := by decide +kernel
theorem d_X6_states_82 : decode prog_8_method_66_code 82 = .ok (.aload_n 0, 1) := by decide +kernel
theorem d_X6_states_83 : decode prog_8_method_66_code 83 = .ok (.getfield 16, 3) := by decide +kernel
theorem d_X6_states_86 : decode prog_8_method_66_code 86 = .ok (.iconst 2, 1) := by decide +kernel
theorem d_X6_states_87 : decode prog_8_method_66_code 87 = .ok (.iload_n 2, 1) := by decide +kernel
theorem d_X6_states_88 : decode prog_8_method_66_code 88 = .ok (.imul, 1) := by decide +kernel
theorem d_X6_states_89 : decode prog_8_method_66_code 89 = .ok (.iload_n 3, 1) := by decide +kernel
theorem d_X6_states_90 : decode prog_8_method_66_code 90 = .ok (.iadd, 1) := by decide +kernel
theorem d_X6_states_91 : decode prog_8_method_66_code 91 = .ok (.iload 9, 2) := by decide +kernel
theorem d_X6_states_93 : decode prog_8_method_66_code 93 = .ok (.iastore, 1) := by decide +kernel
theorem d_X6_states_94 : decode prog_8_method_66_code 94 = .ok (.aload_n 0, 1) := by decide +kernel
theorem d_X6_states_95 : decode prog_8_method_66_code 95 = .ok (.iload_n 1, 1) := by decide +kernel
theorem d_X6_states_96 : decode prog_8_method_66_code 96 = .ok (.iload_n 2, 1) := by decide +kernel
theorem d_X6_states_97 : decode prog_8_method_66_code 97 = .ok (.invokevirtual 237, 3) := by decide +kernel
theorem d_X6_states_100 : decode prog_8_method_66_code 100 = .ok (.iconst (-1), 1) := by decide +kernel
theorem d_X6_states_101 : decode prog_8_method_66_code 101 = .ok (.if_icmp .ne 7, 3) := by decide +kernel
theorem d_X6_states_104 : decode prog_8_method_66_code 104 = .ok (.iconst 1, 1) := by decide +kernel
theorem d_X6_states_105 : decode prog_8_method_66_code 105 = .ok (.goto 4, 3) := by decide +kernel
theorem d_X6_states_108 : decode prog_8_method_66_code 108 = .ok (.iconst 0, 1) := by decide +kernel
theorem d_X6_states_109 : decode prog_8_method_66_code 109 = .ok (.istore 10, 2) := by decide +kernel
theorem d_X6_states_111 : decode prog_8_method_66_code 111 = .ok (.iload 7, 2) := by decide +kernel
theorem d_X6_states_113 : decode prog_8_method_66_code 113 = .ok (.iload 10, 2) := by decide +kernel
theorem d_X6_states_115 : decode prog_8_method_66_code 115 = .ok (.ifCond .eq 7, 3) := by decide +kernel
theorem d_X6_states_118 : decode prog_8_method_66_code 118 = .ok (.iconst 1, 1) := by decide +kernel
theorem d_X6_states_119 : decode prog_8_method_66_code 119 = .ok (.goto 4, 3) := by decide +kernel
theorem d_X6_states_122 : decode prog_8_method_66_code 122 = .ok (.iconst 0, 1) := by decide +kernel
theorem d_X6_states_123 : decode prog_8_method_66_code 123 = .ok (.iadd, 1) := by decide +kernel
theorem d_X6_states_124 : decode prog_8_method_66_code 124 = .ok (.istore 7, 2) := by decide +kernel
theorem d_X6_states_126 : decode prog_8_method_66_code 126 = .ok (.iload 10, 2) := by decide +kernel
theorem d_X6_states_128 : decode prog_8_method_66_code 128 = .ok (.ifCond .eq 16, 3) := by decide +kernel
theorem d_X6_states_131 : decode prog_8_method_66_code 131 = .ok (.iload 8, 2) := by decide +kernel
theorem d_X6_states_133 : decode prog_8_method_66_code 133 = .ok (.sipush (-1000), 3) := by decide +kernel
theorem d_X6_states_136 : decode prog_8_method_66_code 136 = .ok (.if_icmp .ne 8, 3) := by decide +kernel
theorem d_X6_states_139 : decode prog_8_method_66_code 139 = .ok (.iload 9, 2) := by decide +kernel
theorem d_X6_states_141 : decode prog_8_method_66_code 141 = .ok (.goto 5, 3) := by decide +kernel
theorem d_X6_states_144 : decode prog_8_method_66_code 144 = .ok (.iload 8, 2) := by decide +kernel
theorem d_X6_states_146 : decode prog_8_method_66_code 146 = .ok (.istore 8, 2) := by decide +kernel
theorem d_X6_states_148 : decode prog_8_method_66_code 148 = .ok (.iinc 9 1, 3) := by decide +kernel
theorem d_X6_states_151 : decode prog_8_method_66_code 151 = .ok (.goto (-76), 3) := by decide +kernel
theorem d_X6_states_154 : decode prog_8_method_66_code 154 = .ok (.aload_n 0, 1) := by decide +kernel
theorem d_X6_states_155 : decode prog_8_method_66_code 155 = .ok (.getfield 16, 3) := by decide +kernel
theorem d_X6_states_158 : decode prog_8_method_66_code 158 = .ok (.iconst 2, 1) := by decide +kernel
theorem d_X6_states_159 : decode prog_8_method_66_code 159 = .ok (.iload_n 2, 1) := by decide +kernel
theorem d_X6_states_160 : decode prog_8_method_66_code 160 = .ok (.imul, 1) := by decide +kernel
theorem d_X6_states_161 : decode prog_8_method_66_code 161 = .ok (.iload_n 3, 1) := by decide +kernel
theorem d_X6_states_162 : decode prog_8_method_66_code 162 = .ok (.iadd, 1) := by decide +kernel
theorem d_X6_states_163 : decode prog_8_method_66_code 163 = .ok (.iload 6, 2) := by decide +kernel
theorem d_X6_states_165 : decode prog_8_method_66_code 165 = .ok (.iastore, 1) := by decide +kernel
theorem d_X6_states_166 : decode prog_8_method_66_code 166 = .ok (.iload 4, 2) := by decide +kernel
theorem d_X6_states_168 : decode prog_8_method_66_code 168 = .ok (.ifCond .ne 8, 3) := by decide +kernel
theorem d_X6_states_171 : decode prog_8_method_66_code 171 = .ok (.iload 7, 2) := by decide +kernel
theorem d_X6_states_173 : decode prog_8_method_66_code 173 = .ok (.goto 5, 3) := by decide +kernel
theorem d_X6_states_176 : decode prog_8_method_66_code 176 = .ok (.iload 8, 2) := by decide +kernel
theorem d_X6_states_178 : decode prog_8_method_66_code 178 = .ok (.ireturn, 1) := by decide +kernel
def lp_X6_states_75 (κ : it_KK) (x1 : Int32) (x2 : Int32) (x3 : Int32) (x4 : Int32) (k75 : (Int32 → Int32 → Int32 → it_SS → Option (Int32 × it_SS))) : Nat → Int32 → Int32 → Int32 → Int32 → it_SS → Option (Int32 × it_SS)
  | 0, _, _, _, _, _ => none
  | n75 + 1, v6, v7, v8, v9, S => if 99 < v9 then
k75 v6 v7 v8 S
else
if it_bd ((2 * x2) + x3) 12 = true then
it_bi (f_X6_unlike κ x1 x2 (it_up S 48 (((2 * x2) + x3) : Int32).toNatClampNeg v9)) (fun r15 S14 =>
if r15 = (-1) then
if v8 = (-1000) then
lp_X6_states_75 κ x1 x2 x3 x4 k75 n75 v6 (v7 + 1) v9 (v9 + 1) S14
else
lp_X6_states_75 κ x1 x2 x3 x4 k75 n75 v6 (v7 + 1) v8 (v9 + 1) S14
else
lp_X6_states_75 κ x1 x2 x3 x4 k75 n75 v6 (v7 + 0) v8 (v9 + 1) S14)
else none
def f_X6_states (κ : it_KK) (x1 : Int32) (x2 : Int32) (x3 : Int32) (x4 : Int32) (S : it_SS) : Option (Int32 × it_SS) :=
it_bi (f_X6_toldWrong κ x1 x2 S) (fun r2 S1 =>
if r2 = 0 then
it_bi (f_X6_in κ x3 0 1 S1) (fun r5 S4 =>
if r5 = 0 then
some ((-7000), S4)
else
it_bi (f_X6_in κ x4 0 1 S4) (fun r8 S7 =>
if r8 = 0 then
some ((-7000), S7)
else
if it_bd ((2 * x2) + x3) 12 = true then
if x3 = 0 then
lp_X6_states_75 κ x1 x2 x3 x4 (fun v23 v24 v25 S26 =>
if x4 = 0 then
some (v24, it_up S26 48 (((2 * x2) + x3) : Int32).toNatClampNeg v23)
else
some (v25, it_up S26 48 (((2 * x2) + x3) : Int32).toNatClampNeg v23)) it_FU (S7 48 (((2 * x2) + x3) : Int32).toNatClampNeg) 0 (-1000) (-99) S7
else
lp_X6_states_75 κ x1 x2 x3 x4 (fun v18 v19 v20 S21 =>
if x4 = 0 then
some (v19, it_up S21 48 (((2 * x2) + x3) : Int32).toNatClampNeg v18)
else
some (v20, it_up S21 48 (((2 * x2) + x3) : Int32).toNatClampNeg v18)) it_FU (S7 48 (((2 * x2) + x3) : Int32).toNatClampNeg) 0 (-1000) 0 S7
else none))
else
some ((r2 - 1000), S1))
set_option maxHeartbeats 4000000 in
set_option maxRecDepth 100000 in
theorem Llp_X6_states_75 {g : it_G} {l : Launch} {κ : it_KK} {x1 : Int32} {x2 : Int32} {x3 : Int32} {x4 : Int32} (hm : it_wm κ) {P : Int32 → it_SS → Prop} {k75 : (Int32 → Int32 → Int32 → it_SS → Option (Int32 × it_SS))} (hk75 : ∀ (v6 : Int32) (v7 : Int32) (v8 : Int32) (S : it_SS), it_ok (k75 v6 v7 v8 S) P → it_Ev g l 7 it_m_X6_states 0 0 154 [some (.ref 45), none, some (.int x2), some (.int x3), some (.int x4), none, some (.int v6), some (.int v7), some (.int v8), none, none] [] κ S (it_pi κ P)) : ∀ (n : Nat) (v6 : Int32) (v7 : Int32) (v8 : Int32) (v9 : Int32) (S : it_SS), it_ok (lp_X6_states_75 κ x1 x2 x3 x4 k75 n v6 v7 v8 v9 S) P → it_Ev g l 7 it_m_X6_states 0 0 75 [some (.ref 45), some (.int x1), some (.int x2), some (.int x3), some (.int x4), none, some (.int v6), some (.int v7), some (.int v8), some (.int v9), none] [] κ S (it_pi κ P) := by
  intro n
  induction n with
  | zero =>
    intro _ _ _ _ _ h
    exact (it_ok_n h).elim
  | succ n75 ih75 =>
    intro v6 v7 v8 v9 S h
    rw [lp_X6_states_75] at h
    refine ev_iload d_X6_states_75 rfl ?_
    refine ev_bipush d_X6_states_77 kv_bipush_99 ?_
    refine ev_icmp_gt (tgt := 154) d_X6_states_79 (by decide) (fun hc12 => ?_) (fun hc12 => ?_)
    · have h := it_ok_t h hc12
      refine ev_keep [true, false, true, true, true, false, true, true, true, false, false] ?_
      exact hk75 _ _ _ _ h
    · have h := it_ok_f h hc12
      refine ev_aload_n d_X6_states_82 rfl ?_
      refine ev_getRr (r := 48) rfl d_X6_states_83 fl_IcedTooSoonModel_16 hm.1 rfl ?_
      refine ev_iconst d_X6_states_86 kv_iconst_2 ?_
      refine ev_iload_n d_X6_states_87 rfl ?_
      refine ev_imul d_X6_states_88 ?_
      refine ev_iload_n d_X6_states_89 rfl ?_
      refine ev_iadd d_X6_states_90 ?_
      refine ev_iload d_X6_states_91 rfl ?_
      obtain ⟨hb13, h⟩ := it_ok_g h
      refine ev_iast d_X6_states_93 (by decide) (hm).2.2.2.1 (it_bd_in hb13) ?_
      refine ev_aload_n d_X6_states_94 rfl ?_
      refine ev_iload_n d_X6_states_95 rfl ?_
      refine ev_iload_n d_X6_states_96 rfl ?_
      refine ev_callV (ci := 6) (b := 45) (M' := it_m_X6_unlike) (d' := 6) (As := [.int x1, .int x2]) d_X6_states_97 ml_IcedTooSoonModel_237 hm.1.1 hm.1.2.1 ⟨_, rfl, rfl⟩ rfl rfl (Nat.le_of_ble_eq_true rfl) (by decide) (by decide) (by decide) (L_X6_unlike hm (it_ok_b h)) (fun _ _ _ _ q => by cases q.1; rfl) ?_
      rintro _ _ S14 ⟨rfl, r15, rfl, h⟩
      show it_Ev g l 7 it_m_X6_states 0 0 100 [some (.ref 45), some (.int x1), some (.int x2), some (.int x3), some (.int x4), none, some (.int v6), some (.int v7), some (.int v8), some (.int v9), none] [.int r15] κ S14 (it_pi κ P)
      refine ev_iconst d_X6_states_100 kv_iconst_m1 ?_
      refine ev_icmp_ne (tgt := 108) d_X6_states_101 (by decide) (fun hc16 => ?_) (fun hc16 => ?_)
      · have h := it_ok_f h hc16
        refine ev_iconst d_X6_states_108 kv_iconst_0 ?_
        refine ev_istore d_X6_states_109 (by decide) ?_
        show it_Ev g l 7 it_m_X6_states 0 0 111 [some (.ref 45), some (.int x1), some (.int x2), some (.int x3), some (.int x4), none, some (.int v6), some (.int v7), some (.int v8), some (.int v9), some (.int 0)] [] κ S14 (it_pi κ P)
        refine ev_iload d_X6_states_111 rfl ?_
        refine ev_iload d_X6_states_113 rfl ?_
        refine ev_if_eq (tgt := 122) d_X6_states_115 (by decide) (fun _ => ?_) (fun hc => absurd (by decide) hc)
        refine ev_iconst d_X6_states_122 kv_iconst_0 ?_
        refine ev_iadd d_X6_states_123 ?_
        refine ev_istore d_X6_states_124 (by decide) ?_
        show it_Ev g l 7 it_m_X6_states 0 0 126 [some (.ref 45), some (.int x1), some (.int x2), some (.int x3), some (.int x4), none, some (.int v6), some (.int (v7 + 0)), some (.int v8), some (.int v9), some (.int 0)] [] κ S14 (it_pi κ P)
        refine ev_iload d_X6_states_126 rfl ?_
        refine ev_if_eq (tgt := 144) d_X6_states_128 (by decide) (fun _ => ?_) (fun hc => absurd (by decide) hc)
        refine ev_iload d_X6_states_144 rfl ?_
        refine ev_istore d_X6_states_146 (by decide) ?_
        show it_Ev g l 7 it_m_X6_states 0 0 148 [some (.ref 45), some (.int x1), some (.int x2), some (.int x3), some (.int x4), none, some (.int v6), some (.int (v7 + 0)), some (.int v8), some (.int v9), some (.int 0)] [] κ S14 (it_pi κ P)
        refine ev_iinc d_X6_states_148 kv_iconst_1 rfl (by decide) ?_
        show it_Ev g l 7 it_m_X6_states 0 0 151 [some (.ref 45), some (.int x1), some (.int x2), some (.int x3), some (.int x4), none, some (.int v6), some (.int (v7 + 0)), some (.int v8), some (.int (v9 + 1)), some (.int 0)] [] κ S14 (it_pi κ P)
        refine ev_goto (tgt := 75) d_X6_states_151 (by decide) ?_
        refine ev_keep [true, true, true, true, true, false, true, true, true, true, false] ?_
        exact ih75 _ _ _ _ _ h
      · have h := it_ok_t h hc16
        refine ev_iconst d_X6_states_104 kv_iconst_1 ?_
        refine ev_goto (tgt := 109) d_X6_states_105 (by decide) ?_
        refine ev_istore d_X6_states_109 (by decide) ?_
        show it_Ev g l 7 it_m_X6_states 0 0 111 [some (.ref 45), some (.int x1), some (.int x2), some (.int x3), some (.int x4), none, some (.int v6), some (.int v7), some (.int v8), some (.int v9), some (.int 1)] [] κ S14 (it_pi κ P)
        refine ev_iload d_X6_states_111 rfl ?_
        refine ev_iload d_X6_states_113 rfl ?_
        refine ev_if_eq (tgt := 122) d_X6_states_115 (by decide) (fun hc => absurd hc (by decide)) (fun _ => ?_)
        refine ev_iconst d_X6_states_118 kv_iconst_1 ?_
        refine ev_goto (tgt := 123) d_X6_states_119 (by decide) ?_
        refine ev_iadd d_X6_states_123 ?_
        refine ev_istore d_X6_states_124 (by decide) ?_
        show it_Ev g l 7 it_m_X6_states 0 0 126 [some (.ref 45), some (.int x1), some (.int x2), some (.int x3), some (.int x4), none, some (.int v6), some (.int (v7 + 1)), some (.int v8), some (.int v9), some (.int 1)] [] κ S14 (it_pi κ P)
        refine ev_iload d_X6_states_126 rfl ?_
        refine ev_if_eq (tgt := 144) d_X6_states_128 (by decide) (fun hc => absurd hc (by decide)) (fun _ => ?_)
        refine ev_iload d_X6_states_131 rfl ?_
        refine ev_sipush d_X6_states_133 kv_sipush_m1000 ?_
        refine ev_icmp_ne (tgt := 144) d_X6_states_136 (by decide) (fun hc17 => ?_) (fun hc17 => ?_)
        · have h := it_ok_f h hc17
          refine ev_iload d_X6_states_144 rfl ?_
          refine ev_istore d_X6_states_146 (by decide) ?_
          show it_Ev g l 7 it_m_X6_states 0 0 148 [some (.ref 45), some (.int x1), some (.int x2), some (.int x3), some (.int x4), none, some (.int v6), some (.int (v7 + 1)), some (.int v8), some (.int v9), some (.int 1)] [] κ S14 (it_pi κ P)
          refine ev_iinc d_X6_states_148 kv_iconst_1 rfl (by decide) ?_
          show it_Ev g l 7 it_m_X6_states 0 0 151 [some (.ref 45), some (.int x1), some (.int x2), some (.int x3), some (.int x4), none, some (.int v6), some (.int (v7 + 1)), some (.int v8), some (.int (v9 + 1)), some (.int 1)] [] κ S14 (it_pi κ P)
          refine ev_goto (tgt := 75) d_X6_states_151 (by decide) ?_
          refine ev_keep [true, true, true, true, true, false, true, true, true, true, false] ?_
          exact ih75 _ _ _ _ _ h
        · have h := it_ok_t h hc17
          refine ev_iload d_X6_states_139 rfl ?_
          refine ev_goto (tgt := 146) d_X6_states_141 (by decide) ?_
          refine ev_istore d_X6_states_146 (by decide) ?_
          show it_Ev g l 7 it_m_X6_states 0 0 148 [some (.ref 45), some (.int x1), some (.int x2), some (.int x3), some (.int x4), none, some (.int v6), some (.int (v7 + 1)), some (.int v9), some (.int v9), some (.int 1)] [] κ S14 (it_pi κ P)
          refine ev_iinc d_X6_states_148 kv_iconst_1 rfl (by decide) ?_
          show it_Ev g l 7 it_m_X6_states 0 0 151 [some (.ref 45), some (.int x1), some (.int x2), some (.int x3), some (.int x4), none, some (.int v6), some (.int (v7 + 1)), some (.int v9), some (.int (v9 + 1)), some (.int 1)] [] κ S14 (it_pi κ P)
          refine ev_goto (tgt := 75) d_X6_states_151 (by decide) ?_
          refine ev_keep [true, true, true, true, true, false, true, true, true, true, false] ?_
          exact ih75 _ _ _ _ _ h
set_option maxHeartbeats 4000000 in
set_option maxRecDepth 100000 in
theorem L_X6_states {g : it_G} {l : Launch} {κ : it_KK} {x1 : Int32} {x2 : Int32} {x3 : Int32} {x4 : Int32} (hm : it_wm κ) {S : it_SS} {P : Int32 → it_SS → Prop} (h : it_ok (f_X6_states κ x1 x2 x3 x4 S) P) : it_Cn g l 7 it_m_X6_states [.ref 45, .int x1, .int x2, .int x3, .int x4] κ S (it_pi κ P) := by
  refine it_Cn.of (by decide +kernel) (Nat.le_of_ble_eq_true rfl) ?_
  rw [f_X6_states] at h
  show it_Ev g l 7 it_m_X6_states 0 0 0 [some (.ref 45), some (.int x1), some (.int x2), some (.int x3), some (.int x4), none, none, none, none, none, none] [] κ S (it_pi κ P)
  refine ev_aload_n d_X6_states_0 rfl ?_
  refine ev_iload_n d_X6_states_1 rfl ?_
  refine ev_iload_n d_X6_states_2 rfl ?_
  refine ev_callV (ci := 6) (b := 45) (M' := it_m_X6_toldWrong) (d' := 3) (As := [.int x1, .int x2]) d_X6_states_3 ml_IcedTooSoonModel_234 hm.1.1 hm.1.2.1 ⟨_, rfl, rfl⟩ rfl rfl (Nat.le_of_ble_eq_true rfl) (by decide) (by decide) (by decide) (L_X6_toldWrong hm (it_ok_b h)) (fun _ _ _ _ q => by cases q.1; rfl) ?_
  rintro _ _ S1 ⟨rfl, r2, rfl, h⟩
  show it_Ev g l 7 it_m_X6_states 0 0 6 [some (.ref 45), some (.int x1), some (.int x2), some (.int x3), some (.int x4), none, none, none, none, none, none] [.int r2] κ S1 (it_pi κ P)
  refine ev_istore d_X6_states_6 (by decide) ?_
  show it_Ev g l 7 it_m_X6_states 0 0 8 [some (.ref 45), some (.int x1), some (.int x2), some (.int x3), some (.int x4), some (.int r2), none, none, none, none, none] [] κ S1 (it_pi κ P)
  refine ev_iload d_X6_states_8 rfl ?_
  refine ev_if_eq (tgt := 20) d_X6_states_10 (by decide) (fun hc3 => ?_) (fun hc3 => ?_)
  · have h := it_ok_t h hc3
    refine ev_iload_n d_X6_states_20 rfl ?_
    refine ev_iconst d_X6_states_21 kv_iconst_0 ?_
    refine ev_iconst d_X6_states_22 kv_iconst_1 ?_
    refine ev_callS (M' := it_m_X6_in) (d' := 1) (As := [.int x3, .int 0, .int 1]) d_X6_states_23 ml_IcedTooSoonModel_78 rfl rfl (Nat.le_of_ble_eq_true rfl) (by decide) (by decide) (by decide) (L_X6_in  (it_ok_b h)) (fun _ _ _ _ q => by cases q.1; rfl) ?_
    rintro _ _ S4 ⟨rfl, r5, rfl, h⟩
    show it_Ev g l 7 it_m_X6_states 0 0 26 [some (.ref 45), some (.int x1), some (.int x2), some (.int x3), some (.int x4), some (.int r2), none, none, none, none, none] [.int r5] κ S4 (it_pi κ P)
    refine ev_if_eq (tgt := 39) d_X6_states_26 (by decide) (fun hc6 => ?_) (fun hc6 => ?_)
    · have h := it_ok_t h hc6
      refine ev_sipush d_X6_states_39 kv_sipush_m7000 ?_
      exact ev_ret (v := some (.int _)) ⟨d_X6_states_42, _, rfl, rfl⟩ (by decide) (by decide) ⟨rfl, _, rfl, it_ok_r h⟩
    · have h := it_ok_f h hc6
      refine ev_iload d_X6_states_29 rfl ?_
      refine ev_iconst d_X6_states_31 kv_iconst_0 ?_
      refine ev_iconst d_X6_states_32 kv_iconst_1 ?_
      refine ev_callS (M' := it_m_X6_in) (d' := 1) (As := [.int x4, .int 0, .int 1]) d_X6_states_33 ml_IcedTooSoonModel_78 rfl rfl (Nat.le_of_ble_eq_true rfl) (by decide) (by decide) (by decide) (L_X6_in  (it_ok_b h)) (fun _ _ _ _ q => by cases q.1; rfl) ?_
      rintro _ _ S7 ⟨rfl, r8, rfl, h⟩
      show it_Ev g l 7 it_m_X6_states 0 0 36 [some (.ref 45), some (.int x1), some (.int x2), some (.int x3), some (.int x4), some (.int r2), none, none, none, none, none] [.int r8] κ S7 (it_pi κ P)
      refine ev_if_ne (tgt := 43) d_X6_states_36 (by decide) (fun hc9 => ?_) (fun hc9 => ?_)
      · have h := it_ok_f h hc9
        refine ev_aload_n d_X6_states_43 rfl ?_
        refine ev_getRr (r := 48) rfl d_X6_states_44 fl_IcedTooSoonModel_16 hm.1 rfl ?_
        refine ev_iconst d_X6_states_47 kv_iconst_2 ?_
        refine ev_iload_n d_X6_states_48 rfl ?_
        refine ev_imul d_X6_states_49 ?_
        refine ev_iload_n d_X6_states_50 rfl ?_
        refine ev_iadd d_X6_states_51 ?_
        obtain ⟨hb10, h⟩ := it_ok_g h
        refine ev_iald d_X6_states_52 (hm).2.2.2.1 (it_bd_in hb10) ?_
        refine ev_istore d_X6_states_53 (by decide) ?_
        show it_Ev g l 7 it_m_X6_states 0 0 55 [some (.ref 45), some (.int x1), some (.int x2), some (.int x3), some (.int x4), some (.int r2), some (.int (S7 48 (((2 * x2) + x3) : Int32).toNatClampNeg)), none, none, none, none] [] κ S7 (it_pi κ P)
        refine ev_iconst d_X6_states_55 kv_iconst_0 ?_
        refine ev_istore d_X6_states_56 (by decide) ?_
        show it_Ev g l 7 it_m_X6_states 0 0 58 [some (.ref 45), some (.int x1), some (.int x2), some (.int x3), some (.int x4), some (.int r2), some (.int (S7 48 (((2 * x2) + x3) : Int32).toNatClampNeg)), some (.int 0), none, none, none] [] κ S7 (it_pi κ P)
        refine ev_sipush d_X6_states_58 kv_sipush_m1000 ?_
        refine ev_istore d_X6_states_61 (by decide) ?_
        show it_Ev g l 7 it_m_X6_states 0 0 63 [some (.ref 45), some (.int x1), some (.int x2), some (.int x3), some (.int x4), some (.int r2), some (.int (S7 48 (((2 * x2) + x3) : Int32).toNatClampNeg)), some (.int 0), some (.int (-1000)), none, none] [] κ S7 (it_pi κ P)
        refine ev_iload_n d_X6_states_63 rfl ?_
        refine ev_if_ne (tgt := 72) d_X6_states_64 (by decide) (fun hc11 => ?_) (fun hc11 => ?_)
        · have h := it_ok_f h hc11
          refine ev_iconst d_X6_states_72 kv_iconst_0 ?_
          refine ev_istore d_X6_states_73 (by decide) ?_
          show it_Ev g l 7 it_m_X6_states 0 0 75 [some (.ref 45), some (.int x1), some (.int x2), some (.int x3), some (.int x4), some (.int r2), some (.int (S7 48 (((2 * x2) + x3) : Int32).toNatClampNeg)), some (.int 0), some (.int (-1000)), some (.int 0), none] [] κ S7 (it_pi κ P)
          refine ev_keep [true, true, true, true, true, false, true, true, true, true, false] ?_
          refine Llp_X6_states_75 hm (fun v18 v19 v20 S21 h => ?_) _ _ _ _ _ _ h
          show it_Ev g l 7 it_m_X6_states 0 0 154 [some (.ref 45), none, some (.int x2), some (.int x3), some (.int x4), none, some (.int v18), some (.int v19), some (.int v20), none, none] [] κ S21 (it_pi κ P)
          refine ev_aload_n d_X6_states_154 rfl ?_
          refine ev_getRr (r := 48) rfl d_X6_states_155 fl_IcedTooSoonModel_16 hm.1 rfl ?_
          refine ev_iconst d_X6_states_158 kv_iconst_2 ?_
          refine ev_iload_n d_X6_states_159 rfl ?_
          refine ev_imul d_X6_states_160 ?_
          refine ev_iload_n d_X6_states_161 rfl ?_
          refine ev_iadd d_X6_states_162 ?_
          refine ev_iload d_X6_states_163 rfl ?_
          refine ev_iast d_X6_states_165 (by decide) (hm).2.2.2.1 (it_bd_in hb10) ?_
          refine ev_iload d_X6_states_166 rfl ?_
          refine ev_if_ne (tgt := 176) d_X6_states_168 (by decide) (fun hc22 => ?_) (fun hc22 => ?_)
          · have h := it_ok_f h hc22
            refine ev_iload d_X6_states_176 rfl ?_
            exact ev_ret (v := some (.int _)) ⟨d_X6_states_178, _, rfl, rfl⟩ (by decide) (by decide) ⟨rfl, _, rfl, it_ok_r h⟩
          · have h := it_ok_t h hc22
            refine ev_iload d_X6_states_171 rfl ?_
            refine ev_goto (tgt := 178) d_X6_states_173 (by decide) ?_
            exact ev_ret (v := some (.int _)) ⟨d_X6_states_178, _, rfl, rfl⟩ (by decide) (by decide) ⟨rfl, _, rfl, it_ok_r h⟩
        · have h := it_ok_t h hc11
          refine ev_bipush d_X6_states_67 kv_bipush_m99 ?_
          refine ev_goto (tgt := 73) d_X6_states_69 (by decide) ?_
          refine ev_istore d_X6_states_73 (by decide) ?_
          show it_Ev g l 7 it_m_X6_states 0 0 75 [some (.ref 45), some (.int x1), some (.int x2), some (.int x3), some (.int x4), some (.int r2), some (.int (S7 48 (((2 * x2) + x3) : Int32).toNatClampNeg)), some (.int 0), some (.int (-1000)), some (.int (-99)), none] [] κ S7 (it_pi κ P)
          refine ev_keep [true, true, true, true, true, false, true, true, true, true, false] ?_
          refine Llp_X6_states_75 hm (fun v23 v24 v25 S26 h => ?_) _ _ _ _ _ _ h
          show it_Ev g l 7 it_m_X6_states 0 0 154 [some (.ref 45), none, some (.int x2), some (.int x3), some (.int x4), none, some (.int v23), some (.int v24), some (.int v25), none, none] [] κ S26 (it_pi κ P)
          refine ev_aload_n d_X6_states_154 rfl ?_
          refine ev_getRr (r := 48) rfl d_X6_states_155 fl_IcedTooSoonModel_16 hm.1 rfl ?_
          refine ev_iconst d_X6_states_158 kv_iconst_2 ?_
          refine ev_iload_n d_X6_states_159 rfl ?_
          refine ev_imul d_X6_states_160 ?_
          refine ev_iload_n d_X6_states_161 rfl ?_
          refine ev_iadd d_X6_states_162 ?_
          refine ev_iload d_X6_states_163 rfl ?_
          refine ev_iast d_X6_states_165 (by decide) (hm).2.2.2.1 (it_bd_in hb10) ?_
          refine ev_iload d_X6_states_166 rfl ?_
          refine ev_if_ne (tgt := 176) d_X6_states_168 (by decide) (fun hc27 => ?_) (fun hc27 => ?_)
          · have h := it_ok_f h hc27
            refine ev_iload d_X6_states_176 rfl ?_
            exact ev_ret (v := some (.int _)) ⟨d_X6_states_178, _, rfl, rfl⟩ (by decide) (by decide) ⟨rfl, _, rfl, it_ok_r h⟩
          · have h := it_ok_t h hc27
            refine ev_iload d_X6_states_171 rfl ?_
            refine ev_goto (tgt := 178) d_X6_states_173 (by decide) ?_
            exact ev_ret (v := some (.int _)) ⟨d_X6_states_178, _, rfl, rfl⟩ (by decide) (by decide) ⟨rfl, _, rfl, it_ok_r h⟩
      · have h := it_ok_t h hc9
        refine ev_sipush d_X6_states_39 kv_sipush_m7000 ?_
        exact ev_ret (v := some (.int _)) ⟨d_X6_states_42, _, rfl, rfl⟩ (by decide) (by decide) ⟨rfl, _, rfl, it_ok_r h⟩
  · have h := it_ok_f h hc3
    refine ev_iload d_X6_states_13 rfl ?_
    refine ev_sipush d_X6_states_15 kv_sipush_1000 ?_
    refine ev_isub d_X6_states_18 ?_
    exact ev_ret (v := some (.int _)) ⟨d_X6_states_19, _, rfl, rfl⟩ (by decide) (by decide) ⟨rfl, _, rfl, it_ok_r h⟩
theorem d_X6_owners_0 : decode prog_8_method_67_code 0 = .ok (.aload_n 0, 1) := by decide +kernel
theorem d_X6_owners_1 : decode prog_8_method_67_code 1 = .ok (.iload_n 1, 1) := by decide +kernel
theorem d_X6_owners_2 : decode prog_8_method_67_code 2 = .ok (.iload_n 2, 1) := by decide +kernel
theorem d_X6_owners_3 : decode prog_8_method_67_code 3 = .ok (.invokevirtual 234, 3) := by decide +kernel
theorem d_X6_owners_6 : decode prog_8_method_67_code 6 = .ok (.istore_n 3, 1) := by decide +kernel
theorem d_X6_owners_7 : decode prog_8_method_67_code 7 = .ok (.iload_n 3, 1) := by decide +kernel
theorem d_X6_owners_8 : decode prog_8_method_67_code 8 = .ok (.ifCond .eq 5, 3) := by decide +kernel
theorem d_X6_owners_11 : decode prog_8_method_67_code 11 = .ok (.iload_n 3, 1) := by decide +kernel
theorem d_X6_owners_12 : decode prog_8_method_67_code 12 = .ok (.ireturn, 1) := by decide +kernel
theorem d_X6_owners_13 : decode prog_8_method_67_code 13 = .ok (.iconst 0, 1) := by decide +kernel
theorem d_X6_owners_14 : decode prog_8_method_67_code 14 = .ok (.istore 4, 2) := by decide +kernel
theorem d_X6_owners_16 : decode prog_8_method_67_code 16 = .ok (.iconst 0, 1) := by decide +kernel
theorem d_X6_owners_17 : decode prog_8_method_67_code 17 = .ok (.istore 5, 2) := by decide +kernel
theorem d_X6_owners_19 : decode prog_8_method_67_code 19 = .ok (.iload 5, 2) := by decide +kernel
theorem d_X6_owners_21 : decode prog_8_method_67_code 21 = .ok (.bipush 10, 2) := by decide +kernel
theorem d_X6_owners_23 : decode prog_8_method_67_code 23 = .ok (.if_icmp .ge 76, 3) := by decide +kernel
theorem d_X6_owners_26 : decode prog_8_method_67_code 26 = .ok (.aload_n 0, 1) := by decide +kernel
theorem d_X6_owners_27 : decode prog_8_method_67_code 27 = .ok (.getfield 19, 3) := by decide +kernel
theorem d_X6_owners_30 : decode prog_8_method_67_code 30 = .ok (.iconst 3, 1) := by decide +kernel
theorem d_X6_owners_31 : decode prog_8_method_67_code 31 = .ok (.iload 5, 2) := by decide +kernel
theorem d_X6_owners_33 : decode prog_8_method_67_code 33 = .ok (.imul, 1) := by decide +kernel
theorem d_X6_owners_34 : decode prog_8_method_67_code 34 = .ok (.iaload, 1) := by decide +kernel
theorem d_X6_owners_35 : decode prog_8_method_67_code 35 = .ok (.istore 6, 2) := by decide +kernel
theorem d_X6_owners_37 : decode prog_8_method_67_code 37 = .ok (.iload 6, 2) := by decide +kernel
theorem d_X6_owners_39 : decode prog_8_method_67_code 39 = .ok (.iconst (-1), 1) := by decide +kernel
theorem d_X6_owners_40 : decode prog_8_method_67_code 40 = .ok (.if_icmp .eq 53, 3) := by decide +kernel
theorem d_X6_owners_43 : decode prog_8_method_67_code 43 = .ok (.iload 6, 2) := by decide +kernel
theorem d_X6_owners_45 : decode prog_8_method_67_code 45 = .ok (.iload_n 2, 1) := by decide +kernel
theorem d_X6_owners_46 : decode prog_8_method_67_code 46 = .ok (.if_icmp .eq 47, 3) := by decide +kernel
theorem d_X6_owners_49 : decode prog_8_method_67_code 49 = .ok (.aload_n 0, 1) := by decide +kernel
theorem d_X6_owners_50 : decode prog_8_method_67_code 50 = .ok (.getfield 19, 3) := by decide +kernel
theorem d_X6_owners_53 : decode prog_8_method_67_code 53 = .ok (.iconst 3, 1) := by decide +kernel
theorem d_X6_owners_54 : decode prog_8_method_67_code 54 = .ok (.iload 5, 2) := by decide +kernel
theorem d_X6_owners_56 : decode prog_8_method_67_code 56 = .ok (.imul, 1) := by decide +kernel
theorem d_X6_owners_57 : decode prog_8_method_67_code 57 = .ok (.iload_n 2, 1) := by decide +kernel
theorem d_X6_owners_58 : decode prog_8_method_67_code 58 = .ok (.iastore, 1) := by decide +kernel
theorem d_X6_owners_59 : decode prog_8_method_67_code 59 = .ok (.iload 4, 2) := by decide +kernel
theorem d_X6_owners_61 : decode prog_8_method_67_code 61 = .ok (.aload_n 0, 1) := by decide +kernel
theorem d_X6_owners_62 : decode prog_8_method_67_code 62 = .ok (.iload_n 1, 1) := by decide +kernel
theorem d_X6_owners_63 : decode prog_8_method_67_code 63 = .ok (.iload_n 2, 1) := by decide +kernel
theorem d_X6_owners_64 : decode prog_8_method_67_code 64 = .ok (.invokevirtual 237, 3) := by decide +kernel
theorem d_X6_owners_67 : decode prog_8_method_67_code 67 = .ok (.iconst (-1), 1) := by decide +kernel
theorem d_X6_owners_68 : decode prog_8_method_67_code 68 = .ok (.if_icmp .ne 10, 3) := by decide +kernel
theorem d_X6_owners_71 : decode prog_8_method_67_code 71 = .ok (.iconst 1, 1) := by decide +kernel
theorem d_X6_owners_72 : decode prog_8_method_67_code 72 = .ok (.iload 5, 2) := by decide +kernel
theorem d_X6_owners_74 : decode prog_8_method_67_code 74 = .ok (.ishl, 1) := by decide +kernel
theorem d_X6_owners_75 : decode prog_8_method_67_code 75 = .ok (.goto 4, 3) := by decide +kernel
theorem d_X6_owners_78 : decode prog_8_method_67_code 78 = .ok (.iconst 0, 1) := by decide +kernel
theorem d_X6_owners_79 : decode prog_8_method_67_code 79 = .ok (.ior, 1) := by decide +kernel
theorem d_X6_owners_80 : decode prog_8_method_67_code 80 = .ok (.istore 4, 2) := by decide +kernel
theorem d_X6_owners_82 : decode prog_8_method_67_code 82 = .ok (.aload_n 0, 1) := by decide +kernel
theorem d_X6_owners_83 : decode prog_8_method_67_code 83 = .ok (.getfield 19, 3) := by decide +kernel
theorem d_X6_owners_86 : decode prog_8_method_67_code 86 = .ok (.iconst 3, 1) := by decide +kernel
theorem d_X6_owners_87 : decode prog_8_method_67_code 87 = .ok (.iload 5, 2) := by decide +kernel
theorem d_X6_owners_89 : decode prog_8_method_67_code 89 = .ok (.imul, 1) := by decide +kernel
theorem d_X6_owners_90 : decode prog_8_method_67_code 90 = .ok (.iload 6, 2) := by decide +kernel
theorem d_X6_owners_92 : decode prog_8_method_67_code 92 = .ok (.iastore, 1) := by decide +kernel
theorem d_X6_owners_93 : decode prog_8_method_67_code 93 = .ok (.iinc 5 1, 3) := by decide +kernel
theorem d_X6_owners_96 : decode prog_8_method_67_code 96 = .ok (.goto (-77), 3) := by decide +kernel
theorem d_X6_owners_99 : decode prog_8_method_67_code 99 = .ok (.iload 4, 2) := by decide +kernel
theorem d_X6_owners_101 : decode prog_8_method_67_code 101 = .ok (.ireturn, 1) := by decide +kernel
def lp_X6_owners_19 (κ : it_KK) (x1 : Int32) (x2 : Int32) (k19 : (Int32 → it_SS → Option (Int32 × it_SS))) : Nat → Int32 → Int32 → it_SS → Option (Int32 × it_SS)
  | 0, _, _, _ => none
  | n19 + 1, v4, v5, S => if 10 ≤ v5 then
k19 v4 S
else
if it_bd (3 * v5) 30 = true then
if (S 49 ((3 * v5) : Int32).toNatClampNeg) = (-1) then
lp_X6_owners_19 κ x1 x2 k19 n19 v4 (v5 + 1) S
else
if (S 49 ((3 * v5) : Int32).toNatClampNeg) = x2 then
lp_X6_owners_19 κ x1 x2 k19 n19 v4 (v5 + 1) S
else
it_bi (f_X6_unlike κ x1 x2 (it_up S 49 ((3 * v5) : Int32).toNatClampNeg x2)) (fun r9 S8 =>
if r9 = (-1) then
lp_X6_owners_19 κ x1 x2 k19 n19 (v4 ||| (1 <<< (v5 &&& 31))) (v5 + 1) (it_up S8 49 ((3 * v5) : Int32).toNatClampNeg (S 49 ((3 * v5) : Int32).toNatClampNeg))
else
lp_X6_owners_19 κ x1 x2 k19 n19 (v4 ||| 0) (v5 + 1) (it_up S8 49 ((3 * v5) : Int32).toNatClampNeg (S 49 ((3 * v5) : Int32).toNatClampNeg)))
else none
def f_X6_owners (κ : it_KK) (x1 : Int32) (x2 : Int32) (S : it_SS) : Option (Int32 × it_SS) :=
it_bi (f_X6_toldWrong κ x1 x2 S) (fun r2 S1 =>
if r2 = 0 then
lp_X6_owners_19 κ x1 x2 (fun v11 S12 =>
some (v11, S12)) it_FU 0 0 S1
else
some (r2, S1))
set_option maxHeartbeats 4000000 in
set_option maxRecDepth 100000 in
theorem Llp_X6_owners_19 {g : it_G} {l : Launch} {κ : it_KK} {x1 : Int32} {x2 : Int32} (hm : it_wm κ) {P : Int32 → it_SS → Prop} {k19 : (Int32 → it_SS → Option (Int32 × it_SS))} (hk19 : ∀ (v4 : Int32) (S : it_SS), it_ok (k19 v4 S) P → it_Ev g l 7 it_m_X6_owners 0 0 99 [none, none, none, none, some (.int v4), none, none] [] κ S (it_pi κ P)) : ∀ (n : Nat) (v4 : Int32) (v5 : Int32) (S : it_SS), it_ok (lp_X6_owners_19 κ x1 x2 k19 n v4 v5 S) P → it_Ev g l 7 it_m_X6_owners 0 0 19 [some (.ref 45), some (.int x1), some (.int x2), none, some (.int v4), some (.int v5), none] [] κ S (it_pi κ P) := by
  intro n
  induction n with
  | zero =>
    intro _ _ _ h
    exact (it_ok_n h).elim
  | succ n19 ih19 =>
    intro v4 v5 S h
    rw [lp_X6_owners_19] at h
    refine ev_iload d_X6_owners_19 rfl ?_
    refine ev_bipush d_X6_owners_21 kv_bipush_10 ?_
    refine ev_icmp_ge (tgt := 99) d_X6_owners_23 (by decide) (fun hc4 => ?_) (fun hc4 => ?_)
    · have h := it_ok_t h hc4
      refine ev_keep [false, false, false, false, true, false, false] ?_
      exact hk19 _ _ h
    · have h := it_ok_f h hc4
      refine ev_aload_n d_X6_owners_26 rfl ?_
      refine ev_getRr (r := 49) rfl d_X6_owners_27 fl_IcedTooSoonModel_19 hm.1 rfl ?_
      refine ev_iconst d_X6_owners_30 kv_iconst_3 ?_
      refine ev_iload d_X6_owners_31 rfl ?_
      refine ev_imul d_X6_owners_33 ?_
      obtain ⟨hb5, h⟩ := it_ok_g h
      refine ev_iald d_X6_owners_34 (hm).2.2.2.2.1 (it_bd_in hb5) ?_
      refine ev_istore d_X6_owners_35 (by decide) ?_
      show it_Ev g l 7 it_m_X6_owners 0 0 37 [some (.ref 45), some (.int x1), some (.int x2), none, some (.int v4), some (.int v5), some (.int (S 49 ((3 * v5) : Int32).toNatClampNeg))] [] κ S (it_pi κ P)
      refine ev_iload d_X6_owners_37 rfl ?_
      refine ev_iconst d_X6_owners_39 kv_iconst_m1 ?_
      refine ev_icmp_eq (tgt := 93) d_X6_owners_40 (by decide) (fun hc6 => ?_) (fun hc6 => ?_)
      · have h := it_ok_t h hc6
        refine ev_iinc d_X6_owners_93 kv_iconst_1 rfl (by decide) ?_
        show it_Ev g l 7 it_m_X6_owners 0 0 96 [some (.ref 45), some (.int x1), some (.int x2), none, some (.int v4), some (.int (v5 + 1)), some (.int (S 49 ((3 * v5) : Int32).toNatClampNeg))] [] κ S (it_pi κ P)
        refine ev_goto (tgt := 19) d_X6_owners_96 (by decide) ?_
        refine ev_keep [true, true, true, false, true, true, false] ?_
        exact ih19 _ _ _ h
      · have h := it_ok_f h hc6
        refine ev_iload d_X6_owners_43 rfl ?_
        refine ev_iload_n d_X6_owners_45 rfl ?_
        refine ev_icmp_eq (tgt := 93) d_X6_owners_46 (by decide) (fun hc7 => ?_) (fun hc7 => ?_)
        · have h := it_ok_t h hc7
          refine ev_iinc d_X6_owners_93 kv_iconst_1 rfl (by decide) ?_
          show it_Ev g l 7 it_m_X6_owners 0 0 96 [some (.ref 45), some (.int x1), some (.int x2), none, some (.int v4), some (.int (v5 + 1)), some (.int (S 49 ((3 * v5) : Int32).toNatClampNeg))] [] κ S (it_pi κ P)
          refine ev_goto (tgt := 19) d_X6_owners_96 (by decide) ?_
          refine ev_keep [true, true, true, false, true, true, false] ?_
          exact ih19 _ _ _ h
        · have h := it_ok_f h hc7
          refine ev_aload_n d_X6_owners_49 rfl ?_
          refine ev_getRr (r := 49) rfl d_X6_owners_50 fl_IcedTooSoonModel_19 hm.1 rfl ?_
          refine ev_iconst d_X6_owners_53 kv_iconst_3 ?_
          refine ev_iload d_X6_owners_54 rfl ?_
          refine ev_imul d_X6_owners_56 ?_
          refine ev_iload_n d_X6_owners_57 rfl ?_
          refine ev_iast d_X6_owners_58 (by decide) (hm).2.2.2.2.1 (it_bd_in hb5) ?_
          refine ev_iload d_X6_owners_59 rfl ?_
          refine ev_aload_n d_X6_owners_61 rfl ?_
          refine ev_iload_n d_X6_owners_62 rfl ?_
          refine ev_iload_n d_X6_owners_63 rfl ?_
          refine ev_callV (ci := 6) (b := 45) (M' := it_m_X6_unlike) (d' := 6) (As := [.int x1, .int x2]) d_X6_owners_64 ml_IcedTooSoonModel_237 hm.1.1 hm.1.2.1 ⟨_, rfl, rfl⟩ rfl rfl (Nat.le_of_ble_eq_true rfl) (by decide) (by decide) (by decide) (L_X6_unlike hm (it_ok_b h)) (fun _ _ _ _ q => by cases q.1; rfl) ?_
          rintro _ _ S8 ⟨rfl, r9, rfl, h⟩
          show it_Ev g l 7 it_m_X6_owners 0 0 67 [some (.ref 45), some (.int x1), some (.int x2), none, some (.int v4), some (.int v5), some (.int (S 49 ((3 * v5) : Int32).toNatClampNeg))] [.int r9, .int v4] κ S8 (it_pi κ P)
          refine ev_iconst d_X6_owners_67 kv_iconst_m1 ?_
          refine ev_icmp_ne (tgt := 78) d_X6_owners_68 (by decide) (fun hc10 => ?_) (fun hc10 => ?_)
          · have h := it_ok_f h hc10
            refine ev_iconst d_X6_owners_78 kv_iconst_0 ?_
            refine ev_ior d_X6_owners_79 ?_
            refine ev_istore d_X6_owners_80 (by decide) ?_
            show it_Ev g l 7 it_m_X6_owners 0 0 82 [some (.ref 45), some (.int x1), some (.int x2), none, some (.int (v4 ||| 0)), some (.int v5), some (.int (S 49 ((3 * v5) : Int32).toNatClampNeg))] [] κ S8 (it_pi κ P)
            refine ev_aload_n d_X6_owners_82 rfl ?_
            refine ev_getRr (r := 49) rfl d_X6_owners_83 fl_IcedTooSoonModel_19 hm.1 rfl ?_
            refine ev_iconst d_X6_owners_86 kv_iconst_3 ?_
            refine ev_iload d_X6_owners_87 rfl ?_
            refine ev_imul d_X6_owners_89 ?_
            refine ev_iload d_X6_owners_90 rfl ?_
            refine ev_iast d_X6_owners_92 (by decide) (hm).2.2.2.2.1 (it_bd_in hb5) ?_
            refine ev_iinc d_X6_owners_93 kv_iconst_1 rfl (by decide) ?_
            show it_Ev g l 7 it_m_X6_owners 0 0 96 [some (.ref 45), some (.int x1), some (.int x2), none, some (.int (v4 ||| 0)), some (.int (v5 + 1)), some (.int (S 49 ((3 * v5) : Int32).toNatClampNeg))] [] κ (it_up S8 49 ((3 * v5) : Int32).toNatClampNeg (S 49 ((3 * v5) : Int32).toNatClampNeg)) (it_pi κ P)
            refine ev_goto (tgt := 19) d_X6_owners_96 (by decide) ?_
            refine ev_keep [true, true, true, false, true, true, false] ?_
            exact ih19 _ _ _ h
          · have h := it_ok_t h hc10
            refine ev_iconst d_X6_owners_71 kv_iconst_1 ?_
            refine ev_iload d_X6_owners_72 rfl ?_
            refine ev_ishl d_X6_owners_74 ?_
            refine ev_goto (tgt := 79) d_X6_owners_75 (by decide) ?_
            refine ev_ior d_X6_owners_79 ?_
            refine ev_istore d_X6_owners_80 (by decide) ?_
            show it_Ev g l 7 it_m_X6_owners 0 0 82 [some (.ref 45), some (.int x1), some (.int x2), none, some (.int (v4 ||| (1 <<< (v5 &&& 31)))), some (.int v5), some (.int (S 49 ((3 * v5) : Int32).toNatClampNeg))] [] κ S8 (it_pi κ P)
            refine ev_aload_n d_X6_owners_82 rfl ?_
            refine ev_getRr (r := 49) rfl d_X6_owners_83 fl_IcedTooSoonModel_19 hm.1 rfl ?_
            refine ev_iconst d_X6_owners_86 kv_iconst_3 ?_
            refine ev_iload d_X6_owners_87 rfl ?_
            refine ev_imul d_X6_owners_89 ?_
            refine ev_iload d_X6_owners_90 rfl ?_
            refine ev_iast d_X6_owners_92 (by decide) (hm).2.2.2.2.1 (it_bd_in hb5) ?_
            refine ev_iinc d_X6_owners_93 kv_iconst_1 rfl (by decide) ?_
            show it_Ev g l 7 it_m_X6_owners 0 0 96 [some (.ref 45), some (.int x1), some (.int x2), none, some (.int (v4 ||| (1 <<< (v5 &&& 31)))), some (.int (v5 + 1)), some (.int (S 49 ((3 * v5) : Int32).toNatClampNeg))] [] κ (it_up S8 49 ((3 * v5) : Int32).toNatClampNeg (S 49 ((3 * v5) : Int32).toNatClampNeg)) (it_pi κ P)
            refine ev_goto (tgt := 19) d_X6_owners_96 (by decide) ?_
            refine ev_keep [true, true, true, false, true, true, false] ?_
            exact ih19 _ _ _ h
set_option maxHeartbeats 4000000 in
set_option maxRecDepth 100000 in
theorem L_X6_owners {g : it_G} {l : Launch} {κ : it_KK} {x1 : Int32} {x2 : Int32} (hm : it_wm κ) {S : it_SS} {P : Int32 → it_SS → Prop} (h : it_ok (f_X6_owners κ x1 x2 S) P) : it_Cn g l 7 it_m_X6_owners [.ref 45, .int x1, .int x2] κ S (it_pi κ P) := by
  refine it_Cn.of (by decide +kernel) (Nat.le_of_ble_eq_true rfl) ?_
  rw [f_X6_owners] at h
  show it_Ev g l 7 it_m_X6_owners 0 0 0 [some (.ref 45), some (.int x1), some (.int x2), none, none, none, none] [] κ S (it_pi κ P)
  refine ev_aload_n d_X6_owners_0 rfl ?_
  refine ev_iload_n d_X6_owners_1 rfl ?_
  refine ev_iload_n d_X6_owners_2 rfl ?_
  refine ev_callV (ci := 6) (b := 45) (M' := it_m_X6_toldWrong) (d' := 3) (As := [.int x1, .int x2]) d_X6_owners_3 ml_IcedTooSoonModel_234 hm.1.1 hm.1.2.1 ⟨_, rfl, rfl⟩ rfl rfl (Nat.le_of_ble_eq_true rfl) (by decide) (by decide) (by decide) (L_X6_toldWrong hm (it_ok_b h)) (fun _ _ _ _ q => by cases q.1; rfl) ?_
  rintro _ _ S1 ⟨rfl, r2, rfl, h⟩
  show it_Ev g l 7 it_m_X6_owners 0 0 6 [some (.ref 45), some (.int x1), some (.int x2), none, none, none, none] [.int r2] κ S1 (it_pi κ P)
  refine ev_istore_n d_X6_owners_6 (by decide) ?_
  show it_Ev g l 7 it_m_X6_owners 0 0 7 [some (.ref 45), some (.int x1), some (.int x2), some (.int r2), none, none, none] [] κ S1 (it_pi κ P)
  refine ev_iload_n d_X6_owners_7 rfl ?_
  refine ev_if_eq (tgt := 13) d_X6_owners_8 (by decide) (fun hc3 => ?_) (fun hc3 => ?_)
  · have h := it_ok_t h hc3
    refine ev_iconst d_X6_owners_13 kv_iconst_0 ?_
    refine ev_istore d_X6_owners_14 (by decide) ?_
    show it_Ev g l 7 it_m_X6_owners 0 0 16 [some (.ref 45), some (.int x1), some (.int x2), some (.int r2), some (.int 0), none, none] [] κ S1 (it_pi κ P)
    refine ev_iconst d_X6_owners_16 kv_iconst_0 ?_
    refine ev_istore d_X6_owners_17 (by decide) ?_
    show it_Ev g l 7 it_m_X6_owners 0 0 19 [some (.ref 45), some (.int x1), some (.int x2), some (.int r2), some (.int 0), some (.int 0), none] [] κ S1 (it_pi κ P)
    refine ev_keep [true, true, true, false, true, true, false] ?_
    refine Llp_X6_owners_19 hm (fun v11 S12 h => ?_) _ _ _ _ h
    show it_Ev g l 7 it_m_X6_owners 0 0 99 [none, none, none, none, some (.int v11), none, none] [] κ S12 (it_pi κ P)
    refine ev_iload d_X6_owners_99 rfl ?_
    exact ev_ret (v := some (.int _)) ⟨d_X6_owners_101, _, rfl, rfl⟩ (by decide) (by decide) ⟨rfl, _, rfl, it_ok_r h⟩
  · have h := it_ok_f h hc3
    refine ev_iload_n d_X6_owners_11 rfl ?_
    exact ev_ret (v := some (.int _)) ⟨d_X6_owners_12, _, rfl, rfl⟩ (by decide) (by decide) ⟨rfl, _, rfl, it_ok_r h⟩
theorem d_X6_who_0 : decode prog_8_method_68_code 0 = .ok (.aload_n 0, 1) := by decide +kernel
theorem d_X6_who_1 : decode prog_8_method_68_code 1 = .ok (.iload_n 1, 1) := by decide +kernel
theorem d_X6_who_2 : decode prog_8_method_68_code 2 = .ok (.invokevirtual 231, 3) := by decide +kernel
theorem d_X6_who_5 : decode prog_8_method_68_code 5 = .ok (.istore_n 2, 1) := by decide +kernel
theorem d_X6_who_6 : decode prog_8_method_68_code 6 = .ok (.iload_n 2, 1) := by decide +kernel
theorem d_X6_who_7 : decode prog_8_method_68_code 7 = .ok (.ifCond .eq 5, 3) := by decide +kernel
theorem d_X6_who_10 : decode prog_8_method_68_code 10 = .ok (.iload_n 2, 1) := by decide +kernel
theorem d_X6_who_11 : decode prog_8_method_68_code 11 = .ok (.ireturn, 1) := by decide +kernel
theorem d_X6_who_12 : decode prog_8_method_68_code 12 = .ok (.iconst 0, 1) := by decide +kernel
theorem d_X6_who_13 : decode prog_8_method_68_code 13 = .ok (.istore_n 3, 1) := by decide +kernel
theorem d_X6_who_14 : decode prog_8_method_68_code 14 = .ok (.iconst 0, 1) := by decide +kernel
theorem d_X6_who_15 : decode prog_8_method_68_code 15 = .ok (.istore 4, 2) := by decide +kernel
theorem d_X6_who_17 : decode prog_8_method_68_code 17 = .ok (.iload 4, 2) := by decide +kernel
theorem d_X6_who_19 : decode prog_8_method_68_code 19 = .ok (.aload_n 0, 1) := by decide +kernel
theorem d_X6_who_20 : decode prog_8_method_68_code 20 = .ok (.getfield 75, 3) := by decide +kernel
theorem d_X6_who_23 : decode prog_8_method_68_code 23 = .ok (.if_icmp .ge 31, 3) := by decide +kernel
theorem d_X6_who_26 : decode prog_8_method_68_code 26 = .ok (.iload_n 3, 1) := by decide +kernel
theorem d_X6_who_27 : decode prog_8_method_68_code 27 = .ok (.aload_n 0, 1) := by decide +kernel
theorem d_X6_who_28 : decode prog_8_method_68_code 28 = .ok (.iload_n 1, 1) := by decide +kernel
theorem d_X6_who_29 : decode prog_8_method_68_code 29 = .ok (.iload 4, 2) := by decide +kernel
theorem d_X6_who_31 : decode prog_8_method_68_code 31 = .ok (.invokevirtual 237, 3) := by decide +kernel
theorem d_X6_who_34 : decode prog_8_method_68_code 34 = .ok (.iconst (-1), 1) := by decide +kernel
theorem d_X6_who_35 : decode prog_8_method_68_code 35 = .ok (.if_icmp .ne 10, 3) := by decide +kernel
theorem d_X6_who_38 : decode prog_8_method_68_code 38 = .ok (.iconst 1, 1) := by decide +kernel
theorem d_X6_who_39 : decode prog_8_method_68_code 39 = .ok (.iload 4, 2) := by decide +kernel
theorem d_X6_who_41 : decode prog_8_method_68_code 41 = .ok (.ishl, 1) := by decide +kernel
theorem d_X6_who_42 : decode prog_8_method_68_code 42 = .ok (.goto 4, 3) := by decide +kernel
theorem d_X6_who_45 : decode prog_8_method_68_code 45 = .ok (.iconst 0, 1) := by decide +kernel
theorem d_X6_who_46 : decode prog_8_method_68_code 46 = .ok (.ior, 1) := by decide +kernel
theorem d_X6_who_47 : decode prog_8_method_68_code 47 = .ok (.istore_n 3, 1) := by decide +kernel
theorem d_X6_who_48 : decode prog_8_method_68_code 48 = .ok (.iinc 4 1, 3) := by decide +kernel
theorem d_X6_who_51 : decode prog_8_method_68_code 51 = .ok (.goto (-34), 3) := by decide +kernel
theorem d_X6_who_54 : decode prog_8_method_68_code 54 = .ok (.iload_n 3, 1) := by decide +kernel
theorem d_X6_who_55 : decode prog_8_method_68_code 55 = .ok (.ireturn, 1) := by decide +kernel
def lp_X6_who_17 (κ : it_KK) (x1 : Int32) (k17 : (Int32 → it_SS → Option (Int32 × it_SS))) : Nat → Int32 → Int32 → it_SS → Option (Int32 × it_SS)
  | 0, _, _, _ => none
  | n17 + 1, v3, v4, S => if (S 45 0) ≤ v4 then
k17 v3 S
else
it_bi (f_X6_unlike κ x1 v4 S) (fun r6 S5 =>
if r6 = (-1) then
lp_X6_who_17 κ x1 k17 n17 (v3 ||| (1 <<< (v4 &&& 31))) (v4 + 1) S5
else
lp_X6_who_17 κ x1 k17 n17 (v3 ||| 0) (v4 + 1) S5)
def f_X6_who (κ : it_KK) (x1 : Int32) (S : it_SS) : Option (Int32 × it_SS) :=
it_bi (f_X6_sheetWrong κ x1 S) (fun r2 S1 =>
if r2 = 0 then
lp_X6_who_17 κ x1 (fun v8 S9 =>
some (v8, S9)) it_FU 0 0 S1
else
some (r2, S1))
set_option maxHeartbeats 4000000 in
set_option maxRecDepth 100000 in
theorem Llp_X6_who_17 {g : it_G} {l : Launch} {κ : it_KK} {x1 : Int32} (hm : it_wm κ) {P : Int32 → it_SS → Prop} {k17 : (Int32 → it_SS → Option (Int32 × it_SS))} (hk17 : ∀ (v3 : Int32) (S : it_SS), it_ok (k17 v3 S) P → it_Ev g l 7 it_m_X6_who 0 0 54 [none, none, none, some (.int v3), none] [] κ S (it_pi κ P)) : ∀ (n : Nat) (v3 : Int32) (v4 : Int32) (S : it_SS), it_ok (lp_X6_who_17 κ x1 k17 n v3 v4 S) P → it_Ev g l 7 it_m_X6_who 0 0 17 [some (.ref 45), some (.int x1), none, some (.int v3), some (.int v4)] [] κ S (it_pi κ P) := by
  intro n
  induction n with
  | zero =>
    intro _ _ _ h
    exact (it_ok_n h).elim
  | succ n17 ih17 =>
    intro v3 v4 S h
    rw [lp_X6_who_17] at h
    refine ev_iload d_X6_who_17 rfl ?_
    refine ev_aload_n d_X6_who_19 rfl ?_
    refine ev_getI d_X6_who_20 fl_IcedTooSoonModel_75 hm.1 rfl ?_
    refine ev_icmp_ge (tgt := 54) d_X6_who_23 (by decide) (fun hc4 => ?_) (fun hc4 => ?_)
    · have h := it_ok_t h hc4
      refine ev_keep [false, false, false, true, false] ?_
      exact hk17 _ _ h
    · have h := it_ok_f h hc4
      refine ev_iload_n d_X6_who_26 rfl ?_
      refine ev_aload_n d_X6_who_27 rfl ?_
      refine ev_iload_n d_X6_who_28 rfl ?_
      refine ev_iload d_X6_who_29 rfl ?_
      refine ev_callV (ci := 6) (b := 45) (M' := it_m_X6_unlike) (d' := 6) (As := [.int x1, .int v4]) d_X6_who_31 ml_IcedTooSoonModel_237 hm.1.1 hm.1.2.1 ⟨_, rfl, rfl⟩ rfl rfl (Nat.le_of_ble_eq_true rfl) (by decide) (by decide) (by decide) (L_X6_unlike hm (it_ok_b h)) (fun _ _ _ _ q => by cases q.1; rfl) ?_
      rintro _ _ S5 ⟨rfl, r6, rfl, h⟩
      show it_Ev g l 7 it_m_X6_who 0 0 34 [some (.ref 45), some (.int x1), none, some (.int v3), some (.int v4)] [.int r6, .int v3] κ S5 (it_pi κ P)
      refine ev_iconst d_X6_who_34 kv_iconst_m1 ?_
      refine ev_icmp_ne (tgt := 45) d_X6_who_35 (by decide) (fun hc7 => ?_) (fun hc7 => ?_)
      · have h := it_ok_f h hc7
        refine ev_iconst d_X6_who_45 kv_iconst_0 ?_
        refine ev_ior d_X6_who_46 ?_
        refine ev_istore_n d_X6_who_47 (by decide) ?_
        show it_Ev g l 7 it_m_X6_who 0 0 48 [some (.ref 45), some (.int x1), none, some (.int (v3 ||| 0)), some (.int v4)] [] κ S5 (it_pi κ P)
        refine ev_iinc d_X6_who_48 kv_iconst_1 rfl (by decide) ?_
        show it_Ev g l 7 it_m_X6_who 0 0 51 [some (.ref 45), some (.int x1), none, some (.int (v3 ||| 0)), some (.int (v4 + 1))] [] κ S5 (it_pi κ P)
        refine ev_goto (tgt := 17) d_X6_who_51 (by decide) ?_
        refine ev_keep [true, true, false, true, true] ?_
        exact ih17 _ _ _ h
      · have h := it_ok_t h hc7
        refine ev_iconst d_X6_who_38 kv_iconst_1 ?_
        refine ev_iload d_X6_who_39 rfl ?_
        refine ev_ishl d_X6_who_41 ?_
        refine ev_goto (tgt := 46) d_X6_who_42 (by decide) ?_
        refine ev_ior d_X6_who_46 ?_
        refine ev_istore_n d_X6_who_47 (by decide) ?_
        show it_Ev g l 7 it_m_X6_who 0 0 48 [some (.ref 45), some (.int x1), none, some (.int (v3 ||| (1 <<< (v4 &&& 31)))), some (.int v4)] [] κ S5 (it_pi κ P)
        refine ev_iinc d_X6_who_48 kv_iconst_1 rfl (by decide) ?_
        show it_Ev g l 7 it_m_X6_who 0 0 51 [some (.ref 45), some (.int x1), none, some (.int (v3 ||| (1 <<< (v4 &&& 31)))), some (.int (v4 + 1))] [] κ S5 (it_pi κ P)
        refine ev_goto (tgt := 17) d_X6_who_51 (by decide) ?_
        refine ev_keep [true, true, false, true, true] ?_
        exact ih17 _ _ _ h
set_option maxHeartbeats 4000000 in
set_option maxRecDepth 100000 in
theorem L_X6_who {g : it_G} {l : Launch} {κ : it_KK} {x1 : Int32} (hm : it_wm κ) {S : it_SS} {P : Int32 → it_SS → Prop} (h : it_ok (f_X6_who κ x1 S) P) : it_Cn g l 7 it_m_X6_who [.ref 45, .int x1] κ S (it_pi κ P) := by
  refine it_Cn.of (by decide +kernel) (Nat.le_of_ble_eq_true rfl) ?_
  rw [f_X6_who] at h
  show it_Ev g l 7 it_m_X6_who 0 0 0 [some (.ref 45), some (.int x1), none, none, none] [] κ S (it_pi κ P)
  refine ev_aload_n d_X6_who_0 rfl ?_
  refine ev_iload_n d_X6_who_1 rfl ?_
  refine ev_callV (ci := 6) (b := 45) (M' := it_m_X6_sheetWrong) (d' := 2) (As := [.int x1]) d_X6_who_2 ml_IcedTooSoonModel_231 hm.1.1 hm.1.2.1 ⟨_, rfl, rfl⟩ rfl rfl (Nat.le_of_ble_eq_true rfl) (by decide) (by decide) (by decide) (L_X6_sheetWrong hm (it_ok_b h)) (fun _ _ _ _ q => by cases q.1; rfl) ?_
  rintro _ _ S1 ⟨rfl, r2, rfl, h⟩
  show it_Ev g l 7 it_m_X6_who 0 0 5 [some (.ref 45), some (.int x1), none, none, none] [.int r2] κ S1 (it_pi κ P)
  refine ev_istore_n d_X6_who_5 (by decide) ?_
  show it_Ev g l 7 it_m_X6_who 0 0 6 [some (.ref 45), some (.int x1), some (.int r2), none, none] [] κ S1 (it_pi κ P)
  refine ev_iload_n d_X6_who_6 rfl ?_
  refine ev_if_eq (tgt := 12) d_X6_who_7 (by decide) (fun hc3 => ?_) (fun hc3 => ?_)
  · have h := it_ok_t h hc3
    refine ev_iconst d_X6_who_12 kv_iconst_0 ?_
    refine ev_istore_n d_X6_who_13 (by decide) ?_
    show it_Ev g l 7 it_m_X6_who 0 0 14 [some (.ref 45), some (.int x1), some (.int r2), some (.int 0), none] [] κ S1 (it_pi κ P)
    refine ev_iconst d_X6_who_14 kv_iconst_0 ?_
    refine ev_istore d_X6_who_15 (by decide) ?_
    show it_Ev g l 7 it_m_X6_who 0 0 17 [some (.ref 45), some (.int x1), some (.int r2), some (.int 0), some (.int 0)] [] κ S1 (it_pi κ P)
    refine ev_keep [true, true, false, true, true] ?_
    refine Llp_X6_who_17 hm (fun v8 S9 h => ?_) _ _ _ _ h
    show it_Ev g l 7 it_m_X6_who 0 0 54 [none, none, none, some (.int v8), none] [] κ S9 (it_pi κ P)
    refine ev_iload_n d_X6_who_54 rfl ?_
    exact ev_ret (v := some (.int _)) ⟨d_X6_who_55, _, rfl, rfl⟩ (by decide) (by decide) ⟨rfl, _, rfl, it_ok_r h⟩
  · have h := it_ok_f h hc3
    refine ev_iload_n d_X6_who_10 rfl ?_
    exact ev_ret (v := some (.int _)) ⟨d_X6_who_11, _, rfl, rfl⟩ (by decide) (by decide) ⟨rfl, _, rfl, it_ok_r h⟩
theorem d_X6_laws_0 : decode prog_8_method_69_code 0 = .ok (.aload_n 0, 1) := by decide +kernel
theorem d_X6_laws_1 : decode prog_8_method_69_code 1 = .ok (.iload_n 1, 1) := by decide +kernel
theorem d_X6_laws_2 : decode prog_8_method_69_code 2 = .ok (.iload_n 2, 1) := by decide +kernel
theorem d_X6_laws_3 : decode prog_8_method_69_code 3 = .ok (.invokevirtual 234, 3) := by decide +kernel
theorem d_X6_laws_6 : decode prog_8_method_69_code 6 = .ok (.istore_n 3, 1) := by decide +kernel
theorem d_X6_laws_7 : decode prog_8_method_69_code 7 = .ok (.iload_n 3, 1) := by decide +kernel
theorem d_X6_laws_8 : decode prog_8_method_69_code 8 = .ok (.ifCond .eq 5, 3) := by decide +kernel
theorem d_X6_laws_11 : decode prog_8_method_69_code 11 = .ok (.iload_n 3, 1) := by decide +kernel
theorem d_X6_laws_12 : decode prog_8_method_69_code 12 = .ok (.ireturn, 1) := by decide +kernel
theorem d_X6_laws_13 : decode prog_8_method_69_code 13 = .ok (.aload_n 0, 1) := by decide +kernel
theorem d_X6_laws_14 : decode prog_8_method_69_code 14 = .ok (.getfield 99, 3) := by decide +kernel
theorem d_X6_laws_17 : decode prog_8_method_69_code 17 = .ok (.istore 4, 2) := by decide +kernel
theorem d_X6_laws_19 : decode prog_8_method_69_code 19 = .ok (.iconst 0, 1) := by decide +kernel
theorem d_X6_laws_20 : decode prog_8_method_69_code 20 = .ok (.istore 5, 2) := by decide +kernel
theorem d_X6_laws_22 : decode prog_8_method_69_code 22 = .ok (.iconst 0, 1) := by decide +kernel
theorem d_X6_laws_23 : decode prog_8_method_69_code 23 = .ok (.istore 6, 2) := by decide +kernel
theorem d_X6_laws_25 : decode prog_8_method_69_code 25 = .ok (.iload 6, 2) := by decide +kernel
theorem d_X6_laws_27 : decode prog_8_method_69_code 27 = .ok (.aload_n 0, 1) := by decide +kernel
theorem d_X6_laws_28 : decode prog_8_method_69_code 28 = .ok (.getfield 96, 3) := by decide +kernel
theorem d_X6_laws_31 : decode prog_8_method_69_code 31 = .ok (.if_icmp .ge 38, 3) := by decide +kernel
theorem d_X6_laws_34 : decode prog_8_method_69_code 34 = .ok (.aload_n 0, 1) := by decide +kernel
theorem d_X6_laws_35 : decode prog_8_method_69_code 35 = .ok (.iload 6, 2) := by decide +kernel
theorem d_X6_laws_37 : decode prog_8_method_69_code 37 = .ok (.putfield 99, 3) := by decide +kernel
theorem d_X6_laws_40 : decode prog_8_method_69_code 40 = .ok (.iload 5, 2) := by decide +kernel
theorem d_X6_laws_42 : decode prog_8_method_69_code 42 = .ok (.aload_n 0, 1) := by decide +kernel
theorem d_X6_laws_43 : decode prog_8_method_69_code 43 = .ok (.iload_n 1, 1) := by decide +kernel
theorem d_X6_laws_44 : decode prog_8_method_69_code 44 = .ok (.iload_n 2, 1) := by decide +kernel
theorem d_X6_laws_45 : decode prog_8_method_69_code 45 = .ok (.invokevirtual 237, 3) := by decide +kernel
theorem d_X6_laws_48 : decode prog_8_method_69_code 48 = .ok (.iconst (-1), 1) := by decide +kernel
theorem d_X6_laws_49 : decode prog_8_method_69_code 49 = .ok (.if_icmp .ne 10, 3) := by decide +kernel
theorem d_X6_laws_52 : decode prog_8_method_69_code 52 = .ok (.iconst 1, 1) := by decide +kernel
theorem d_X6_laws_53 : decode prog_8_method_69_code 53 = .ok (.iload 6, 2) := by decide +kernel
theorem d_X6_laws_55 : decode prog_8_method_69_code 55 = .ok (.ishl, 1) := by decide +kernel
theorem d_X6_laws_56 : decode prog_8_method_69_code 56 = .ok (.goto 4, 3) := by decide +kernel
theorem d_X6_laws_59 : decode prog_8_method_69_code 59 = .ok (.iconst 0, 1) := by decide +kernel
theorem d_X6_laws_60 : decode prog_8_method_69_code 60 = .ok (.ior, 1) := by decide +kernel
theorem d_X6_laws_61 : decode prog_8_method_69_code 61 = .ok (.istore 5, 2) := by decide +kernel
theorem d_X6_laws_63 : decode prog_8_method_69_code 63 = .ok (.iinc 6 1, 3) := by decide +kernel
theorem d_X6_laws_66 : decode prog_8_method_69_code 66 = .ok (.goto (-41), 3) := by decide +kernel
theorem d_X6_laws_69 : decode prog_8_method_69_code 69 = .ok (.aload_n 0, 1) := by decide +kernel
theorem d_X6_laws_70 : decode prog_8_method_69_code 70 = .ok (.iload 4, 2) := by decide +kernel
theorem d_X6_laws_72 : decode prog_8_method_69_code 72 = .ok (.putfield 99, 3) := by decide +kernel
theorem d_X6_laws_75 : decode prog_8_method_69_code 75 = .ok (.iload 5, 2) := by decide +kernel
theorem d_X6_laws_77 : decode prog_8_method_69_code 77 = .ok (.ireturn, 1) := by decide +kernel
def lp_X6_laws_25 (κ : it_KK) (x1 : Int32) (x2 : Int32) (k25 : (Int32 → Int32 → it_SS → Option (Int32 × it_SS))) : Nat → Int32 → Int32 → Int32 → it_SS → Option (Int32 × it_SS)
  | 0, _, _, _, _ => none
  | n25 + 1, v4, v5, v6, S => if (S 45 10) ≤ v6 then
k25 v4 v5 S
else
it_bi (f_X6_unlike κ x1 x2 (it_up S 45 11 v6)) (fun r6 S5 =>
if r6 = (-1) then
lp_X6_laws_25 κ x1 x2 k25 n25 v4 (v5 ||| (1 <<< (v6 &&& 31))) (v6 + 1) S5
else
lp_X6_laws_25 κ x1 x2 k25 n25 v4 (v5 ||| 0) (v6 + 1) S5)
def f_X6_laws (κ : it_KK) (x1 : Int32) (x2 : Int32) (S : it_SS) : Option (Int32 × it_SS) :=
it_bi (f_X6_toldWrong κ x1 x2 S) (fun r2 S1 =>
if r2 = 0 then
lp_X6_laws_25 κ x1 x2 (fun v8 v9 S10 =>
some (v9, it_up S10 45 11 v8)) it_FU (S1 45 11) 0 0 S1
else
some (r2, S1))
set_option maxHeartbeats 4000000 in
set_option maxRecDepth 100000 in
theorem Llp_X6_laws_25 {g : it_G} {l : Launch} {κ : it_KK} {x1 : Int32} {x2 : Int32} (hm : it_wm κ) {P : Int32 → it_SS → Prop} {k25 : (Int32 → Int32 → it_SS → Option (Int32 × it_SS))} (hk25 : ∀ (v4 : Int32) (v5 : Int32) (S : it_SS), it_ok (k25 v4 v5 S) P → it_Ev g l 7 it_m_X6_laws 0 0 69 [some (.ref 45), none, none, none, some (.int v4), some (.int v5), none] [] κ S (it_pi κ P)) : ∀ (n : Nat) (v4 : Int32) (v5 : Int32) (v6 : Int32) (S : it_SS), it_ok (lp_X6_laws_25 κ x1 x2 k25 n v4 v5 v6 S) P → it_Ev g l 7 it_m_X6_laws 0 0 25 [some (.ref 45), some (.int x1), some (.int x2), none, some (.int v4), some (.int v5), some (.int v6)] [] κ S (it_pi κ P) := by
  intro n
  induction n with
  | zero =>
    intro _ _ _ _ h
    exact (it_ok_n h).elim
  | succ n25 ih25 =>
    intro v4 v5 v6 S h
    rw [lp_X6_laws_25] at h
    refine ev_iload d_X6_laws_25 rfl ?_
    refine ev_aload_n d_X6_laws_27 rfl ?_
    refine ev_getI d_X6_laws_28 fl_IcedTooSoonModel_96 hm.1 rfl ?_
    refine ev_icmp_ge (tgt := 69) d_X6_laws_31 (by decide) (fun hc4 => ?_) (fun hc4 => ?_)
    · have h := it_ok_t h hc4
      refine ev_keep [true, false, false, false, true, true, false] ?_
      exact hk25 _ _ _ h
    · have h := it_ok_f h hc4
      refine ev_aload_n d_X6_laws_34 rfl ?_
      refine ev_iload d_X6_laws_35 rfl ?_
      refine ev_putI d_X6_laws_37 (by decide) fl_IcedTooSoonModel_99 fw_6_11 hm.1 rfl ?_
      refine ev_iload d_X6_laws_40 rfl ?_
      refine ev_aload_n d_X6_laws_42 rfl ?_
      refine ev_iload_n d_X6_laws_43 rfl ?_
      refine ev_iload_n d_X6_laws_44 rfl ?_
      refine ev_callV (ci := 6) (b := 45) (M' := it_m_X6_unlike) (d' := 6) (As := [.int x1, .int x2]) d_X6_laws_45 ml_IcedTooSoonModel_237 hm.1.1 hm.1.2.1 ⟨_, rfl, rfl⟩ rfl rfl (Nat.le_of_ble_eq_true rfl) (by decide) (by decide) (by decide) (L_X6_unlike hm (it_ok_b h)) (fun _ _ _ _ q => by cases q.1; rfl) ?_
      rintro _ _ S5 ⟨rfl, r6, rfl, h⟩
      show it_Ev g l 7 it_m_X6_laws 0 0 48 [some (.ref 45), some (.int x1), some (.int x2), none, some (.int v4), some (.int v5), some (.int v6)] [.int r6, .int v5] κ S5 (it_pi κ P)
      refine ev_iconst d_X6_laws_48 kv_iconst_m1 ?_
      refine ev_icmp_ne (tgt := 59) d_X6_laws_49 (by decide) (fun hc7 => ?_) (fun hc7 => ?_)
      · have h := it_ok_f h hc7
        refine ev_iconst d_X6_laws_59 kv_iconst_0 ?_
        refine ev_ior d_X6_laws_60 ?_
        refine ev_istore d_X6_laws_61 (by decide) ?_
        show it_Ev g l 7 it_m_X6_laws 0 0 63 [some (.ref 45), some (.int x1), some (.int x2), none, some (.int v4), some (.int (v5 ||| 0)), some (.int v6)] [] κ S5 (it_pi κ P)
        refine ev_iinc d_X6_laws_63 kv_iconst_1 rfl (by decide) ?_
        show it_Ev g l 7 it_m_X6_laws 0 0 66 [some (.ref 45), some (.int x1), some (.int x2), none, some (.int v4), some (.int (v5 ||| 0)), some (.int (v6 + 1))] [] κ S5 (it_pi κ P)
        refine ev_goto (tgt := 25) d_X6_laws_66 (by decide) ?_
        refine ev_keep [true, true, true, false, true, true, true] ?_
        exact ih25 _ _ _ _ h
      · have h := it_ok_t h hc7
        refine ev_iconst d_X6_laws_52 kv_iconst_1 ?_
        refine ev_iload d_X6_laws_53 rfl ?_
        refine ev_ishl d_X6_laws_55 ?_
        refine ev_goto (tgt := 60) d_X6_laws_56 (by decide) ?_
        refine ev_ior d_X6_laws_60 ?_
        refine ev_istore d_X6_laws_61 (by decide) ?_
        show it_Ev g l 7 it_m_X6_laws 0 0 63 [some (.ref 45), some (.int x1), some (.int x2), none, some (.int v4), some (.int (v5 ||| (1 <<< (v6 &&& 31)))), some (.int v6)] [] κ S5 (it_pi κ P)
        refine ev_iinc d_X6_laws_63 kv_iconst_1 rfl (by decide) ?_
        show it_Ev g l 7 it_m_X6_laws 0 0 66 [some (.ref 45), some (.int x1), some (.int x2), none, some (.int v4), some (.int (v5 ||| (1 <<< (v6 &&& 31)))), some (.int (v6 + 1))] [] κ S5 (it_pi κ P)
        refine ev_goto (tgt := 25) d_X6_laws_66 (by decide) ?_
        refine ev_keep [true, true, true, false, true, true, true] ?_
        exact ih25 _ _ _ _ h
set_option maxHeartbeats 4000000 in
set_option maxRecDepth 100000 in
theorem L_X6_laws {g : it_G} {l : Launch} {κ : it_KK} {x1 : Int32} {x2 : Int32} (hm : it_wm κ) {S : it_SS} {P : Int32 → it_SS → Prop} (h : it_ok (f_X6_laws κ x1 x2 S) P) : it_Cn g l 7 it_m_X6_laws [.ref 45, .int x1, .int x2] κ S (it_pi κ P) := by
  refine it_Cn.of (by decide +kernel) (Nat.le_of_ble_eq_true rfl) ?_
  rw [f_X6_laws] at h
  show it_Ev g l 7 it_m_X6_laws 0 0 0 [some (.ref 45), some (.int x1), some (.int x2), none, none, none, none] [] κ S (it_pi κ P)
  refine ev_aload_n d_X6_laws_0 rfl ?_
  refine ev_iload_n d_X6_laws_1 rfl ?_
  refine ev_iload_n d_X6_laws_2 rfl ?_
  refine ev_callV (ci := 6) (b := 45) (M' := it_m_X6_toldWrong) (d' := 3) (As := [.int x1, .int x2]) d_X6_laws_3 ml_IcedTooSoonModel_234 hm.1.1 hm.1.2.1 ⟨_, rfl, rfl⟩ rfl rfl (Nat.le_of_ble_eq_true rfl) (by decide) (by decide) (by decide) (L_X6_toldWrong hm (it_ok_b h)) (fun _ _ _ _ q => by cases q.1; rfl) ?_
  rintro _ _ S1 ⟨rfl, r2, rfl, h⟩
  show it_Ev g l 7 it_m_X6_laws 0 0 6 [some (.ref 45), some (.int x1), some (.int x2), none, none, none, none] [.int r2] κ S1 (it_pi κ P)
  refine ev_istore_n d_X6_laws_6 (by decide) ?_
  show it_Ev g l 7 it_m_X6_laws 0 0 7 [some (.ref 45), some (.int x1), some (.int x2), some (.int r2), none, none, none] [] κ S1 (it_pi κ P)
  refine ev_iload_n d_X6_laws_7 rfl ?_
  refine ev_if_eq (tgt := 13) d_X6_laws_8 (by decide) (fun hc3 => ?_) (fun hc3 => ?_)
  · have h := it_ok_t h hc3
    refine ev_aload_n d_X6_laws_13 rfl ?_
    refine ev_getI d_X6_laws_14 fl_IcedTooSoonModel_99 hm.1 rfl ?_
    refine ev_istore d_X6_laws_17 (by decide) ?_
    show it_Ev g l 7 it_m_X6_laws 0 0 19 [some (.ref 45), some (.int x1), some (.int x2), some (.int r2), some (.int (S1 45 11)), none, none] [] κ S1 (it_pi κ P)
    refine ev_iconst d_X6_laws_19 kv_iconst_0 ?_
    refine ev_istore d_X6_laws_20 (by decide) ?_
    show it_Ev g l 7 it_m_X6_laws 0 0 22 [some (.ref 45), some (.int x1), some (.int x2), some (.int r2), some (.int (S1 45 11)), some (.int 0), none] [] κ S1 (it_pi κ P)
    refine ev_iconst d_X6_laws_22 kv_iconst_0 ?_
    refine ev_istore d_X6_laws_23 (by decide) ?_
    show it_Ev g l 7 it_m_X6_laws 0 0 25 [some (.ref 45), some (.int x1), some (.int x2), some (.int r2), some (.int (S1 45 11)), some (.int 0), some (.int 0)] [] κ S1 (it_pi κ P)
    refine ev_keep [true, true, true, false, true, true, true] ?_
    refine Llp_X6_laws_25 hm (fun v8 v9 S10 h => ?_) _ _ _ _ _ h
    show it_Ev g l 7 it_m_X6_laws 0 0 69 [some (.ref 45), none, none, none, some (.int v8), some (.int v9), none] [] κ S10 (it_pi κ P)
    refine ev_aload_n d_X6_laws_69 rfl ?_
    refine ev_iload d_X6_laws_70 rfl ?_
    refine ev_putI d_X6_laws_72 (by decide) fl_IcedTooSoonModel_99 fw_6_11 hm.1 rfl ?_
    refine ev_iload d_X6_laws_75 rfl ?_
    exact ev_ret (v := some (.int _)) ⟨d_X6_laws_77, _, rfl, rfl⟩ (by decide) (by decide) ⟨rfl, _, rfl, it_ok_r h⟩
  · have h := it_ok_f h hc3
    refine ev_iload_n d_X6_laws_11 rfl ?_
    exact ev_ret (v := some (.int _)) ⟨d_X6_laws_12, _, rfl, rfl⟩ (by decide) (by decide) ⟨rfl, _, rfl, it_ok_r h⟩
theorem d_X6_film_0 : decode prog_8_method_70_code 0 = .ok (.iload_n 1, 1) := by decide +kernel
theorem d_X6_film_1 : decode prog_8_method_70_code 1 = .ok (.iconst 0, 1) := by decide +kernel
theorem d_X6_film_2 : decode prog_8_method_70_code 2 = .ok (.iconst 3, 1) := by decide +kernel
theorem d_X6_film_3 : decode prog_8_method_70_code 3 = .ok (.invokestatic 78, 3) := by decide +kernel
theorem d_X6_film_6 : decode prog_8_method_70_code 6 = .ok (.ifCond .ne 6, 3) := by decide +kernel
theorem d_X6_film_9 : decode prog_8_method_70_code 9 = .ok (.bipush (-2), 2) := by decide +kernel
theorem d_X6_film_11 : decode prog_8_method_70_code 11 = .ok (.ireturn, 1) := by decide +kernel
theorem d_X6_film_12 : decode prog_8_method_70_code 12 = .ok (.aload_n 0, 1) := by decide +kernel
theorem d_X6_film_13 : decode prog_8_method_70_code 13 = .ok (.iload_n 2, 1) := by decide +kernel
theorem d_X6_film_14 : decode prog_8_method_70_code 14 = .ok (.invokevirtual 173, 3) := by decide +kernel
theorem d_X6_film_17 : decode prog_8_method_70_code 17 = .ok (.ifCond .ne 6, 3) := by decide +kernel
theorem d_X6_film_20 : decode prog_8_method_70_code 20 = .ok (.bipush (-5), 2) := by decide +kernel
theorem d_X6_film_22 : decode prog_8_method_70_code 22 = .ok (.ireturn, 1) := by decide +kernel
theorem d_X6_film_23 : decode prog_8_method_70_code 23 = .ok (.iload_n 3, 1) := by decide +kernel
theorem d_X6_film_24 : decode prog_8_method_70_code 24 = .ok (.iconst 0, 1) := by decide +kernel
theorem d_X6_film_25 : decode prog_8_method_70_code 25 = .ok (.bipush 20, 2) := by decide +kernel
theorem d_X6_film_27 : decode prog_8_method_70_code 27 = .ok (.invokestatic 78, 3) := by decide +kernel
theorem d_X6_film_30 : decode prog_8_method_70_code 30 = .ok (.ifCond .ne 6, 3) := by decide +kernel
theorem d_X6_film_33 : decode prog_8_method_70_code 33 = .ok (.bipush (-7), 2) := by decide +kernel
theorem d_X6_film_35 : decode prog_8_method_70_code 35 = .ok (.ireturn, 1) := by decide +kernel
theorem d_X6_film_36 : decode prog_8_method_70_code 36 = .ok (.aload_n 0, 1) := by decide +kernel
theorem d_X6_film_37 : decode prog_8_method_70_code 37 = .ok (.getfield 37, 3) := by decide +kernel
theorem d_X6_film_40 : decode prog_8_method_70_code 40 = .ok (.iload_n 1, 1) := by decide +kernel
theorem d_X6_film_41 : decode prog_8_method_70_code 41 = .ok (.iconst 0, 1) := by decide +kernel
theorem d_X6_film_42 : decode prog_8_method_70_code 42 = .ok (.iastore, 1) := by decide +kernel
theorem d_X6_film_43 : decode prog_8_method_70_code 43 = .ok (.aload_n 0, 1) := by decide +kernel
theorem d_X6_film_44 : decode prog_8_method_70_code 44 = .ok (.getfield 40, 3) := by decide +kernel
theorem d_X6_film_47 : decode prog_8_method_70_code 47 = .ok (.iload_n 1, 1) := by decide +kernel
theorem d_X6_film_48 : decode prog_8_method_70_code 48 = .ok (.iload_n 3, 1) := by decide +kernel
theorem d_X6_film_49 : decode prog_8_method_70_code 49 = .ok (.iastore, 1) := by decide +kernel
theorem d_X6_film_50 : decode prog_8_method_70_code 50 = .ok (.aload_n 0, 1) := by decide +kernel
theorem d_X6_film_51 : decode prog_8_method_70_code 51 = .ok (.invokevirtual 194, 3) := by decide +kernel
theorem d_X6_film_54 : decode prog_8_method_70_code 54 = .ok (.iconst 0, 1) := by decide +kernel
theorem d_X6_film_55 : decode prog_8_method_70_code 55 = .ok (.istore 4, 2) := by decide +kernel
theorem d_X6_film_57 : decode prog_8_method_70_code 57 = .ok (.iload 4, 2) := by decide +kernel
theorem d_X6_film_59 : decode prog_8_method_70_code 59 = .ok (.bipush 40, 2) := by decide +kernel
theorem d_X6_film_61 : decode prog_8_method_70_code 61 = .ok (.if_icmp .ge 53, 3) := by decide +kernel
theorem d_X6_film_64 : decode prog_8_method_70_code 64 = .ok (.aload_n 0, 1) := by decide +kernel
theorem d_X6_film_65 : decode prog_8_method_70_code 65 = .ok (.getfield 43, 3) := by decide +kernel
theorem d_X6_film_68 : decode prog_8_method_70_code 68 = .ok (.bipush 40, 2) := by decide +kernel
theorem d_X6_film_70 : decode prog_8_method_70_code 70 = .ok (.iload_n 1, 1) := by decide +kernel
theorem d_X6_film_71 : decode prog_8_method_70_code 71 = .ok (.imul, 1) := by decide +kernel
theorem d_X6_film_72 : decode prog_8_method_70_code 72 = .ok (.iload 4, 2) := by decide +kernel
theorem d_X6_film_74 : decode prog_8_method_70_code 74 = .ok (.iadd, 1) := by decide +kernel
theorem d_X6_film_75 : decode prog_8_method_70_code 75 = .ok (.iconst 0, 1) := by decide +kernel
theorem d_X6_film_76 : decode prog_8_method_70_code 76 = .ok (.iastore, 1) := by decide +kernel
theorem d_X6_film_77 : decode prog_8_method_70_code 77 = .ok (.iload 4, 2) := by decide +kernel
theorem d_X6_film_79 : decode prog_8_method_70_code 79 = .ok (.iload_n 3, 1) := by decide +kernel
theorem d_X6_film_80 : decode prog_8_method_70_code 80 = .ok (.if_icmp .ge 28, 3) := by decide +kernel
theorem d_X6_film_83 : decode prog_8_method_70_code 83 = .ok (.aload_n 0, 1) := by decide +kernel
theorem d_X6_film_84 : decode prog_8_method_70_code 84 = .ok (.invokevirtual 191, 3) := by decide +kernel
theorem d_X6_film_87 : decode prog_8_method_70_code 87 = .ok (.pop, 1) := by decide +kernel
theorem d_X6_film_88 : decode prog_8_method_70_code 88 = .ok (.aload_n 0, 1) := by decide +kernel
theorem d_X6_film_89 : decode prog_8_method_70_code 89 = .ok (.getfield 43, 3) := by decide +kernel
theorem d_X6_film_92 : decode prog_8_method_70_code 92 = .ok (.bipush 40, 2) := by decide +kernel
theorem d_X6_film_94 : decode prog_8_method_70_code 94 = .ok (.iload_n 1, 1) := by decide +kernel
theorem d_X6_film_95 : decode prog_8_method_70_code 95 = .ok (.imul, 1) := by decide +kernel
theorem d_X6_film_96 : decode prog_8_method_70_code 96 = .ok (.iload 4, 2) := by decide +kernel
theorem d_X6_film_98 : decode prog_8_method_70_code 98 = .ok (.iadd, 1) := by decide +kernel
theorem d_X6_film_99 : decode prog_8_method_70_code 99 = .ok (.aload_n 0, 1) := by decide +kernel
theorem d_X6_film_100 : decode prog_8_method_70_code 100 = .ok (.getfield 16, 3) := by decide +kernel
theorem d_X6_film_103 : decode prog_8_method_70_code 103 = .ok (.iconst 2, 1) := by decide +kernel
theorem d_X6_film_104 : decode prog_8_method_70_code 104 = .ok (.iload_n 2, 1) := by decide +kernel
theorem d_X6_film_105 : decode prog_8_method_70_code 105 = .ok (.imul, 1) := by decide +kernel
theorem d_X6_film_106 : decode prog_8_method_70_code 106 = .ok (.iaload, 1) := by decide +kernel
theorem d_X6_film_107 : decode prog_8_method_70_code 107 = .ok (.iastore, 1) := by decide +kernel
theorem d_X6_film_108 : decode prog_8_method_70_code 108 = .ok (.iinc 4 1, 3) := by decide +kernel
theorem d_X6_film_111 : decode prog_8_method_70_code 111 = .ok (.goto (-54), 3) := by decide +kernel
theorem d_X6_film_114 : decode prog_8_method_70_code 114 = .ok (.aload_n 0, 1) := by decide +kernel
theorem d_X6_film_115 : decode prog_8_method_70_code 115 = .ok (.invokevirtual 197, 3) := by decide +kernel
theorem d_X6_film_118 : decode prog_8_method_70_code 118 = .ok (.iload_n 3, 1) := by decide +kernel
theorem d_X6_film_119 : decode prog_8_method_70_code 119 = .ok (.ireturn, 1) := by decide +kernel
def lp_X6_film_57 (κ : it_KK) (x1 : Int32) (x2 : Int32) (x3 : Int32) (k57 : (it_SS → Option (Int32 × it_SS))) : Nat → Int32 → it_SS → Option (Int32 × it_SS)
  | 0, _, _ => none
  | n57 + 1, v4, S => if 40 ≤ v4 then
k57  S
else
if it_bd ((40 * x1) + v4) 160 = true then
if x3 ≤ v4 then
lp_X6_film_57 κ x1 x2 x3 k57 n57 (v4 + 1) (it_up S 57 (((40 * x1) + v4) : Int32).toNatClampNeg 0)
else
it_bi (f_X6_dayOf κ  (it_up S 57 (((40 * x1) + v4) : Int32).toNatClampNeg 0)) (fun r17 S16 =>
if it_bd (2 * x2) 12 = true then
lp_X6_film_57 κ x1 x2 x3 k57 n57 (v4 + 1) (it_up S16 57 (((40 * x1) + v4) : Int32).toNatClampNeg (S16 48 ((2 * x2) : Int32).toNatClampNeg))
else none)
else none
def f_X6_film (κ : it_KK) (x1 : Int32) (x2 : Int32) (x3 : Int32) (S : it_SS) : Option (Int32 × it_SS) :=
it_bi (f_X6_in κ x1 0 3 S) (fun r2 S1 =>
if r2 = 0 then
some ((-2), S1)
else
it_bi (f_X6_isOne κ x2 S1) (fun r5 S4 =>
if r5 = 0 then
some ((-5), S4)
else
it_bi (f_X6_in κ x3 0 20 S4) (fun r8 S7 =>
if r8 = 0 then
some ((-7), S7)
else
if it_bd x1 4 = true then
it_bi (f_X6_keeps κ  (it_up (it_up S7 55 (x1 : Int32).toNatClampNeg 0) 56 (x1 : Int32).toNatClampNeg x3)) (fun _ S11 =>
lp_X6_film_57 κ x1 x2 x3 (fun  S19 =>
it_bi (f_X6_lays κ  S19) (fun _ S20 =>
some (x3, S20))) it_FU 0 S11)
else none)))
set_option maxHeartbeats 4000000 in
set_option maxRecDepth 100000 in
theorem Llp_X6_film_57 {g : it_G} {l : Launch} {κ : it_KK} {x1 : Int32} {x2 : Int32} {x3 : Int32} (hm : it_wm κ) (hb10 : it_bd x1 4 = true) {P : Int32 → it_SS → Prop} {k57 : (it_SS → Option (Int32 × it_SS))} (hk57 : ∀  (S : it_SS), it_ok (k57  S) P → it_Ev g l 6 it_m_X6_film 0 0 114 [some (.ref 45), none, none, some (.int x3), none] [] κ S (it_pi κ P)) : ∀ (n : Nat) (v4 : Int32) (S : it_SS), it_ok (lp_X6_film_57 κ x1 x2 x3 k57 n v4 S) P → it_Ev g l 6 it_m_X6_film 0 0 57 [some (.ref 45), some (.int x1), some (.int x2), some (.int x3), some (.int v4)] [] κ S (it_pi κ P) := by
  intro n
  induction n with
  | zero =>
    intro _ _ h
    exact (it_ok_n h).elim
  | succ n57 ih57 =>
    intro v4 S h
    rw [lp_X6_film_57] at h
    refine ev_iload d_X6_film_57 rfl ?_
    refine ev_bipush d_X6_film_59 kv_bipush_40 ?_
    refine ev_icmp_ge (tgt := 114) d_X6_film_61 (by decide) (fun hc13 => ?_) (fun hc13 => ?_)
    · have h := it_ok_t h hc13
      refine ev_keep [true, false, false, true, false] ?_
      exact hk57  _ h
    · have h := it_ok_f h hc13
      refine ev_aload_n d_X6_film_64 rfl ?_
      refine ev_getRr (r := 57) rfl d_X6_film_65 fl_IcedTooSoonModel_43 hm.1 rfl ?_
      refine ev_bipush d_X6_film_68 kv_bipush_40 ?_
      refine ev_iload_n d_X6_film_70 rfl ?_
      refine ev_imul d_X6_film_71 ?_
      refine ev_iload d_X6_film_72 rfl ?_
      refine ev_iadd d_X6_film_74 ?_
      refine ev_iconst d_X6_film_75 kv_iconst_0 ?_
      obtain ⟨hb14, h⟩ := it_ok_g h
      refine ev_iast d_X6_film_76 (by decide) (hm).2.2.2.2.2.2.2.2.2.2.2.2.1 (it_bd_in hb14) ?_
      refine ev_iload d_X6_film_77 rfl ?_
      refine ev_iload_n d_X6_film_79 rfl ?_
      refine ev_icmp_ge (tgt := 108) d_X6_film_80 (by decide) (fun hc15 => ?_) (fun hc15 => ?_)
      · have h := it_ok_t h hc15
        refine ev_iinc d_X6_film_108 kv_iconst_1 rfl (by decide) ?_
        show it_Ev g l 6 it_m_X6_film 0 0 111 [some (.ref 45), some (.int x1), some (.int x2), some (.int x3), some (.int (v4 + 1))] [] κ (it_up S 57 (((40 * x1) + v4) : Int32).toNatClampNeg 0) (it_pi κ P)
        refine ev_goto (tgt := 57) d_X6_film_111 (by decide) ?_
        refine ev_keep [true, true, true, true, true] ?_
        exact ih57 _ _ h
      · have h := it_ok_f h hc15
        refine ev_aload_n d_X6_film_83 rfl ?_
        refine ev_callV (ci := 6) (b := 45) (M' := it_m_X6_dayOf) (d' := 5) (As := []) d_X6_film_84 ml_IcedTooSoonModel_191 hm.1.1 hm.1.2.1 ⟨_, rfl, rfl⟩ rfl rfl (Nat.le_of_ble_eq_true rfl) (by decide) (by decide) (by decide) (L_X6_dayOf hm (it_ok_b h)) (fun _ _ _ _ q => by cases q.1; rfl) ?_
        rintro _ _ S16 ⟨rfl, r17, rfl, h⟩
        show it_Ev g l 6 it_m_X6_film 0 0 87 [some (.ref 45), some (.int x1), some (.int x2), some (.int x3), some (.int v4)] [.int r17] κ S16 (it_pi κ P)
        refine ev_pop d_X6_film_87 rfl ?_
        refine ev_aload_n d_X6_film_88 rfl ?_
        refine ev_getRr (r := 57) rfl d_X6_film_89 fl_IcedTooSoonModel_43 hm.1 rfl ?_
        refine ev_bipush d_X6_film_92 kv_bipush_40 ?_
        refine ev_iload_n d_X6_film_94 rfl ?_
        refine ev_imul d_X6_film_95 ?_
        refine ev_iload d_X6_film_96 rfl ?_
        refine ev_iadd d_X6_film_98 ?_
        refine ev_aload_n d_X6_film_99 rfl ?_
        refine ev_getRr (r := 48) rfl d_X6_film_100 fl_IcedTooSoonModel_16 hm.1 rfl ?_
        refine ev_iconst d_X6_film_103 kv_iconst_2 ?_
        refine ev_iload_n d_X6_film_104 rfl ?_
        refine ev_imul d_X6_film_105 ?_
        obtain ⟨hb18, h⟩ := it_ok_g h
        refine ev_iald d_X6_film_106 (hm).2.2.2.1 (it_bd_in hb18) ?_
        refine ev_iast d_X6_film_107 (by decide) (hm).2.2.2.2.2.2.2.2.2.2.2.2.1 (it_bd_in hb14) ?_
        refine ev_iinc d_X6_film_108 kv_iconst_1 rfl (by decide) ?_
        show it_Ev g l 6 it_m_X6_film 0 0 111 [some (.ref 45), some (.int x1), some (.int x2), some (.int x3), some (.int (v4 + 1))] [] κ (it_up S16 57 (((40 * x1) + v4) : Int32).toNatClampNeg (S16 48 ((2 * x2) : Int32).toNatClampNeg)) (it_pi κ P)
        refine ev_goto (tgt := 57) d_X6_film_111 (by decide) ?_
        refine ev_keep [true, true, true, true, true] ?_
        exact ih57 _ _ h
set_option maxHeartbeats 4000000 in
set_option maxRecDepth 100000 in
theorem L_X6_film {g : it_G} {l : Launch} {κ : it_KK} {x1 : Int32} {x2 : Int32} {x3 : Int32} (hm : it_wm κ) {S : it_SS} {P : Int32 → it_SS → Prop} (h : it_ok (f_X6_film κ x1 x2 x3 S) P) : it_Cn g l 6 it_m_X6_film [.ref 45, .int x1, .int x2, .int x3] κ S (it_pi κ P) := by
  refine it_Cn.of (by decide +kernel) (Nat.le_of_ble_eq_true rfl) ?_
  rw [f_X6_film] at h
  show it_Ev g l 6 it_m_X6_film 0 0 0 [some (.ref 45), some (.int x1), some (.int x2), some (.int x3), none] [] κ S (it_pi κ P)
  refine ev_iload_n d_X6_film_0 rfl ?_
  refine ev_iconst d_X6_film_1 kv_iconst_0 ?_
  refine ev_iconst d_X6_film_2 kv_iconst_3 ?_
  refine ev_callS (M' := it_m_X6_in) (d' := 1) (As := [.int x1, .int 0, .int 3]) d_X6_film_3 ml_IcedTooSoonModel_78 rfl rfl (Nat.le_of_ble_eq_true rfl) (by decide) (by decide) (by decide) (L_X6_in  (it_ok_b h)) (fun _ _ _ _ q => by cases q.1; rfl) ?_
  rintro _ _ S1 ⟨rfl, r2, rfl, h⟩
  show it_Ev g l 6 it_m_X6_film 0 0 6 [some (.ref 45), some (.int x1), some (.int x2), some (.int x3), none] [.int r2] κ S1 (it_pi κ P)
  refine ev_if_ne (tgt := 12) d_X6_film_6 (by decide) (fun hc3 => ?_) (fun hc3 => ?_)
  · have h := it_ok_f h hc3
    refine ev_aload_n d_X6_film_12 rfl ?_
    refine ev_iload_n d_X6_film_13 rfl ?_
    refine ev_callV (ci := 6) (b := 45) (M' := it_m_X6_isOne) (d' := 2) (As := [.int x2]) d_X6_film_14 ml_IcedTooSoonModel_173 hm.1.1 hm.1.2.1 ⟨_, rfl, rfl⟩ rfl rfl (Nat.le_of_ble_eq_true rfl) (by decide) (by decide) (by decide) (L_X6_isOne hm (it_ok_b h)) (fun _ _ _ _ q => by cases q.1; rfl) ?_
    rintro _ _ S4 ⟨rfl, r5, rfl, h⟩
    show it_Ev g l 6 it_m_X6_film 0 0 17 [some (.ref 45), some (.int x1), some (.int x2), some (.int x3), none] [.int r5] κ S4 (it_pi κ P)
    refine ev_if_ne (tgt := 23) d_X6_film_17 (by decide) (fun hc6 => ?_) (fun hc6 => ?_)
    · have h := it_ok_f h hc6
      refine ev_iload_n d_X6_film_23 rfl ?_
      refine ev_iconst d_X6_film_24 kv_iconst_0 ?_
      refine ev_bipush d_X6_film_25 kv_bipush_20 ?_
      refine ev_callS (M' := it_m_X6_in) (d' := 1) (As := [.int x3, .int 0, .int 20]) d_X6_film_27 ml_IcedTooSoonModel_78 rfl rfl (Nat.le_of_ble_eq_true rfl) (by decide) (by decide) (by decide) (L_X6_in  (it_ok_b h)) (fun _ _ _ _ q => by cases q.1; rfl) ?_
      rintro _ _ S7 ⟨rfl, r8, rfl, h⟩
      show it_Ev g l 6 it_m_X6_film 0 0 30 [some (.ref 45), some (.int x1), some (.int x2), some (.int x3), none] [.int r8] κ S7 (it_pi κ P)
      refine ev_if_ne (tgt := 36) d_X6_film_30 (by decide) (fun hc9 => ?_) (fun hc9 => ?_)
      · have h := it_ok_f h hc9
        refine ev_aload_n d_X6_film_36 rfl ?_
        refine ev_getRr (r := 55) rfl d_X6_film_37 fl_IcedTooSoonModel_37 hm.1 rfl ?_
        refine ev_iload_n d_X6_film_40 rfl ?_
        refine ev_iconst d_X6_film_41 kv_iconst_0 ?_
        obtain ⟨hb10, h⟩ := it_ok_g h
        refine ev_iast d_X6_film_42 (by decide) (hm).2.2.2.2.2.2.2.2.2.2.1 (it_bd_in hb10) ?_
        refine ev_aload_n d_X6_film_43 rfl ?_
        refine ev_getRr (r := 56) rfl d_X6_film_44 fl_IcedTooSoonModel_40 hm.1 rfl ?_
        refine ev_iload_n d_X6_film_47 rfl ?_
        refine ev_iload_n d_X6_film_48 rfl ?_
        refine ev_iast d_X6_film_49 (by decide) (hm).2.2.2.2.2.2.2.2.2.2.2.1 (it_bd_in hb10) ?_
        refine ev_aload_n d_X6_film_50 rfl ?_
        refine ev_callV (ci := 6) (b := 45) (M' := it_m_X6_keeps) (d' := 1) (As := []) d_X6_film_51 ml_IcedTooSoonModel_194 hm.1.1 hm.1.2.1 ⟨_, rfl, rfl⟩ rfl rfl (Nat.le_of_ble_eq_true rfl) (by decide) (by decide) (by decide) (L_X6_keeps hm (it_ok_b h)) (fun _ _ _ _ q => by cases q.1; rfl) ?_
        rintro _ _ S11 ⟨rfl, rfl, h⟩
        show it_Ev g l 6 it_m_X6_film 0 0 54 [some (.ref 45), some (.int x1), some (.int x2), some (.int x3), none] [] κ S11 (it_pi κ P)
        refine ev_iconst d_X6_film_54 kv_iconst_0 ?_
        refine ev_istore d_X6_film_55 (by decide) ?_
        show it_Ev g l 6 it_m_X6_film 0 0 57 [some (.ref 45), some (.int x1), some (.int x2), some (.int x3), some (.int 0)] [] κ S11 (it_pi κ P)
        refine ev_keep [true, true, true, true, true] ?_
        refine Llp_X6_film_57 hm hb10 (fun  S19 h => ?_) _ _ _ h
        show it_Ev g l 6 it_m_X6_film 0 0 114 [some (.ref 45), none, none, some (.int x3), none] [] κ S19 (it_pi κ P)
        refine ev_aload_n d_X6_film_114 rfl ?_
        refine ev_callV (ci := 6) (b := 45) (M' := it_m_X6_lays) (d' := 1) (As := []) d_X6_film_115 ml_IcedTooSoonModel_197 hm.1.1 hm.1.2.1 ⟨_, rfl, rfl⟩ rfl rfl (Nat.le_of_ble_eq_true rfl) (by decide) (by decide) (by decide) (L_X6_lays hm (it_ok_b h)) (fun _ _ _ _ q => by cases q.1; rfl) ?_
        rintro _ _ S20 ⟨rfl, rfl, h⟩
        show it_Ev g l 6 it_m_X6_film 0 0 118 [some (.ref 45), none, none, some (.int x3), none] [] κ S20 (it_pi κ P)
        refine ev_iload_n d_X6_film_118 rfl ?_
        exact ev_ret (v := some (.int _)) ⟨d_X6_film_119, _, rfl, rfl⟩ (by decide) (by decide) ⟨rfl, _, rfl, it_ok_r h⟩
      · have h := it_ok_t h hc9
        refine ev_bipush d_X6_film_33 kv_bipush_m7 ?_
        exact ev_ret (v := some (.int _)) ⟨d_X6_film_35, _, rfl, rfl⟩ (by decide) (by decide) ⟨rfl, _, rfl, it_ok_r h⟩
    · have h := it_ok_t h hc6
      refine ev_bipush d_X6_film_20 kv_bipush_m5 ?_
      exact ev_ret (v := some (.int _)) ⟨d_X6_film_22, _, rfl, rfl⟩ (by decide) (by decide) ⟨rfl, _, rfl, it_ok_r h⟩
  · have h := it_ok_t h hc3
    refine ev_bipush d_X6_film_9 kv_bipush_m2 ?_
    exact ev_ret (v := some (.int _)) ⟨d_X6_film_11, _, rfl, rfl⟩ (by decide) (by decide) ⟨rfl, _, rfl, it_ok_r h⟩
theorem d_X6_lotOrders_0 : decode prog_8_method_71_code 0 = .ok (.iload_n 1, 1) := by decide +kernel
theorem d_X6_lotOrders_1 : decode prog_8_method_71_code 1 = .ok (.i2l, 1) := by decide +kernel
theorem d_X6_lotOrders_2 : decode prog_8_method_71_code 2 = .ok (.lconst 1, 1) := by decide +kernel
theorem d_X6_lotOrders_3 : decode prog_8_method_71_code 3 = .ok (.ladd, 1) := by decide +kernel
theorem d_X6_lotOrders_4 : decode prog_8_method_71_code 4 = .ok (.lstore_n 2, 1) := by decide +kernel
theorem d_X6_lotOrders_5 : decode prog_8_method_71_code 5 = .ok (.aload_n 0, 1) := by decide +kernel
theorem d_X6_lotOrders_6 : decode prog_8_method_71_code 6 = .ok (.invokevirtual 194, 3) := by decide +kernel
theorem d_X6_lotOrders_9 : decode prog_8_method_71_code 9 = .ok (.iconst 0, 1) := by decide +kernel
theorem d_X6_lotOrders_10 : decode prog_8_method_71_code 10 = .ok (.istore 4, 2) := by decide +kernel
theorem d_X6_lotOrders_12 : decode prog_8_method_71_code 12 = .ok (.iload 4, 2) := by decide +kernel
theorem d_X6_lotOrders_14 : decode prog_8_method_71_code 14 = .ok (.bipush 8, 2) := by decide +kernel
theorem d_X6_lotOrders_16 : decode prog_8_method_71_code 16 = .ok (.if_icmp .ge 89, 3) := by decide +kernel
theorem d_X6_lotOrders_19 : decode prog_8_method_71_code 19 = .ok (.lload_n 2, 1) := by decide +kernel
theorem d_X6_lotOrders_20 : decode prog_8_method_71_code 20 = .ok (.ldc2_w 240, 3) := by decide +kernel
theorem d_X6_lotOrders_23 : decode prog_8_method_71_code 23 = .ok (.lmul, 1) := by decide +kernel
theorem d_X6_lotOrders_24 : decode prog_8_method_71_code 24 = .ok (.ldc2_w 242, 3) := by decide +kernel
theorem d_X6_lotOrders_27 : decode prog_8_method_71_code 27 = .ok (.lrem, 1) := by decide +kernel
theorem d_X6_lotOrders_28 : decode prog_8_method_71_code 28 = .ok (.lstore_n 2, 1) := by decide +kernel
theorem d_X6_lotOrders_29 : decode prog_8_method_71_code 29 = .ok (.lload_n 2, 1) := by decide +kernel
theorem d_X6_lotOrders_30 : decode prog_8_method_71_code 30 = .ok (.ldc2_w 244, 3) := by decide +kernel
theorem d_X6_lotOrders_33 : decode prog_8_method_71_code 33 = .ok (.lrem, 1) := by decide +kernel
theorem d_X6_lotOrders_34 : decode prog_8_method_71_code 34 = .ok (.l2i, 1) := by decide +kernel
theorem d_X6_lotOrders_35 : decode prog_8_method_71_code 35 = .ok (.istore 5, 2) := by decide +kernel
theorem d_X6_lotOrders_37 : decode prog_8_method_71_code 37 = .ok (.lload_n 2, 1) := by decide +kernel
theorem d_X6_lotOrders_38 : decode prog_8_method_71_code 38 = .ok (.ldc2_w 240, 3) := by decide +kernel
theorem d_X6_lotOrders_41 : decode prog_8_method_71_code 41 = .ok (.lmul, 1) := by decide +kernel
theorem d_X6_lotOrders_42 : decode prog_8_method_71_code 42 = .ok (.ldc2_w 242, 3) := by decide +kernel
theorem d_X6_lotOrders_45 : decode prog_8_method_71_code 45 = .ok (.lrem, 1) := by decide +kernel
theorem d_X6_lotOrders_46 : decode prog_8_method_71_code 46 = .ok (.lstore_n 2, 1) := by decide +kernel
theorem d_X6_lotOrders_47 : decode prog_8_method_71_code 47 = .ok (.lload_n 2, 1) := by decide +kernel
theorem d_X6_lotOrders_48 : decode prog_8_method_71_code 48 = .ok (.ldc2_w 246, 3) := by decide +kernel
theorem d_X6_lotOrders_51 : decode prog_8_method_71_code 51 = .ok (.lrem, 1) := by decide +kernel
theorem d_X6_lotOrders_52 : decode prog_8_method_71_code 52 = .ok (.l2i, 1) := by decide +kernel
theorem d_X6_lotOrders_53 : decode prog_8_method_71_code 53 = .ok (.bipush 99, 2) := by decide +kernel
theorem d_X6_lotOrders_55 : decode prog_8_method_71_code 55 = .ok (.isub, 1) := by decide +kernel
theorem d_X6_lotOrders_56 : decode prog_8_method_71_code 56 = .ok (.istore 6, 2) := by decide +kernel
theorem d_X6_lotOrders_58 : decode prog_8_method_71_code 58 = .ok (.lload_n 2, 1) := by decide +kernel
theorem d_X6_lotOrders_59 : decode prog_8_method_71_code 59 = .ok (.ldc2_w 240, 3) := by decide +kernel
theorem d_X6_lotOrders_62 : decode prog_8_method_71_code 62 = .ok (.lmul, 1) := by decide +kernel
theorem d_X6_lotOrders_63 : decode prog_8_method_71_code 63 = .ok (.ldc2_w 242, 3) := by decide +kernel
theorem d_X6_lotOrders_66 : decode prog_8_method_71_code 66 = .ok (.lrem, 1) := by decide +kernel
theorem d_X6_lotOrders_67 : decode prog_8_method_71_code 67 = .ok (.lstore_n 2, 1) := by decide +kernel
theorem d_X6_lotOrders_68 : decode prog_8_method_71_code 68 = .ok (.iload 5, 2) := by decide +kernel
theorem d_X6_lotOrders_70 : decode prog_8_method_71_code 70 = .ok (.aload_n 0, 1) := by decide +kernel
theorem d_X6_lotOrders_71 : decode prog_8_method_71_code 71 = .ok (.getfield 75, 3) := by decide +kernel
theorem d_X6_lotOrders_74 : decode prog_8_method_71_code 74 = .ok (.if_icmp .ge 20, 3) := by decide +kernel
theorem d_X6_lotOrders_77 : decode prog_8_method_71_code 77 = .ok (.aload_n 0, 1) := by decide +kernel
theorem d_X6_lotOrders_78 : decode prog_8_method_71_code 78 = .ok (.iload 5, 2) := by decide +kernel
theorem d_X6_lotOrders_80 : decode prog_8_method_71_code 80 = .ok (.iload 6, 2) := by decide +kernel
theorem d_X6_lotOrders_82 : decode prog_8_method_71_code 82 = .ok (.iconst 1, 1) := by decide +kernel
theorem d_X6_lotOrders_83 : decode prog_8_method_71_code 83 = .ok (.lload_n 2, 1) := by decide +kernel
theorem d_X6_lotOrders_84 : decode prog_8_method_71_code 84 = .ok (.ldc2_w 248, 3) := by decide +kernel
theorem d_X6_lotOrders_87 : decode prog_8_method_71_code 87 = .ok (.lrem, 1) := by decide +kernel
theorem d_X6_lotOrders_88 : decode prog_8_method_71_code 88 = .ok (.l2i, 1) := by decide +kernel
theorem d_X6_lotOrders_89 : decode prog_8_method_71_code 89 = .ok (.iadd, 1) := by decide +kernel
theorem d_X6_lotOrders_90 : decode prog_8_method_71_code 90 = .ok (.invokevirtual 176, 3) := by decide +kernel
theorem d_X6_lotOrders_93 : decode prog_8_method_71_code 93 = .ok (.pop, 1) := by decide +kernel
theorem d_X6_lotOrders_94 : decode prog_8_method_71_code 94 = .ok (.aload_n 0, 1) := by decide +kernel
theorem d_X6_lotOrders_95 : decode prog_8_method_71_code 95 = .ok (.invokevirtual 191, 3) := by decide +kernel
theorem d_X6_lotOrders_98 : decode prog_8_method_71_code 98 = .ok (.pop, 1) := by decide +kernel
theorem d_X6_lotOrders_99 : decode prog_8_method_71_code 99 = .ok (.iinc 4 1, 3) := by decide +kernel
theorem d_X6_lotOrders_102 : decode prog_8_method_71_code 102 = .ok (.goto (-90), 3) := by decide +kernel
theorem d_X6_lotOrders_105 : decode prog_8_method_71_code 105 = .ok (.aload_n 0, 1) := by decide +kernel
theorem d_X6_lotOrders_106 : decode prog_8_method_71_code 106 = .ok (.invokevirtual 200, 3) := by decide +kernel
theorem d_X6_lotOrders_109 : decode prog_8_method_71_code 109 = .ok (.istore 4, 2) := by decide +kernel
theorem d_X6_lotOrders_111 : decode prog_8_method_71_code 111 = .ok (.aload_n 0, 1) := by decide +kernel
theorem d_X6_lotOrders_112 : decode prog_8_method_71_code 112 = .ok (.aload_n 0, 1) := by decide +kernel
theorem d_X6_lotOrders_113 : decode prog_8_method_71_code 113 = .ok (.invokevirtual 90, 3) := by decide +kernel
theorem d_X6_lotOrders_116 : decode prog_8_method_71_code 116 = .ok (.putfield 250, 3) := by decide +kernel
theorem d_X6_lotOrders_119 : decode prog_8_method_71_code 119 = .ok (.aload_n 0, 1) := by decide +kernel
theorem d_X6_lotOrders_120 : decode prog_8_method_71_code 120 = .ok (.invokevirtual 197, 3) := by decide +kernel
theorem d_X6_lotOrders_123 : decode prog_8_method_71_code 123 = .ok (.iload 4, 2) := by decide +kernel
theorem d_X6_lotOrders_125 : decode prog_8_method_71_code 125 = .ok (.ireturn, 1) := by decide +kernel
def lp_X6_lotOrders_12 (κ : it_KK) (x1 : Int32) (k12 : (it_SS → Option (Int32 × it_SS))) : Nat → Int64 → Int32 → it_SS → Option (Int32 × it_SS)
  | 0, _, _, _ => none
  | n12 + 1, v2, v4, S => if 8 ≤ v4 then
k12  S
else
if (S 45 0) ≤ (((((v2 * 48271) - (v2 * 48271) / 2147483647 * 2147483647) - ((v2 * 48271) - (v2 * 48271) / 2147483647 * 2147483647) / 6 * 6) : Int64).toInt32) then
it_bi (f_X6_dayOf κ  S) (fun r6 S5 =>
lp_X6_lotOrders_12 κ x1 k12 n12 ((((((v2 * 48271) - (v2 * 48271) / 2147483647 * 2147483647) * 48271) - (((v2 * 48271) - (v2 * 48271) / 2147483647 * 2147483647) * 48271) / 2147483647 * 2147483647) * 48271) - (((((v2 * 48271) - (v2 * 48271) / 2147483647 * 2147483647) * 48271) - (((v2 * 48271) - (v2 * 48271) / 2147483647 * 2147483647) * 48271) / 2147483647 * 2147483647) * 48271) / 2147483647 * 2147483647) (v4 + 1) S5)
else
it_bi (f_X6_ordered κ (((((v2 * 48271) - (v2 * 48271) / 2147483647 * 2147483647) - ((v2 * 48271) - (v2 * 48271) / 2147483647 * 2147483647) / 6 * 6) : Int64).toInt32) ((((((((v2 * 48271) - (v2 * 48271) / 2147483647 * 2147483647) * 48271) - (((v2 * 48271) - (v2 * 48271) / 2147483647 * 2147483647) * 48271) / 2147483647 * 2147483647) - ((((v2 * 48271) - (v2 * 48271) / 2147483647 * 2147483647) * 48271) - (((v2 * 48271) - (v2 * 48271) / 2147483647 * 2147483647) * 48271) / 2147483647 * 2147483647) / 199 * 199) : Int64).toInt32) - 99) (1 + (((((((((v2 * 48271) - (v2 * 48271) / 2147483647 * 2147483647) * 48271) - (((v2 * 48271) - (v2 * 48271) / 2147483647 * 2147483647) * 48271) / 2147483647 * 2147483647) * 48271) - (((((v2 * 48271) - (v2 * 48271) / 2147483647 * 2147483647) * 48271) - (((v2 * 48271) - (v2 * 48271) / 2147483647 * 2147483647) * 48271) / 2147483647 * 2147483647) * 48271) / 2147483647 * 2147483647) - ((((((v2 * 48271) - (v2 * 48271) / 2147483647 * 2147483647) * 48271) - (((v2 * 48271) - (v2 * 48271) / 2147483647 * 2147483647) * 48271) / 2147483647 * 2147483647) * 48271) - (((((v2 * 48271) - (v2 * 48271) / 2147483647 * 2147483647) * 48271) - (((v2 * 48271) - (v2 * 48271) / 2147483647 * 2147483647) * 48271) / 2147483647 * 2147483647) * 48271) / 2147483647 * 2147483647) / 99 * 99) : Int64).toInt32)) S) (fun r8 S7 =>
it_bi (f_X6_dayOf κ  S7) (fun r10 S9 =>
lp_X6_lotOrders_12 κ x1 k12 n12 ((((((v2 * 48271) - (v2 * 48271) / 2147483647 * 2147483647) * 48271) - (((v2 * 48271) - (v2 * 48271) / 2147483647 * 2147483647) * 48271) / 2147483647 * 2147483647) * 48271) - (((((v2 * 48271) - (v2 * 48271) / 2147483647 * 2147483647) * 48271) - (((v2 * 48271) - (v2 * 48271) / 2147483647 * 2147483647) * 48271) / 2147483647 * 2147483647) * 48271) / 2147483647 * 2147483647) (v4 + 1) S9))
def f_X6_lotOrders (κ : it_KK) (x1 : Int32) (S : it_SS) : Option (Int32 × it_SS) :=
it_bi (f_X6_keeps κ  S) (fun _ S1 =>
lp_X6_lotOrders_12 κ x1 (fun  S11 =>
it_bi (f_X6_moodAll κ  S11) (fun r13 S12 =>
it_bi (f_X6_many κ  S12) (fun r15 S14 =>
it_bi (f_X6_lays κ  (it_up S14 45 33 r15)) (fun _ S16 =>
some (r13, S16))))) it_FU (((x1 : Int32).toInt64) + 1) 0 S1)
set_option maxHeartbeats 4000000 in
set_option maxRecDepth 100000 in
theorem Llp_X6_lotOrders_12 {g : it_G} {l : Launch} {κ : it_KK} {x1 : Int32} (hm : it_wm κ) {P : Int32 → it_SS → Prop} {k12 : (it_SS → Option (Int32 × it_SS))} (hk12 : ∀  (S : it_SS), it_ok (k12  S) P → it_Ev g l 6 it_m_X6_lotOrders 0 0 105 [some (.ref 45), none, none, none, none, none, none] [] κ S (it_pi κ P)) : ∀ (n : Nat) (v2 : Int64) (v4 : Int32) (S : it_SS), it_ok (lp_X6_lotOrders_12 κ x1 k12 n v2 v4 S) P → it_Ev g l 6 it_m_X6_lotOrders 0 0 12 [some (.ref 45), none, some (.long v2), none, some (.int v4), none, none] [] κ S (it_pi κ P) := by
  intro n
  induction n with
  | zero =>
    intro _ _ _ h
    exact (it_ok_n h).elim
  | succ n12 ih12 =>
    intro v2 v4 S h
    rw [lp_X6_lotOrders_12] at h
    refine ev_iload d_X6_lotOrders_12 rfl ?_
    refine ev_bipush d_X6_lotOrders_14 kv_bipush_8 ?_
    refine ev_icmp_ge (tgt := 105) d_X6_lotOrders_16 (by decide) (fun hc3 => ?_) (fun hc3 => ?_)
    · have h := it_ok_t h hc3
      refine ev_keep [true, false, false, false, false, false, false] ?_
      exact hk12  _ h
    · have h := it_ok_f h hc3
      refine ev_lload_n d_X6_lotOrders_19 rfl ?_
      refine ev_ldc2 d_X6_lotOrders_20 kn_IcedTooSoonModel_240 ?_
      refine ev_lmul d_X6_lotOrders_23 ?_
      refine ev_ldc2 d_X6_lotOrders_24 kn_IcedTooSoonModel_242 ?_
      refine ev_lrem d_X6_lotOrders_27 (by decide) ?_
      refine ev_lstore_n d_X6_lotOrders_28 (by decide) ?_
      show it_Ev g l 6 it_m_X6_lotOrders 0 0 29 [some (.ref 45), none, some (.long ((v2 * 48271) - (v2 * 48271) / 2147483647 * 2147483647)), none, some (.int v4), none, none] [] κ S (it_pi κ P)
      refine ev_lload_n d_X6_lotOrders_29 rfl ?_
      refine ev_ldc2 d_X6_lotOrders_30 kn_IcedTooSoonModel_244 ?_
      refine ev_lrem d_X6_lotOrders_33 (by decide) ?_
      refine ev_l2i d_X6_lotOrders_34 ?_
      refine ev_istore d_X6_lotOrders_35 (by decide) ?_
      show it_Ev g l 6 it_m_X6_lotOrders 0 0 37 [some (.ref 45), none, some (.long ((v2 * 48271) - (v2 * 48271) / 2147483647 * 2147483647)), none, some (.int v4), some (.int (((((v2 * 48271) - (v2 * 48271) / 2147483647 * 2147483647) - ((v2 * 48271) - (v2 * 48271) / 2147483647 * 2147483647) / 6 * 6) : Int64).toInt32)), none] [] κ S (it_pi κ P)
      refine ev_lload_n d_X6_lotOrders_37 rfl ?_
      refine ev_ldc2 d_X6_lotOrders_38 kn_IcedTooSoonModel_240 ?_
      refine ev_lmul d_X6_lotOrders_41 ?_
      refine ev_ldc2 d_X6_lotOrders_42 kn_IcedTooSoonModel_242 ?_
      refine ev_lrem d_X6_lotOrders_45 (by decide) ?_
      refine ev_lstore_n d_X6_lotOrders_46 (by decide) ?_
      show it_Ev g l 6 it_m_X6_lotOrders 0 0 47 [some (.ref 45), none, some (.long ((((v2 * 48271) - (v2 * 48271) / 2147483647 * 2147483647) * 48271) - (((v2 * 48271) - (v2 * 48271) / 2147483647 * 2147483647) * 48271) / 2147483647 * 2147483647)), none, some (.int v4), some (.int (((((v2 * 48271) - (v2 * 48271) / 2147483647 * 2147483647) - ((v2 * 48271) - (v2 * 48271) / 2147483647 * 2147483647) / 6 * 6) : Int64).toInt32)), none] [] κ S (it_pi κ P)
      refine ev_lload_n d_X6_lotOrders_47 rfl ?_
      refine ev_ldc2 d_X6_lotOrders_48 kn_IcedTooSoonModel_246 ?_
      refine ev_lrem d_X6_lotOrders_51 (by decide) ?_
      refine ev_l2i d_X6_lotOrders_52 ?_
      refine ev_bipush d_X6_lotOrders_53 kv_bipush_99 ?_
      refine ev_isub d_X6_lotOrders_55 ?_
      refine ev_istore d_X6_lotOrders_56 (by decide) ?_
      show it_Ev g l 6 it_m_X6_lotOrders 0 0 58 [some (.ref 45), none, some (.long ((((v2 * 48271) - (v2 * 48271) / 2147483647 * 2147483647) * 48271) - (((v2 * 48271) - (v2 * 48271) / 2147483647 * 2147483647) * 48271) / 2147483647 * 2147483647)), none, some (.int v4), some (.int (((((v2 * 48271) - (v2 * 48271) / 2147483647 * 2147483647) - ((v2 * 48271) - (v2 * 48271) / 2147483647 * 2147483647) / 6 * 6) : Int64).toInt32)), some (.int ((((((((v2 * 48271) - (v2 * 48271) / 2147483647 * 2147483647) * 48271) - (((v2 * 48271) - (v2 * 48271) / 2147483647 * 2147483647) * 48271) / 2147483647 * 2147483647) - ((((v2 * 48271) - (v2 * 48271) / 2147483647 * 2147483647) * 48271) - (((v2 * 48271) - (v2 * 48271) / 2147483647 * 2147483647) * 48271) / 2147483647 * 2147483647) / 199 * 199) : Int64).toInt32) - 99))] [] κ S (it_pi κ P)
      refine ev_lload_n d_X6_lotOrders_58 rfl ?_
      refine ev_ldc2 d_X6_lotOrders_59 kn_IcedTooSoonModel_240 ?_
      refine ev_lmul d_X6_lotOrders_62 ?_
      refine ev_ldc2 d_X6_lotOrders_63 kn_IcedTooSoonModel_242 ?_
      refine ev_lrem d_X6_lotOrders_66 (by decide) ?_
      refine ev_lstore_n d_X6_lotOrders_67 (by decide) ?_
      show it_Ev g l 6 it_m_X6_lotOrders 0 0 68 [some (.ref 45), none, some (.long ((((((v2 * 48271) - (v2 * 48271) / 2147483647 * 2147483647) * 48271) - (((v2 * 48271) - (v2 * 48271) / 2147483647 * 2147483647) * 48271) / 2147483647 * 2147483647) * 48271) - (((((v2 * 48271) - (v2 * 48271) / 2147483647 * 2147483647) * 48271) - (((v2 * 48271) - (v2 * 48271) / 2147483647 * 2147483647) * 48271) / 2147483647 * 2147483647) * 48271) / 2147483647 * 2147483647)), none, some (.int v4), some (.int (((((v2 * 48271) - (v2 * 48271) / 2147483647 * 2147483647) - ((v2 * 48271) - (v2 * 48271) / 2147483647 * 2147483647) / 6 * 6) : Int64).toInt32)), some (.int ((((((((v2 * 48271) - (v2 * 48271) / 2147483647 * 2147483647) * 48271) - (((v2 * 48271) - (v2 * 48271) / 2147483647 * 2147483647) * 48271) / 2147483647 * 2147483647) - ((((v2 * 48271) - (v2 * 48271) / 2147483647 * 2147483647) * 48271) - (((v2 * 48271) - (v2 * 48271) / 2147483647 * 2147483647) * 48271) / 2147483647 * 2147483647) / 199 * 199) : Int64).toInt32) - 99))] [] κ S (it_pi κ P)
      refine ev_iload d_X6_lotOrders_68 rfl ?_
      refine ev_aload_n d_X6_lotOrders_70 rfl ?_
      refine ev_getI d_X6_lotOrders_71 fl_IcedTooSoonModel_75 hm.1 rfl ?_
      refine ev_icmp_ge (tgt := 94) d_X6_lotOrders_74 (by decide) (fun hc4 => ?_) (fun hc4 => ?_)
      · have h := it_ok_t h hc4
        refine ev_aload_n d_X6_lotOrders_94 rfl ?_
        refine ev_callV (ci := 6) (b := 45) (M' := it_m_X6_dayOf) (d' := 5) (As := []) d_X6_lotOrders_95 ml_IcedTooSoonModel_191 hm.1.1 hm.1.2.1 ⟨_, rfl, rfl⟩ rfl rfl (Nat.le_of_ble_eq_true rfl) (by decide) (by decide) (by decide) (L_X6_dayOf hm (it_ok_b h)) (fun _ _ _ _ q => by cases q.1; rfl) ?_
        rintro _ _ S5 ⟨rfl, r6, rfl, h⟩
        show it_Ev g l 6 it_m_X6_lotOrders 0 0 98 [some (.ref 45), none, some (.long ((((((v2 * 48271) - (v2 * 48271) / 2147483647 * 2147483647) * 48271) - (((v2 * 48271) - (v2 * 48271) / 2147483647 * 2147483647) * 48271) / 2147483647 * 2147483647) * 48271) - (((((v2 * 48271) - (v2 * 48271) / 2147483647 * 2147483647) * 48271) - (((v2 * 48271) - (v2 * 48271) / 2147483647 * 2147483647) * 48271) / 2147483647 * 2147483647) * 48271) / 2147483647 * 2147483647)), none, some (.int v4), some (.int (((((v2 * 48271) - (v2 * 48271) / 2147483647 * 2147483647) - ((v2 * 48271) - (v2 * 48271) / 2147483647 * 2147483647) / 6 * 6) : Int64).toInt32)), some (.int ((((((((v2 * 48271) - (v2 * 48271) / 2147483647 * 2147483647) * 48271) - (((v2 * 48271) - (v2 * 48271) / 2147483647 * 2147483647) * 48271) / 2147483647 * 2147483647) - ((((v2 * 48271) - (v2 * 48271) / 2147483647 * 2147483647) * 48271) - (((v2 * 48271) - (v2 * 48271) / 2147483647 * 2147483647) * 48271) / 2147483647 * 2147483647) / 199 * 199) : Int64).toInt32) - 99))] [.int r6] κ S5 (it_pi κ P)
        refine ev_pop d_X6_lotOrders_98 rfl ?_
        refine ev_iinc d_X6_lotOrders_99 kv_iconst_1 rfl (by decide) ?_
        show it_Ev g l 6 it_m_X6_lotOrders 0 0 102 [some (.ref 45), none, some (.long ((((((v2 * 48271) - (v2 * 48271) / 2147483647 * 2147483647) * 48271) - (((v2 * 48271) - (v2 * 48271) / 2147483647 * 2147483647) * 48271) / 2147483647 * 2147483647) * 48271) - (((((v2 * 48271) - (v2 * 48271) / 2147483647 * 2147483647) * 48271) - (((v2 * 48271) - (v2 * 48271) / 2147483647 * 2147483647) * 48271) / 2147483647 * 2147483647) * 48271) / 2147483647 * 2147483647)), none, some (.int (v4 + 1)), some (.int (((((v2 * 48271) - (v2 * 48271) / 2147483647 * 2147483647) - ((v2 * 48271) - (v2 * 48271) / 2147483647 * 2147483647) / 6 * 6) : Int64).toInt32)), some (.int ((((((((v2 * 48271) - (v2 * 48271) / 2147483647 * 2147483647) * 48271) - (((v2 * 48271) - (v2 * 48271) / 2147483647 * 2147483647) * 48271) / 2147483647 * 2147483647) - ((((v2 * 48271) - (v2 * 48271) / 2147483647 * 2147483647) * 48271) - (((v2 * 48271) - (v2 * 48271) / 2147483647 * 2147483647) * 48271) / 2147483647 * 2147483647) / 199 * 199) : Int64).toInt32) - 99))] [] κ S5 (it_pi κ P)
        refine ev_goto (tgt := 12) d_X6_lotOrders_102 (by decide) ?_
        refine ev_keep [true, false, true, false, true, false, false] ?_
        exact ih12 _ _ _ h
      · have h := it_ok_f h hc4
        refine ev_aload_n d_X6_lotOrders_77 rfl ?_
        refine ev_iload d_X6_lotOrders_78 rfl ?_
        refine ev_iload d_X6_lotOrders_80 rfl ?_
        refine ev_iconst d_X6_lotOrders_82 kv_iconst_1 ?_
        refine ev_lload_n d_X6_lotOrders_83 rfl ?_
        refine ev_ldc2 d_X6_lotOrders_84 kn_IcedTooSoonModel_248 ?_
        refine ev_lrem d_X6_lotOrders_87 (by decide) ?_
        refine ev_l2i d_X6_lotOrders_88 ?_
        refine ev_iadd d_X6_lotOrders_89 ?_
        refine ev_callV (ci := 6) (b := 45) (M' := it_m_X6_ordered) (d' := 5) (As := [.int (((((v2 * 48271) - (v2 * 48271) / 2147483647 * 2147483647) - ((v2 * 48271) - (v2 * 48271) / 2147483647 * 2147483647) / 6 * 6) : Int64).toInt32), .int ((((((((v2 * 48271) - (v2 * 48271) / 2147483647 * 2147483647) * 48271) - (((v2 * 48271) - (v2 * 48271) / 2147483647 * 2147483647) * 48271) / 2147483647 * 2147483647) - ((((v2 * 48271) - (v2 * 48271) / 2147483647 * 2147483647) * 48271) - (((v2 * 48271) - (v2 * 48271) / 2147483647 * 2147483647) * 48271) / 2147483647 * 2147483647) / 199 * 199) : Int64).toInt32) - 99), .int (1 + (((((((((v2 * 48271) - (v2 * 48271) / 2147483647 * 2147483647) * 48271) - (((v2 * 48271) - (v2 * 48271) / 2147483647 * 2147483647) * 48271) / 2147483647 * 2147483647) * 48271) - (((((v2 * 48271) - (v2 * 48271) / 2147483647 * 2147483647) * 48271) - (((v2 * 48271) - (v2 * 48271) / 2147483647 * 2147483647) * 48271) / 2147483647 * 2147483647) * 48271) / 2147483647 * 2147483647) - ((((((v2 * 48271) - (v2 * 48271) / 2147483647 * 2147483647) * 48271) - (((v2 * 48271) - (v2 * 48271) / 2147483647 * 2147483647) * 48271) / 2147483647 * 2147483647) * 48271) - (((((v2 * 48271) - (v2 * 48271) / 2147483647 * 2147483647) * 48271) - (((v2 * 48271) - (v2 * 48271) / 2147483647 * 2147483647) * 48271) / 2147483647 * 2147483647) * 48271) / 2147483647 * 2147483647) / 99 * 99) : Int64).toInt32))]) d_X6_lotOrders_90 ml_IcedTooSoonModel_176 hm.1.1 hm.1.2.1 ⟨_, rfl, rfl⟩ rfl rfl (Nat.le_of_ble_eq_true rfl) (by decide) (by decide) (by decide) (L_X6_ordered hm (it_ok_b h)) (fun _ _ _ _ q => by cases q.1; rfl) ?_
        rintro _ _ S7 ⟨rfl, r8, rfl, h⟩
        show it_Ev g l 6 it_m_X6_lotOrders 0 0 93 [some (.ref 45), none, some (.long ((((((v2 * 48271) - (v2 * 48271) / 2147483647 * 2147483647) * 48271) - (((v2 * 48271) - (v2 * 48271) / 2147483647 * 2147483647) * 48271) / 2147483647 * 2147483647) * 48271) - (((((v2 * 48271) - (v2 * 48271) / 2147483647 * 2147483647) * 48271) - (((v2 * 48271) - (v2 * 48271) / 2147483647 * 2147483647) * 48271) / 2147483647 * 2147483647) * 48271) / 2147483647 * 2147483647)), none, some (.int v4), some (.int (((((v2 * 48271) - (v2 * 48271) / 2147483647 * 2147483647) - ((v2 * 48271) - (v2 * 48271) / 2147483647 * 2147483647) / 6 * 6) : Int64).toInt32)), some (.int ((((((((v2 * 48271) - (v2 * 48271) / 2147483647 * 2147483647) * 48271) - (((v2 * 48271) - (v2 * 48271) / 2147483647 * 2147483647) * 48271) / 2147483647 * 2147483647) - ((((v2 * 48271) - (v2 * 48271) / 2147483647 * 2147483647) * 48271) - (((v2 * 48271) - (v2 * 48271) / 2147483647 * 2147483647) * 48271) / 2147483647 * 2147483647) / 199 * 199) : Int64).toInt32) - 99))] [.int r8] κ S7 (it_pi κ P)
        refine ev_pop d_X6_lotOrders_93 rfl ?_
        refine ev_aload_n d_X6_lotOrders_94 rfl ?_
        refine ev_callV (ci := 6) (b := 45) (M' := it_m_X6_dayOf) (d' := 5) (As := []) d_X6_lotOrders_95 ml_IcedTooSoonModel_191 hm.1.1 hm.1.2.1 ⟨_, rfl, rfl⟩ rfl rfl (Nat.le_of_ble_eq_true rfl) (by decide) (by decide) (by decide) (L_X6_dayOf hm (it_ok_b h)) (fun _ _ _ _ q => by cases q.1; rfl) ?_
        rintro _ _ S9 ⟨rfl, r10, rfl, h⟩
        show it_Ev g l 6 it_m_X6_lotOrders 0 0 98 [some (.ref 45), none, some (.long ((((((v2 * 48271) - (v2 * 48271) / 2147483647 * 2147483647) * 48271) - (((v2 * 48271) - (v2 * 48271) / 2147483647 * 2147483647) * 48271) / 2147483647 * 2147483647) * 48271) - (((((v2 * 48271) - (v2 * 48271) / 2147483647 * 2147483647) * 48271) - (((v2 * 48271) - (v2 * 48271) / 2147483647 * 2147483647) * 48271) / 2147483647 * 2147483647) * 48271) / 2147483647 * 2147483647)), none, some (.int v4), some (.int (((((v2 * 48271) - (v2 * 48271) / 2147483647 * 2147483647) - ((v2 * 48271) - (v2 * 48271) / 2147483647 * 2147483647) / 6 * 6) : Int64).toInt32)), some (.int ((((((((v2 * 48271) - (v2 * 48271) / 2147483647 * 2147483647) * 48271) - (((v2 * 48271) - (v2 * 48271) / 2147483647 * 2147483647) * 48271) / 2147483647 * 2147483647) - ((((v2 * 48271) - (v2 * 48271) / 2147483647 * 2147483647) * 48271) - (((v2 * 48271) - (v2 * 48271) / 2147483647 * 2147483647) * 48271) / 2147483647 * 2147483647) / 199 * 199) : Int64).toInt32) - 99))] [.int r10] κ S9 (it_pi κ P)
        refine ev_pop d_X6_lotOrders_98 rfl ?_
        refine ev_iinc d_X6_lotOrders_99 kv_iconst_1 rfl (by decide) ?_
        show it_Ev g l 6 it_m_X6_lotOrders 0 0 102 [some (.ref 45), none, some (.long ((((((v2 * 48271) - (v2 * 48271) / 2147483647 * 2147483647) * 48271) - (((v2 * 48271) - (v2 * 48271) / 2147483647 * 2147483647) * 48271) / 2147483647 * 2147483647) * 48271) - (((((v2 * 48271) - (v2 * 48271) / 2147483647 * 2147483647) * 48271) - (((v2 * 48271) - (v2 * 48271) / 2147483647 * 2147483647) * 48271) / 2147483647 * 2147483647) * 48271) / 2147483647 * 2147483647)), none, some (.int (v4 + 1)), some (.int (((((v2 * 48271) - (v2 * 48271) / 2147483647 * 2147483647) - ((v2 * 48271) - (v2 * 48271) / 2147483647 * 2147483647) / 6 * 6) : Int64).toInt32)), some (.int ((((((((v2 * 48271) - (v2 * 48271) / 2147483647 * 2147483647) * 48271) - (((v2 * 48271) - (v2 * 48271) / 2147483647 * 2147483647) * 48271) / 2147483647 * 2147483647) - ((((v2 * 48271) - (v2 * 48271) / 2147483647 * 2147483647) * 48271) - (((v2 * 48271) - (v2 * 48271) / 2147483647 * 2147483647) * 48271) / 2147483647 * 2147483647) / 199 * 199) : Int64).toInt32) - 99))] [] κ S9 (it_pi κ P)
        refine ev_goto (tgt := 12) d_X6_lotOrders_102 (by decide) ?_
        refine ev_keep [true, false, true, false, true, false, false] ?_
        exact ih12 _ _ _ h
set_option maxHeartbeats 4000000 in
set_option maxRecDepth 100000 in
theorem L_X6_lotOrders {g : it_G} {l : Launch} {κ : it_KK} {x1 : Int32} (hm : it_wm κ) {S : it_SS} {P : Int32 → it_SS → Prop} (h : it_ok (f_X6_lotOrders κ x1 S) P) : it_Cn g l 6 it_m_X6_lotOrders [.ref 45, .int x1] κ S (it_pi κ P) := by
  refine it_Cn.of (by decide +kernel) (Nat.le_of_ble_eq_true rfl) ?_
  rw [f_X6_lotOrders] at h
  show it_Ev g l 6 it_m_X6_lotOrders 0 0 0 [some (.ref 45), some (.int x1), none, none, none, none, none] [] κ S (it_pi κ P)
  refine ev_iload_n d_X6_lotOrders_0 rfl ?_
  refine ev_i2l d_X6_lotOrders_1 ?_
  refine ev_lconst d_X6_lotOrders_2 kv_lconst_1 ?_
  refine ev_ladd d_X6_lotOrders_3 ?_
  refine ev_lstore_n d_X6_lotOrders_4 (by decide) ?_
  show it_Ev g l 6 it_m_X6_lotOrders 0 0 5 [some (.ref 45), some (.int x1), some (.long (((x1 : Int32).toInt64) + 1)), none, none, none, none] [] κ S (it_pi κ P)
  refine ev_aload_n d_X6_lotOrders_5 rfl ?_
  refine ev_callV (ci := 6) (b := 45) (M' := it_m_X6_keeps) (d' := 1) (As := []) d_X6_lotOrders_6 ml_IcedTooSoonModel_194 hm.1.1 hm.1.2.1 ⟨_, rfl, rfl⟩ rfl rfl (Nat.le_of_ble_eq_true rfl) (by decide) (by decide) (by decide) (L_X6_keeps hm (it_ok_b h)) (fun _ _ _ _ q => by cases q.1; rfl) ?_
  rintro _ _ S1 ⟨rfl, rfl, h⟩
  show it_Ev g l 6 it_m_X6_lotOrders 0 0 9 [some (.ref 45), some (.int x1), some (.long (((x1 : Int32).toInt64) + 1)), none, none, none, none] [] κ S1 (it_pi κ P)
  refine ev_iconst d_X6_lotOrders_9 kv_iconst_0 ?_
  refine ev_istore d_X6_lotOrders_10 (by decide) ?_
  show it_Ev g l 6 it_m_X6_lotOrders 0 0 12 [some (.ref 45), some (.int x1), some (.long (((x1 : Int32).toInt64) + 1)), none, some (.int 0), none, none] [] κ S1 (it_pi κ P)
  refine ev_keep [true, false, true, false, true, false, false] ?_
  refine Llp_X6_lotOrders_12 hm (fun  S11 h => ?_) _ _ _ _ h
  show it_Ev g l 6 it_m_X6_lotOrders 0 0 105 [some (.ref 45), none, none, none, none, none, none] [] κ S11 (it_pi κ P)
  refine ev_aload_n d_X6_lotOrders_105 rfl ?_
  refine ev_callV (ci := 6) (b := 45) (M' := it_m_X6_moodAll) (d' := 1) (As := []) d_X6_lotOrders_106 ml_IcedTooSoonModel_200 hm.1.1 hm.1.2.1 ⟨_, rfl, rfl⟩ rfl rfl (Nat.le_of_ble_eq_true rfl) (by decide) (by decide) (by decide) (L_X6_moodAll hm (it_ok_b h)) (fun _ _ _ _ q => by cases q.1; rfl) ?_
  rintro _ _ S12 ⟨rfl, r13, rfl, h⟩
  show it_Ev g l 6 it_m_X6_lotOrders 0 0 109 [some (.ref 45), none, none, none, none, none, none] [.int r13] κ S12 (it_pi κ P)
  refine ev_istore d_X6_lotOrders_109 (by decide) ?_
  show it_Ev g l 6 it_m_X6_lotOrders 0 0 111 [some (.ref 45), none, none, none, some (.int r13), none, none] [] κ S12 (it_pi κ P)
  refine ev_aload_n d_X6_lotOrders_111 rfl ?_
  refine ev_aload_n d_X6_lotOrders_112 rfl ?_
  refine ev_callV (ci := 6) (b := 45) (M' := it_m_X6_many) (d' := 3) (As := []) d_X6_lotOrders_113 ml_IcedTooSoonModel_90 hm.1.1 hm.1.2.1 ⟨_, rfl, rfl⟩ rfl rfl (Nat.le_of_ble_eq_true rfl) (by decide) (by decide) (by decide) (L_X6_many hm (it_ok_b h)) (fun _ _ _ _ q => by cases q.1; rfl) ?_
  rintro _ _ S14 ⟨rfl, r15, rfl, h⟩
  show it_Ev g l 6 it_m_X6_lotOrders 0 0 116 [some (.ref 45), none, none, none, some (.int r13), none, none] [.int r15, .ref 45] κ S14 (it_pi κ P)
  refine ev_putI d_X6_lotOrders_116 (by decide) fl_IcedTooSoonModel_250 fw_6_33 hm.1 rfl ?_
  refine ev_aload_n d_X6_lotOrders_119 rfl ?_
  refine ev_callV (ci := 6) (b := 45) (M' := it_m_X6_lays) (d' := 1) (As := []) d_X6_lotOrders_120 ml_IcedTooSoonModel_197 hm.1.1 hm.1.2.1 ⟨_, rfl, rfl⟩ rfl rfl (Nat.le_of_ble_eq_true rfl) (by decide) (by decide) (by decide) (L_X6_lays hm (it_ok_b h)) (fun _ _ _ _ q => by cases q.1; rfl) ?_
  rintro _ _ S16 ⟨rfl, rfl, h⟩
  show it_Ev g l 6 it_m_X6_lotOrders 0 0 123 [some (.ref 45), none, none, none, some (.int r13), none, none] [] κ S16 (it_pi κ P)
  refine ev_iload d_X6_lotOrders_123 rfl ?_
  exact ev_ret (v := some (.int _)) ⟨d_X6_lotOrders_125, _, rfl, rfl⟩ (by decide) (by decide) ⟨rfl, _, rfl, it_ok_r h⟩
theorem d_X6_drawn_0 : decode prog_8_method_72_code 0 = .ok (.iload_n 1, 1) := by decide +kernel
theorem d_X6_drawn_1 : decode prog_8_method_72_code 1 = .ok (.iconst 0, 1) := by decide +kernel
theorem d_X6_drawn_2 : decode prog_8_method_72_code 2 = .ok (.ldc 253, 2) := by decide +kernel
theorem d_X6_drawn_4 : decode prog_8_method_72_code 4 = .ok (.invokestatic 78, 3) := by decide +kernel
theorem d_X6_drawn_7 : decode prog_8_method_72_code 7 = .ok (.ifCond .eq 12, 3) := by decide +kernel
theorem d_X6_drawn_10 : decode prog_8_method_72_code 10 = .ok (.iload_n 2, 1) := by decide +kernel
theorem d_X6_drawn_11 : decode prog_8_method_72_code 11 = .ok (.iconst 0, 1) := by decide +kernel
theorem d_X6_drawn_12 : decode prog_8_method_72_code 12 = .ok (.iconst 1, 1) := by decide +kernel
theorem d_X6_drawn_13 : decode prog_8_method_72_code 13 = .ok (.invokestatic 78, 3) := by decide +kernel
theorem d_X6_drawn_16 : decode prog_8_method_72_code 16 = .ok (.ifCond .ne 7, 3) := by decide +kernel
theorem d_X6_drawn_19 : decode prog_8_method_72_code 19 = .ok (.sipush (-1000), 3) := by decide +kernel
theorem d_X6_drawn_22 : decode prog_8_method_72_code 22 = .ok (.ireturn, 1) := by decide +kernel
theorem d_X6_drawn_23 : decode prog_8_method_72_code 23 = .ok (.aload_n 0, 1) := by decide +kernel
theorem d_X6_drawn_24 : decode prog_8_method_72_code 24 = .ok (.iload_n 1, 1) := by decide +kernel
theorem d_X6_drawn_25 : decode prog_8_method_72_code 25 = .ok (.invokevirtual 254, 3) := by decide +kernel
theorem d_X6_drawn_28 : decode prog_8_method_72_code 28 = .ok (.istore_n 3, 1) := by decide +kernel
theorem d_X6_drawn_29 : decode prog_8_method_72_code 29 = .ok (.iload_n 2, 1) := by decide +kernel
theorem d_X6_drawn_30 : decode prog_8_method_72_code 30 = .ok (.ifCond .ne 7, 3) := by decide +kernel
theorem d_X6_drawn_33 : decode prog_8_method_72_code 33 = .ok (.iload_n 3, 1) := by decide +kernel
theorem d_X6_drawn_34 : decode prog_8_method_72_code 34 = .ok (.goto 7, 3) := by decide +kernel
theorem d_X6_drawn_37 : decode prog_8_method_72_code 37 = .ok (.aload_n 0, 1) := by decide +kernel
theorem d_X6_drawn_38 : decode prog_8_method_72_code 38 = .ok (.getfield 250, 3) := by decide +kernel
theorem d_X6_drawn_41 : decode prog_8_method_72_code 41 = .ok (.ireturn, 1) := by decide +kernel
def f_X6_drawn (κ : it_KK) (x1 : Int32) (x2 : Int32) (S : it_SS) : Option (Int32 × it_SS) :=
it_bi (f_X6_in κ x1 0 99999 S) (fun r2 S1 =>
if r2 = 0 then
some ((-1000), S1)
else
it_bi (f_X6_in κ x2 0 1 S1) (fun r5 S4 =>
if r5 = 0 then
some ((-1000), S4)
else
it_bi (f_X6_lotOrders κ x1 S4) (fun r8 S7 =>
if x2 = 0 then
some (r8, S7)
else
some ((S7 45 33), S7))))
set_option maxHeartbeats 4000000 in
set_option maxRecDepth 100000 in
theorem L_X6_drawn {g : it_G} {l : Launch} {κ : it_KK} {x1 : Int32} {x2 : Int32} (hm : it_wm κ) {S : it_SS} {P : Int32 → it_SS → Prop} (h : it_ok (f_X6_drawn κ x1 x2 S) P) : it_Cn g l 7 it_m_X6_drawn [.ref 45, .int x1, .int x2] κ S (it_pi κ P) := by
  refine it_Cn.of (by decide +kernel) (Nat.le_of_ble_eq_true rfl) ?_
  rw [f_X6_drawn] at h
  show it_Ev g l 7 it_m_X6_drawn 0 0 0 [some (.ref 45), some (.int x1), some (.int x2), none] [] κ S (it_pi κ P)
  refine ev_iload_n d_X6_drawn_0 rfl ?_
  refine ev_iconst d_X6_drawn_1 kv_iconst_0 ?_
  refine ev_ldc d_X6_drawn_2 kn_IcedTooSoonModel_253 ?_
  refine ev_callS (M' := it_m_X6_in) (d' := 1) (As := [.int x1, .int 0, .int 99999]) d_X6_drawn_4 ml_IcedTooSoonModel_78 rfl rfl (Nat.le_of_ble_eq_true rfl) (by decide) (by decide) (by decide) (L_X6_in  (it_ok_b h)) (fun _ _ _ _ q => by cases q.1; rfl) ?_
  rintro _ _ S1 ⟨rfl, r2, rfl, h⟩
  show it_Ev g l 7 it_m_X6_drawn 0 0 7 [some (.ref 45), some (.int x1), some (.int x2), none] [.int r2] κ S1 (it_pi κ P)
  refine ev_if_eq (tgt := 19) d_X6_drawn_7 (by decide) (fun hc3 => ?_) (fun hc3 => ?_)
  · have h := it_ok_t h hc3
    refine ev_sipush d_X6_drawn_19 kv_sipush_m1000 ?_
    exact ev_ret (v := some (.int _)) ⟨d_X6_drawn_22, _, rfl, rfl⟩ (by decide) (by decide) ⟨rfl, _, rfl, it_ok_r h⟩
  · have h := it_ok_f h hc3
    refine ev_iload_n d_X6_drawn_10 rfl ?_
    refine ev_iconst d_X6_drawn_11 kv_iconst_0 ?_
    refine ev_iconst d_X6_drawn_12 kv_iconst_1 ?_
    refine ev_callS (M' := it_m_X6_in) (d' := 1) (As := [.int x2, .int 0, .int 1]) d_X6_drawn_13 ml_IcedTooSoonModel_78 rfl rfl (Nat.le_of_ble_eq_true rfl) (by decide) (by decide) (by decide) (L_X6_in  (it_ok_b h)) (fun _ _ _ _ q => by cases q.1; rfl) ?_
    rintro _ _ S4 ⟨rfl, r5, rfl, h⟩
    show it_Ev g l 7 it_m_X6_drawn 0 0 16 [some (.ref 45), some (.int x1), some (.int x2), none] [.int r5] κ S4 (it_pi κ P)
    refine ev_if_ne (tgt := 23) d_X6_drawn_16 (by decide) (fun hc6 => ?_) (fun hc6 => ?_)
    · have h := it_ok_f h hc6
      refine ev_aload_n d_X6_drawn_23 rfl ?_
      refine ev_iload_n d_X6_drawn_24 rfl ?_
      refine ev_callV (ci := 6) (b := 45) (M' := it_m_X6_lotOrders) (d' := 6) (As := [.int x1]) d_X6_drawn_25 ml_IcedTooSoonModel_254 hm.1.1 hm.1.2.1 ⟨_, rfl, rfl⟩ rfl rfl (Nat.le_of_ble_eq_true rfl) (by decide) (by decide) (by decide) (L_X6_lotOrders hm (it_ok_b h)) (fun _ _ _ _ q => by cases q.1; rfl) ?_
      rintro _ _ S7 ⟨rfl, r8, rfl, h⟩
      show it_Ev g l 7 it_m_X6_drawn 0 0 28 [some (.ref 45), some (.int x1), some (.int x2), none] [.int r8] κ S7 (it_pi κ P)
      refine ev_istore_n d_X6_drawn_28 (by decide) ?_
      show it_Ev g l 7 it_m_X6_drawn 0 0 29 [some (.ref 45), some (.int x1), some (.int x2), some (.int r8)] [] κ S7 (it_pi κ P)
      refine ev_iload_n d_X6_drawn_29 rfl ?_
      refine ev_if_ne (tgt := 37) d_X6_drawn_30 (by decide) (fun hc9 => ?_) (fun hc9 => ?_)
      · have h := it_ok_f h hc9
        refine ev_aload_n d_X6_drawn_37 rfl ?_
        refine ev_getI d_X6_drawn_38 fl_IcedTooSoonModel_250 hm.1 rfl ?_
        exact ev_ret (v := some (.int _)) ⟨d_X6_drawn_41, _, rfl, rfl⟩ (by decide) (by decide) ⟨rfl, _, rfl, it_ok_r h⟩
      · have h := it_ok_t h hc9
        refine ev_iload_n d_X6_drawn_33 rfl ?_
        refine ev_goto (tgt := 41) d_X6_drawn_34 (by decide) ?_
        exact ev_ret (v := some (.int _)) ⟨d_X6_drawn_41, _, rfl, rfl⟩ (by decide) (by decide) ⟨rfl, _, rfl, it_ok_r h⟩
    · have h := it_ok_t h hc6
      refine ev_sipush d_X6_drawn_19 kv_sipush_m1000 ?_
      exact ev_ret (v := some (.int _)) ⟨d_X6_drawn_22, _, rfl, rfl⟩ (by decide) (by decide) ⟨rfl, _, rfl, it_ok_r h⟩
theorem d_X6_odds_0 : decode prog_8_method_73_code 0 = .ok (.iload_n 1, 1) := by decide +kernel
theorem d_X6_odds_1 : decode prog_8_method_73_code 1 = .ok (.iconst 0, 1) := by decide +kernel
theorem d_X6_odds_2 : decode prog_8_method_73_code 2 = .ok (.ldc 253, 2) := by decide +kernel
theorem d_X6_odds_4 : decode prog_8_method_73_code 4 = .ok (.invokestatic 78, 3) := by decide +kernel
theorem d_X6_odds_7 : decode prog_8_method_73_code 7 = .ok (.ifCond .eq 36, 3) := by decide +kernel
theorem d_X6_odds_10 : decode prog_8_method_73_code 10 = .ok (.iload_n 2, 1) := by decide +kernel
theorem d_X6_odds_11 : decode prog_8_method_73_code 11 = .ok (.iconst 1, 1) := by decide +kernel
theorem d_X6_odds_12 : decode prog_8_method_73_code 12 = .ok (.bipush 40, 2) := by decide +kernel
theorem d_X6_odds_14 : decode prog_8_method_73_code 14 = .ok (.invokestatic 78, 3) := by decide +kernel
theorem d_X6_odds_17 : decode prog_8_method_73_code 17 = .ok (.ifCond .eq 26, 3) := by decide +kernel
theorem d_X6_odds_20 : decode prog_8_method_73_code 20 = .ok (.iload_n 3, 1) := by decide +kernel
theorem d_X6_odds_21 : decode prog_8_method_73_code 21 = .ok (.sipush (-999), 3) := by decide +kernel
theorem d_X6_odds_24 : decode prog_8_method_73_code 24 = .ok (.sipush 999, 3) := by decide +kernel
theorem d_X6_odds_27 : decode prog_8_method_73_code 27 = .ok (.invokestatic 78, 3) := by decide +kernel
theorem d_X6_odds_30 : decode prog_8_method_73_code 30 = .ok (.ifCond .eq 13, 3) := by decide +kernel
theorem d_X6_odds_33 : decode prog_8_method_73_code 33 = .ok (.iload 4, 2) := by decide +kernel
theorem d_X6_odds_35 : decode prog_8_method_73_code 35 = .ok (.iconst 0, 1) := by decide +kernel
theorem d_X6_odds_36 : decode prog_8_method_73_code 36 = .ok (.iconst 1, 1) := by decide +kernel
theorem d_X6_odds_37 : decode prog_8_method_73_code 37 = .ok (.invokestatic 78, 3) := by decide +kernel
theorem d_X6_odds_40 : decode prog_8_method_73_code 40 = .ok (.ifCond .ne 7, 3) := by decide +kernel
theorem d_X6_odds_43 : decode prog_8_method_73_code 43 = .ok (.ldc2_w 225, 3) := by decide +kernel
theorem d_X6_odds_46 : decode prog_8_method_73_code 46 = .ok (.lreturn, 1) := by decide +kernel
theorem d_X6_odds_47 : decode prog_8_method_73_code 47 = .ok (.lconst 0, 1) := by decide +kernel
theorem d_X6_odds_48 : decode prog_8_method_73_code 48 = .ok (.lstore 5, 2) := by decide +kernel
theorem d_X6_odds_50 : decode prog_8_method_73_code 50 = .ok (.iconst 0, 1) := by decide +kernel
theorem d_X6_odds_51 : decode prog_8_method_73_code 51 = .ok (.istore 7, 2) := by decide +kernel
theorem d_X6_odds_53 : decode prog_8_method_73_code 53 = .ok (.iload 7, 2) := by decide +kernel
theorem d_X6_odds_55 : decode prog_8_method_73_code 55 = .ok (.iload_n 2, 1) := by decide +kernel
theorem d_X6_odds_56 : decode prog_8_method_73_code 56 = .ok (.if_icmp .ge 31, 3) := by decide +kernel
theorem d_X6_odds_59 : decode prog_8_method_73_code 59 = .ok (.lload 5, 2) := by decide +kernel
theorem d_X6_odds_61 : decode prog_8_method_73_code 61 = .ok (.aload_n 0, 1) := by decide +kernel
theorem d_X6_odds_62 : decode prog_8_method_73_code 62 = .ok (.iload_n 1, 1) := by decide +kernel
theorem d_X6_odds_63 : decode prog_8_method_73_code 63 = .ok (.iload 7, 2) := by decide +kernel
theorem d_X6_odds_65 : decode prog_8_method_73_code 65 = .ok (.iadd, 1) := by decide +kernel
theorem d_X6_odds_66 : decode prog_8_method_73_code 66 = .ok (.invokevirtual 254, 3) := by decide +kernel
theorem d_X6_odds_69 : decode prog_8_method_73_code 69 = .ok (.iload_n 3, 1) := by decide +kernel
theorem d_X6_odds_70 : decode prog_8_method_73_code 70 = .ok (.if_icmp .lt 7, 3) := by decide +kernel
theorem d_X6_odds_73 : decode prog_8_method_73_code 73 = .ok (.lconst 1, 1) := by decide +kernel
theorem d_X6_odds_74 : decode prog_8_method_73_code 74 = .ok (.goto 4, 3) := by decide +kernel
theorem d_X6_odds_77 : decode prog_8_method_73_code 77 = .ok (.lconst 0, 1) := by decide +kernel
theorem d_X6_odds_78 : decode prog_8_method_73_code 78 = .ok (.ladd, 1) := by decide +kernel
theorem d_X6_odds_79 : decode prog_8_method_73_code 79 = .ok (.lstore 5, 2) := by decide +kernel
theorem d_X6_odds_81 : decode prog_8_method_73_code 81 = .ok (.iinc 7 1, 3) := by decide +kernel
theorem d_X6_odds_84 : decode prog_8_method_73_code 84 = .ok (.goto (-31), 3) := by decide +kernel
theorem d_X6_odds_87 : decode prog_8_method_73_code 87 = .ok (.lload 5, 2) := by decide +kernel
theorem d_X6_odds_89 : decode prog_8_method_73_code 89 = .ok (.iload_n 2, 1) := by decide +kernel
theorem d_X6_odds_90 : decode prog_8_method_73_code 90 = .ok (.i2l, 1) := by decide +kernel
theorem d_X6_odds_91 : decode prog_8_method_73_code 91 = .ok (.iload 4, 2) := by decide +kernel
theorem d_X6_odds_93 : decode prog_8_method_73_code 93 = .ok (.invokestatic 227, 3) := by decide +kernel
theorem d_X6_odds_96 : decode prog_8_method_73_code 96 = .ok (.lreturn, 1) := by decide +kernel
def lp_X6_odds_53 (κ : it_KK) (x1 : Int32) (x2 : Int32) (x3 : Int32) (x4 : Int32) (k53 : (Int64 → it_SS → Option (Int64 × it_SS))) : Nat → Int64 → Int32 → it_SS → Option (Int64 × it_SS)
  | 0, _, _, _ => none
  | n53 + 1, v5, v7, S => if x2 ≤ v7 then
k53 v5 S
else
it_bi (f_X6_lotOrders κ (x1 + v7) S) (fun r15 S14 =>
if r15 < x3 then
lp_X6_odds_53 κ x1 x2 x3 x4 k53 n53 (v5 + 0) (v7 + 1) S14
else
lp_X6_odds_53 κ x1 x2 x3 x4 k53 n53 (v5 + 1) (v7 + 1) S14)
def f_X6_odds (κ : it_KK) (x1 : Int32) (x2 : Int32) (x3 : Int32) (x4 : Int32) (S : it_SS) : Option (Int64 × it_SS) :=
it_bi (f_X6_in κ x1 0 99999 S) (fun r2 S1 =>
if r2 = 0 then
some ((-4611686018427387904), S1)
else
it_bi (f_X6_in κ x2 1 40 S1) (fun r5 S4 =>
if r5 = 0 then
some ((-4611686018427387904), S4)
else
it_bi (f_X6_in κ x3 (-999) 999 S4) (fun r8 S7 =>
if r8 = 0 then
some ((-4611686018427387904), S7)
else
it_bi (f_X6_in κ x4 0 1 S7) (fun r11 S10 =>
if r11 = 0 then
some ((-4611686018427387904), S10)
else
lp_X6_odds_53 κ x1 x2 x3 x4 (fun v17 S18 =>
it_bi (f_X6_lowest κ v17 ((x2 : Int32).toInt64) x4 S18) (fun r20 S19 =>
some (r20, S19))) it_FU 0 0 S10))))
set_option maxHeartbeats 4000000 in
set_option maxRecDepth 100000 in
theorem Llp_X6_odds_53 {g : it_G} {l : Launch} {κ : it_KK} {x1 : Int32} {x2 : Int32} {x3 : Int32} {x4 : Int32} (hm : it_wm κ) {P : Int64 → it_SS → Prop} {k53 : (Int64 → it_SS → Option (Int64 × it_SS))} (hk53 : ∀ (v5 : Int64) (S : it_SS), it_ok (k53 v5 S) P → it_Ev g l 7 it_m_X6_odds 0 0 87 [none, none, some (.int x2), none, some (.int x4), some (.long v5), none, none] [] κ S (it_pl κ P)) : ∀ (n : Nat) (v5 : Int64) (v7 : Int32) (S : it_SS), it_ok (lp_X6_odds_53 κ x1 x2 x3 x4 k53 n v5 v7 S) P → it_Ev g l 7 it_m_X6_odds 0 0 53 [some (.ref 45), some (.int x1), some (.int x2), some (.int x3), some (.int x4), some (.long v5), none, some (.int v7)] [] κ S (it_pl κ P) := by
  intro n
  induction n with
  | zero =>
    intro _ _ _ h
    exact (it_ok_n h).elim
  | succ n53 ih53 =>
    intro v5 v7 S h
    rw [lp_X6_odds_53] at h
    refine ev_iload d_X6_odds_53 rfl ?_
    refine ev_iload_n d_X6_odds_55 rfl ?_
    refine ev_icmp_ge (tgt := 87) d_X6_odds_56 (by decide) (fun hc13 => ?_) (fun hc13 => ?_)
    · have h := it_ok_t h hc13
      refine ev_keep [false, false, true, false, true, true, false, false] ?_
      exact hk53 _ _ h
    · have h := it_ok_f h hc13
      refine ev_lload d_X6_odds_59 rfl ?_
      refine ev_aload_n d_X6_odds_61 rfl ?_
      refine ev_iload_n d_X6_odds_62 rfl ?_
      refine ev_iload d_X6_odds_63 rfl ?_
      refine ev_iadd d_X6_odds_65 ?_
      refine ev_callV (ci := 6) (b := 45) (M' := it_m_X6_lotOrders) (d' := 6) (As := [.int (x1 + v7)]) d_X6_odds_66 ml_IcedTooSoonModel_254 hm.1.1 hm.1.2.1 ⟨_, rfl, rfl⟩ rfl rfl (Nat.le_of_ble_eq_true rfl) (by decide) (by decide) (by decide) (L_X6_lotOrders hm (it_ok_b h)) (fun _ _ _ _ q => by cases q.1; rfl) ?_
      rintro _ _ S14 ⟨rfl, r15, rfl, h⟩
      show it_Ev g l 7 it_m_X6_odds 0 0 69 [some (.ref 45), some (.int x1), some (.int x2), some (.int x3), some (.int x4), some (.long v5), none, some (.int v7)] [.int r15, .long v5] κ S14 (it_pl κ P)
      refine ev_iload_n d_X6_odds_69 rfl ?_
      refine ev_icmp_lt (tgt := 77) d_X6_odds_70 (by decide) (fun hc16 => ?_) (fun hc16 => ?_)
      · have h := it_ok_t h hc16
        refine ev_lconst d_X6_odds_77 kv_lconst_0 ?_
        refine ev_ladd d_X6_odds_78 ?_
        refine ev_lstore d_X6_odds_79 (by decide) ?_
        show it_Ev g l 7 it_m_X6_odds 0 0 81 [some (.ref 45), some (.int x1), some (.int x2), some (.int x3), some (.int x4), some (.long (v5 + 0)), none, some (.int v7)] [] κ S14 (it_pl κ P)
        refine ev_iinc d_X6_odds_81 kv_iconst_1 rfl (by decide) ?_
        show it_Ev g l 7 it_m_X6_odds 0 0 84 [some (.ref 45), some (.int x1), some (.int x2), some (.int x3), some (.int x4), some (.long (v5 + 0)), none, some (.int (v7 + 1))] [] κ S14 (it_pl κ P)
        refine ev_goto (tgt := 53) d_X6_odds_84 (by decide) ?_
        refine ev_keep [true, true, true, true, true, true, false, true] ?_
        exact ih53 _ _ _ h
      · have h := it_ok_f h hc16
        refine ev_lconst d_X6_odds_73 kv_lconst_1 ?_
        refine ev_goto (tgt := 78) d_X6_odds_74 (by decide) ?_
        refine ev_ladd d_X6_odds_78 ?_
        refine ev_lstore d_X6_odds_79 (by decide) ?_
        show it_Ev g l 7 it_m_X6_odds 0 0 81 [some (.ref 45), some (.int x1), some (.int x2), some (.int x3), some (.int x4), some (.long (v5 + 1)), none, some (.int v7)] [] κ S14 (it_pl κ P)
        refine ev_iinc d_X6_odds_81 kv_iconst_1 rfl (by decide) ?_
        show it_Ev g l 7 it_m_X6_odds 0 0 84 [some (.ref 45), some (.int x1), some (.int x2), some (.int x3), some (.int x4), some (.long (v5 + 1)), none, some (.int (v7 + 1))] [] κ S14 (it_pl κ P)
        refine ev_goto (tgt := 53) d_X6_odds_84 (by decide) ?_
        refine ev_keep [true, true, true, true, true, true, false, true] ?_
        exact ih53 _ _ _ h
set_option maxHeartbeats 4000000 in
set_option maxRecDepth 100000 in
theorem L_X6_odds {g : it_G} {l : Launch} {κ : it_KK} {x1 : Int32} {x2 : Int32} {x3 : Int32} {x4 : Int32} (hm : it_wm κ) {S : it_SS} {P : Int64 → it_SS → Prop} (h : it_ok (f_X6_odds κ x1 x2 x3 x4 S) P) : it_Cn g l 7 it_m_X6_odds [.ref 45, .int x1, .int x2, .int x3, .int x4] κ S (it_pl κ P) := by
  refine it_Cn.of (by decide +kernel) (Nat.le_of_ble_eq_true rfl) ?_
  rw [f_X6_odds] at h
  show it_Ev g l 7 it_m_X6_odds 0 0 0 [some (.ref 45), some (.int x1), some (.int x2), some (.int x3), some (.int x4), none, none, none] [] κ S (it_pl κ P)
  refine ev_iload_n d_X6_odds_0 rfl ?_
  refine ev_iconst d_X6_odds_1 kv_iconst_0 ?_
  refine ev_ldc d_X6_odds_2 kn_IcedTooSoonModel_253 ?_
  refine ev_callS (M' := it_m_X6_in) (d' := 1) (As := [.int x1, .int 0, .int 99999]) d_X6_odds_4 ml_IcedTooSoonModel_78 rfl rfl (Nat.le_of_ble_eq_true rfl) (by decide) (by decide) (by decide) (L_X6_in  (it_ok_b h)) (fun _ _ _ _ q => by cases q.1; rfl) ?_
  rintro _ _ S1 ⟨rfl, r2, rfl, h⟩
  show it_Ev g l 7 it_m_X6_odds 0 0 7 [some (.ref 45), some (.int x1), some (.int x2), some (.int x3), some (.int x4), none, none, none] [.int r2] κ S1 (it_pl κ P)
  refine ev_if_eq (tgt := 43) d_X6_odds_7 (by decide) (fun hc3 => ?_) (fun hc3 => ?_)
  · have h := it_ok_t h hc3
    refine ev_ldc2 d_X6_odds_43 kn_IcedTooSoonModel_225 ?_
    exact ev_ret (v := some (.long _)) ⟨d_X6_odds_46, rfl⟩ (by decide) (by decide) ⟨rfl, _, rfl, it_ok_r h⟩
  · have h := it_ok_f h hc3
    refine ev_iload_n d_X6_odds_10 rfl ?_
    refine ev_iconst d_X6_odds_11 kv_iconst_1 ?_
    refine ev_bipush d_X6_odds_12 kv_bipush_40 ?_
    refine ev_callS (M' := it_m_X6_in) (d' := 1) (As := [.int x2, .int 1, .int 40]) d_X6_odds_14 ml_IcedTooSoonModel_78 rfl rfl (Nat.le_of_ble_eq_true rfl) (by decide) (by decide) (by decide) (L_X6_in  (it_ok_b h)) (fun _ _ _ _ q => by cases q.1; rfl) ?_
    rintro _ _ S4 ⟨rfl, r5, rfl, h⟩
    show it_Ev g l 7 it_m_X6_odds 0 0 17 [some (.ref 45), some (.int x1), some (.int x2), some (.int x3), some (.int x4), none, none, none] [.int r5] κ S4 (it_pl κ P)
    refine ev_if_eq (tgt := 43) d_X6_odds_17 (by decide) (fun hc6 => ?_) (fun hc6 => ?_)
    · have h := it_ok_t h hc6
      refine ev_ldc2 d_X6_odds_43 kn_IcedTooSoonModel_225 ?_
      exact ev_ret (v := some (.long _)) ⟨d_X6_odds_46, rfl⟩ (by decide) (by decide) ⟨rfl, _, rfl, it_ok_r h⟩
    · have h := it_ok_f h hc6
      refine ev_iload_n d_X6_odds_20 rfl ?_
      refine ev_sipush d_X6_odds_21 kv_sipush_m999 ?_
      refine ev_sipush d_X6_odds_24 kv_sipush_999 ?_
      refine ev_callS (M' := it_m_X6_in) (d' := 1) (As := [.int x3, .int (-999), .int 999]) d_X6_odds_27 ml_IcedTooSoonModel_78 rfl rfl (Nat.le_of_ble_eq_true rfl) (by decide) (by decide) (by decide) (L_X6_in  (it_ok_b h)) (fun _ _ _ _ q => by cases q.1; rfl) ?_
      rintro _ _ S7 ⟨rfl, r8, rfl, h⟩
      show it_Ev g l 7 it_m_X6_odds 0 0 30 [some (.ref 45), some (.int x1), some (.int x2), some (.int x3), some (.int x4), none, none, none] [.int r8] κ S7 (it_pl κ P)
      refine ev_if_eq (tgt := 43) d_X6_odds_30 (by decide) (fun hc9 => ?_) (fun hc9 => ?_)
      · have h := it_ok_t h hc9
        refine ev_ldc2 d_X6_odds_43 kn_IcedTooSoonModel_225 ?_
        exact ev_ret (v := some (.long _)) ⟨d_X6_odds_46, rfl⟩ (by decide) (by decide) ⟨rfl, _, rfl, it_ok_r h⟩
      · have h := it_ok_f h hc9
        refine ev_iload d_X6_odds_33 rfl ?_
        refine ev_iconst d_X6_odds_35 kv_iconst_0 ?_
        refine ev_iconst d_X6_odds_36 kv_iconst_1 ?_
        refine ev_callS (M' := it_m_X6_in) (d' := 1) (As := [.int x4, .int 0, .int 1]) d_X6_odds_37 ml_IcedTooSoonModel_78 rfl rfl (Nat.le_of_ble_eq_true rfl) (by decide) (by decide) (by decide) (L_X6_in  (it_ok_b h)) (fun _ _ _ _ q => by cases q.1; rfl) ?_
        rintro _ _ S10 ⟨rfl, r11, rfl, h⟩
        show it_Ev g l 7 it_m_X6_odds 0 0 40 [some (.ref 45), some (.int x1), some (.int x2), some (.int x3), some (.int x4), none, none, none] [.int r11] κ S10 (it_pl κ P)
        refine ev_if_ne (tgt := 47) d_X6_odds_40 (by decide) (fun hc12 => ?_) (fun hc12 => ?_)
        · have h := it_ok_f h hc12
          refine ev_lconst d_X6_odds_47 kv_lconst_0 ?_
          refine ev_lstore d_X6_odds_48 (by decide) ?_
          show it_Ev g l 7 it_m_X6_odds 0 0 50 [some (.ref 45), some (.int x1), some (.int x2), some (.int x3), some (.int x4), some (.long 0), none, none] [] κ S10 (it_pl κ P)
          refine ev_iconst d_X6_odds_50 kv_iconst_0 ?_
          refine ev_istore d_X6_odds_51 (by decide) ?_
          show it_Ev g l 7 it_m_X6_odds 0 0 53 [some (.ref 45), some (.int x1), some (.int x2), some (.int x3), some (.int x4), some (.long 0), none, some (.int 0)] [] κ S10 (it_pl κ P)
          refine ev_keep [true, true, true, true, true, true, false, true] ?_
          refine Llp_X6_odds_53 hm (fun v17 S18 h => ?_) _ _ _ _ h
          show it_Ev g l 7 it_m_X6_odds 0 0 87 [none, none, some (.int x2), none, some (.int x4), some (.long v17), none, none] [] κ S18 (it_pl κ P)
          refine ev_lload d_X6_odds_87 rfl ?_
          refine ev_iload_n d_X6_odds_89 rfl ?_
          refine ev_i2l d_X6_odds_90 ?_
          refine ev_iload d_X6_odds_91 rfl ?_
          refine ev_callS (M' := it_m_X6_lowest) (d' := 1) (As := [.long v17, .long ((x2 : Int32).toInt64), .int x4]) d_X6_odds_93 ml_IcedTooSoonModel_227 rfl rfl (Nat.le_of_ble_eq_true rfl) (by decide) (by decide) (by decide) (L_X6_lowest  (it_ok_b h)) (fun _ _ _ _ q => by cases q.1; rfl) ?_
          rintro _ _ S19 ⟨rfl, r20, rfl, h⟩
          show it_Ev g l 7 it_m_X6_odds 0 0 96 [none, none, some (.int x2), none, some (.int x4), some (.long v17), none, none] [.long r20] κ S19 (it_pl κ P)
          exact ev_ret (v := some (.long _)) ⟨d_X6_odds_96, rfl⟩ (by decide) (by decide) ⟨rfl, _, rfl, it_ok_r h⟩
        · have h := it_ok_t h hc12
          refine ev_ldc2 d_X6_odds_43 kn_IcedTooSoonModel_225 ?_
          exact ev_ret (v := some (.long _)) ⟨d_X6_odds_46, rfl⟩ (by decide) (by decide) ⟨rfl, _, rfl, it_ok_r h⟩
theorem d_X6_image_0 : decode prog_8_method_74_code 0 = .ok (.aload_n 0, 1) := by decide +kernel
theorem d_X6_image_1 : decode prog_8_method_74_code 1 = .ok (.iconst 1, 1) := by decide +kernel
theorem d_X6_image_2 : decode prog_8_method_74_code 2 = .ok (.putfield 257, 3) := by decide +kernel
theorem d_X6_image_5 : decode prog_8_method_74_code 5 = .ok (.iconst 0, 1) := by decide +kernel
theorem d_X6_image_6 : decode prog_8_method_74_code 6 = .ok (.istore_n 1, 1) := by decide +kernel
theorem d_X6_image_7 : decode prog_8_method_74_code 7 = .ok (.iload_n 1, 1) := by decide +kernel
theorem d_X6_image_8 : decode prog_8_method_74_code 8 = .ok (.bipush 12, 2) := by decide +kernel
theorem d_X6_image_10 : decode prog_8_method_74_code 10 = .ok (.if_icmp .ge 21, 3) := by decide +kernel
theorem d_X6_image_13 : decode prog_8_method_74_code 13 = .ok (.aload_n 0, 1) := by decide +kernel
theorem d_X6_image_14 : decode prog_8_method_74_code 14 = .ok (.getfield 31, 3) := by decide +kernel
theorem d_X6_image_17 : decode prog_8_method_74_code 17 = .ok (.iload_n 1, 1) := by decide +kernel
theorem d_X6_image_18 : decode prog_8_method_74_code 18 = .ok (.aload_n 0, 1) := by decide +kernel
theorem d_X6_image_19 : decode prog_8_method_74_code 19 = .ok (.getfield 16, 3) := by decide +kernel
theorem d_X6_image_22 : decode prog_8_method_74_code 22 = .ok (.iload_n 1, 1) := by decide +kernel
theorem d_X6_image_23 : decode prog_8_method_74_code 23 = .ok (.iaload, 1) := by decide +kernel
theorem d_X6_image_24 : decode prog_8_method_74_code 24 = .ok (.iastore, 1) := by decide +kernel
theorem d_X6_image_25 : decode prog_8_method_74_code 25 = .ok (.iinc 1 1, 3) := by decide +kernel
theorem d_X6_image_28 : decode prog_8_method_74_code 28 = .ok (.goto (-21), 3) := by decide +kernel
theorem d_X6_image_31 : decode prog_8_method_74_code 31 = .ok (.iconst 0, 1) := by decide +kernel
theorem d_X6_image_32 : decode prog_8_method_74_code 32 = .ok (.istore_n 1, 1) := by decide +kernel
theorem d_X6_image_33 : decode prog_8_method_74_code 33 = .ok (.iload_n 1, 1) := by decide +kernel
theorem d_X6_image_34 : decode prog_8_method_74_code 34 = .ok (.bipush 30, 2) := by decide +kernel
theorem d_X6_image_36 : decode prog_8_method_74_code 36 = .ok (.if_icmp .ge 24, 3) := by decide +kernel
theorem d_X6_image_39 : decode prog_8_method_74_code 39 = .ok (.aload_n 0, 1) := by decide +kernel
theorem d_X6_image_40 : decode prog_8_method_74_code 40 = .ok (.getfield 31, 3) := by decide +kernel
theorem d_X6_image_43 : decode prog_8_method_74_code 43 = .ok (.bipush 12, 2) := by decide +kernel
theorem d_X6_image_45 : decode prog_8_method_74_code 45 = .ok (.iload_n 1, 1) := by decide +kernel
theorem d_X6_image_46 : decode prog_8_method_74_code 46 = .ok (.iadd, 1) := by decide +kernel
theorem d_X6_image_47 : decode prog_8_method_74_code 47 = .ok (.aload_n 0, 1) := by decide +kernel
theorem d_X6_image_48 : decode prog_8_method_74_code 48 = .ok (.getfield 19, 3) := by decide +kernel
theorem d_X6_image_51 : decode prog_8_method_74_code 51 = .ok (.iload_n 1, 1) := by decide +kernel
theorem d_X6_image_52 : decode prog_8_method_74_code 52 = .ok (.iaload, 1) := by decide +kernel
theorem d_X6_image_53 : decode prog_8_method_74_code 53 = .ok (.iastore, 1) := by decide +kernel
theorem d_X6_image_54 : decode prog_8_method_74_code 54 = .ok (.iinc 1 1, 3) := by decide +kernel
theorem d_X6_image_57 : decode prog_8_method_74_code 57 = .ok (.goto (-24), 3) := by decide +kernel
theorem d_X6_image_60 : decode prog_8_method_74_code 60 = .ok (.aload_n 0, 1) := by decide +kernel
theorem d_X6_image_61 : decode prog_8_method_74_code 61 = .ok (.getfield 34, 3) := by decide +kernel
theorem d_X6_image_64 : decode prog_8_method_74_code 64 = .ok (.iconst 0, 1) := by decide +kernel
theorem d_X6_image_65 : decode prog_8_method_74_code 65 = .ok (.aload_n 0, 1) := by decide +kernel
theorem d_X6_image_66 : decode prog_8_method_74_code 66 = .ok (.getfield 75, 3) := by decide +kernel
theorem d_X6_image_69 : decode prog_8_method_74_code 69 = .ok (.iastore, 1) := by decide +kernel
theorem d_X6_image_70 : decode prog_8_method_74_code 70 = .ok (.aload_n 0, 1) := by decide +kernel
theorem d_X6_image_71 : decode prog_8_method_74_code 71 = .ok (.getfield 34, 3) := by decide +kernel
theorem d_X6_image_74 : decode prog_8_method_74_code 74 = .ok (.iconst 1, 1) := by decide +kernel
theorem d_X6_image_75 : decode prog_8_method_74_code 75 = .ok (.aload_n 0, 1) := by decide +kernel
theorem d_X6_image_76 : decode prog_8_method_74_code 76 = .ok (.getfield 93, 3) := by decide +kernel
theorem d_X6_image_79 : decode prog_8_method_74_code 79 = .ok (.iastore, 1) := by decide +kernel
theorem d_X6_image_80 : decode prog_8_method_74_code 80 = .ok (.aload_n 0, 1) := by decide +kernel
theorem d_X6_image_81 : decode prog_8_method_74_code 81 = .ok (.getfield 34, 3) := by decide +kernel
theorem d_X6_image_84 : decode prog_8_method_74_code 84 = .ok (.iconst 2, 1) := by decide +kernel
theorem d_X6_image_85 : decode prog_8_method_74_code 85 = .ok (.aload_n 0, 1) := by decide +kernel
theorem d_X6_image_86 : decode prog_8_method_74_code 86 = .ok (.getfield 99, 3) := by decide +kernel
theorem d_X6_image_89 : decode prog_8_method_74_code 89 = .ok (.iastore, 1) := by decide +kernel
theorem d_X6_image_90 : decode prog_8_method_74_code 90 = .ok (.aload_n 0, 1) := by decide +kernel
theorem d_X6_image_91 : decode prog_8_method_74_code 91 = .ok (.getfield 75, 3) := by decide +kernel
theorem d_X6_image_94 : decode prog_8_method_74_code 94 = .ok (.ireturn, 1) := by decide +kernel
def lp_X6_image_7 (κ : it_KK)  (k7 : (it_SS → Option (Int32 × it_SS))) : Nat → Int32 → it_SS → Option (Int32 × it_SS)
  | 0, _, _ => none
  | n7 + 1, v1, S => if 12 ≤ v1 then
k7  S
else
if it_bd v1 12 = true then
if it_bd v1 42 = true then
lp_X6_image_7 κ  k7 n7 (v1 + 1) (it_up S 53 (v1 : Int32).toNatClampNeg (S 48 (v1 : Int32).toNatClampNeg))
else none
else none
def lp_X6_image_33 (κ : it_KK)  (k33 : (it_SS → Option (Int32 × it_SS))) : Nat → Int32 → it_SS → Option (Int32 × it_SS)
  | 0, _, _ => none
  | n33 + 1, v1, S => if 30 ≤ v1 then
k33  S
else
if it_bd v1 30 = true then
if it_bd (12 + v1) 42 = true then
lp_X6_image_33 κ  k33 n33 (v1 + 1) (it_up S 53 ((12 + v1) : Int32).toNatClampNeg (S 49 (v1 : Int32).toNatClampNeg))
else none
else none
def f_X6_image (κ : it_KK)  (S : it_SS) : Option (Int32 × it_SS) :=
lp_X6_image_7 κ  (fun  S4 =>
lp_X6_image_33 κ  (fun  S8 =>
some (((it_up (it_up (it_up S8 54 (0 : Int32).toNatClampNeg (S8 45 0)) 54 (1 : Int32).toNatClampNeg ((it_up S8 54 (0 : Int32).toNatClampNeg (S8 45 0)) 45 5)) 54 (2 : Int32).toNatClampNeg ((it_up (it_up S8 54 (0 : Int32).toNatClampNeg (S8 45 0)) 54 (1 : Int32).toNatClampNeg ((it_up S8 54 (0 : Int32).toNatClampNeg (S8 45 0)) 45 5)) 45 11)) 45 0), it_up (it_up (it_up S8 54 (0 : Int32).toNatClampNeg (S8 45 0)) 54 (1 : Int32).toNatClampNeg ((it_up S8 54 (0 : Int32).toNatClampNeg (S8 45 0)) 45 5)) 54 (2 : Int32).toNatClampNeg ((it_up (it_up S8 54 (0 : Int32).toNatClampNeg (S8 45 0)) 54 (1 : Int32).toNatClampNeg ((it_up S8 54 (0 : Int32).toNatClampNeg (S8 45 0)) 45 5)) 45 11))) it_FU 0 S4) it_FU 0 (it_up S 45 12 1)
set_option maxHeartbeats 4000000 in
set_option maxRecDepth 100000 in
theorem Llp_X6_image_7 {g : it_G} {l : Launch} {κ : it_KK} (hm : it_wm κ) {P : Int32 → it_SS → Prop} {k7 : (it_SS → Option (Int32 × it_SS))} (hk7 : ∀  (S : it_SS), it_ok (k7  S) P → it_Ev g l 1 it_m_X6_image 0 0 31 [some (.ref 45), none] [] κ S (it_pi κ P)) : ∀ (n : Nat) (v1 : Int32) (S : it_SS), it_ok (lp_X6_image_7 κ  k7 n v1 S) P → it_Ev g l 1 it_m_X6_image 0 0 7 [some (.ref 45), some (.int v1)] [] κ S (it_pi κ P) := by
  intro n
  induction n with
  | zero =>
    intro _ _ h
    exact (it_ok_n h).elim
  | succ n7 ih7 =>
    intro v1 S h
    rw [lp_X6_image_7] at h
    refine ev_iload_n d_X6_image_7 rfl ?_
    refine ev_bipush d_X6_image_8 kv_bipush_12 ?_
    refine ev_icmp_ge (tgt := 31) d_X6_image_10 (by decide) (fun hc1 => ?_) (fun hc1 => ?_)
    · have h := it_ok_t h hc1
      refine ev_keep [true, false] ?_
      exact hk7  _ h
    · have h := it_ok_f h hc1
      refine ev_aload_n d_X6_image_13 rfl ?_
      refine ev_getRr (r := 53) rfl d_X6_image_14 fl_IcedTooSoonModel_31 hm.1 rfl ?_
      refine ev_iload_n d_X6_image_17 rfl ?_
      refine ev_aload_n d_X6_image_18 rfl ?_
      refine ev_getRr (r := 48) rfl d_X6_image_19 fl_IcedTooSoonModel_16 hm.1 rfl ?_
      refine ev_iload_n d_X6_image_22 rfl ?_
      obtain ⟨hb2, h⟩ := it_ok_g h
      refine ev_iald d_X6_image_23 (hm).2.2.2.1 (it_bd_in hb2) ?_
      obtain ⟨hb3, h⟩ := it_ok_g h
      refine ev_iast d_X6_image_24 (by decide) (hm).2.2.2.2.2.2.2.2.1 (it_bd_in hb3) ?_
      refine ev_iinc d_X6_image_25 kv_iconst_1 rfl (by decide) ?_
      show it_Ev g l 1 it_m_X6_image 0 0 28 [some (.ref 45), some (.int (v1 + 1))] [] κ (it_up S 53 (v1 : Int32).toNatClampNeg (S 48 (v1 : Int32).toNatClampNeg)) (it_pi κ P)
      refine ev_goto (tgt := 7) d_X6_image_28 (by decide) ?_
      refine ev_keep [true, true] ?_
      exact ih7 _ _ h
set_option maxHeartbeats 4000000 in
set_option maxRecDepth 100000 in
theorem Llp_X6_image_33 {g : it_G} {l : Launch} {κ : it_KK} (hm : it_wm κ) {P : Int32 → it_SS → Prop} {k33 : (it_SS → Option (Int32 × it_SS))} (hk33 : ∀  (S : it_SS), it_ok (k33  S) P → it_Ev g l 1 it_m_X6_image 0 0 60 [some (.ref 45), none] [] κ S (it_pi κ P)) : ∀ (n : Nat) (v1 : Int32) (S : it_SS), it_ok (lp_X6_image_33 κ  k33 n v1 S) P → it_Ev g l 1 it_m_X6_image 0 0 33 [some (.ref 45), some (.int v1)] [] κ S (it_pi κ P) := by
  intro n
  induction n with
  | zero =>
    intro _ _ h
    exact (it_ok_n h).elim
  | succ n33 ih33 =>
    intro v1 S h
    rw [lp_X6_image_33] at h
    refine ev_iload_n d_X6_image_33 rfl ?_
    refine ev_bipush d_X6_image_34 kv_bipush_30 ?_
    refine ev_icmp_ge (tgt := 60) d_X6_image_36 (by decide) (fun hc5 => ?_) (fun hc5 => ?_)
    · have h := it_ok_t h hc5
      refine ev_keep [true, false] ?_
      exact hk33  _ h
    · have h := it_ok_f h hc5
      refine ev_aload_n d_X6_image_39 rfl ?_
      refine ev_getRr (r := 53) rfl d_X6_image_40 fl_IcedTooSoonModel_31 hm.1 rfl ?_
      refine ev_bipush d_X6_image_43 kv_bipush_12 ?_
      refine ev_iload_n d_X6_image_45 rfl ?_
      refine ev_iadd d_X6_image_46 ?_
      refine ev_aload_n d_X6_image_47 rfl ?_
      refine ev_getRr (r := 49) rfl d_X6_image_48 fl_IcedTooSoonModel_19 hm.1 rfl ?_
      refine ev_iload_n d_X6_image_51 rfl ?_
      obtain ⟨hb6, h⟩ := it_ok_g h
      refine ev_iald d_X6_image_52 (hm).2.2.2.2.1 (it_bd_in hb6) ?_
      obtain ⟨hb7, h⟩ := it_ok_g h
      refine ev_iast d_X6_image_53 (by decide) (hm).2.2.2.2.2.2.2.2.1 (it_bd_in hb7) ?_
      refine ev_iinc d_X6_image_54 kv_iconst_1 rfl (by decide) ?_
      show it_Ev g l 1 it_m_X6_image 0 0 57 [some (.ref 45), some (.int (v1 + 1))] [] κ (it_up S 53 ((12 + v1) : Int32).toNatClampNeg (S 49 (v1 : Int32).toNatClampNeg)) (it_pi κ P)
      refine ev_goto (tgt := 33) d_X6_image_57 (by decide) ?_
      refine ev_keep [true, true] ?_
      exact ih33 _ _ h
set_option maxHeartbeats 4000000 in
set_option maxRecDepth 100000 in
theorem L_X6_image {g : it_G} {l : Launch} {κ : it_KK} (hm : it_wm κ) {S : it_SS} {P : Int32 → it_SS → Prop} (h : it_ok (f_X6_image κ  S) P) : it_Cn g l 1 it_m_X6_image [.ref 45] κ S (it_pi κ P) := by
  refine it_Cn.of (by decide +kernel) (Nat.le_of_ble_eq_true rfl) ?_
  rw [f_X6_image] at h
  show it_Ev g l 1 it_m_X6_image 0 0 0 [some (.ref 45), none] [] κ S (it_pi κ P)
  refine ev_aload_n d_X6_image_0 rfl ?_
  refine ev_iconst d_X6_image_1 kv_iconst_1 ?_
  refine ev_put d_X6_image_2 (by decide) fl_IcedTooSoonModel_257 fw_6_12 hm.1.1 hm.1.2.1 rfl rfl rfl ?_
  refine ev_iconst d_X6_image_5 kv_iconst_0 ?_
  refine ev_istore_n d_X6_image_6 (by decide) ?_
  show it_Ev g l 1 it_m_X6_image 0 0 7 [some (.ref 45), some (.int 0)] [] κ (it_up S 45 12 1) (it_pi κ P)
  refine ev_keep [true, true] ?_
  refine Llp_X6_image_7 hm (fun  S4 h => ?_) _ _ _ h
  show it_Ev g l 1 it_m_X6_image 0 0 31 [some (.ref 45), none] [] κ S4 (it_pi κ P)
  refine ev_iconst d_X6_image_31 kv_iconst_0 ?_
  refine ev_istore_n d_X6_image_32 (by decide) ?_
  show it_Ev g l 1 it_m_X6_image 0 0 33 [some (.ref 45), some (.int 0)] [] κ S4 (it_pi κ P)
  refine ev_keep [true, true] ?_
  refine Llp_X6_image_33 hm (fun  S8 h => ?_) _ _ _ h
  show it_Ev g l 1 it_m_X6_image 0 0 60 [some (.ref 45), none] [] κ S8 (it_pi κ P)
  refine ev_aload_n d_X6_image_60 rfl ?_
  refine ev_getRr (r := 54) rfl d_X6_image_61 fl_IcedTooSoonModel_34 hm.1 rfl ?_
  refine ev_iconst d_X6_image_64 kv_iconst_0 ?_
  refine ev_aload_n d_X6_image_65 rfl ?_
  refine ev_getI d_X6_image_66 fl_IcedTooSoonModel_75 hm.1 rfl ?_
  refine ev_iast d_X6_image_69 (by decide) (hm).2.2.2.2.2.2.2.2.2.1 (it_bd_in (by decide)) ?_
  refine ev_aload_n d_X6_image_70 rfl ?_
  refine ev_getRr (r := 54) rfl d_X6_image_71 fl_IcedTooSoonModel_34 hm.1 rfl ?_
  refine ev_iconst d_X6_image_74 kv_iconst_1 ?_
  refine ev_aload_n d_X6_image_75 rfl ?_
  refine ev_getI d_X6_image_76 fl_IcedTooSoonModel_93 hm.1 rfl ?_
  refine ev_iast d_X6_image_79 (by decide) (hm).2.2.2.2.2.2.2.2.2.1 (it_bd_in (by decide)) ?_
  refine ev_aload_n d_X6_image_80 rfl ?_
  refine ev_getRr (r := 54) rfl d_X6_image_81 fl_IcedTooSoonModel_34 hm.1 rfl ?_
  refine ev_iconst d_X6_image_84 kv_iconst_2 ?_
  refine ev_aload_n d_X6_image_85 rfl ?_
  refine ev_getI d_X6_image_86 fl_IcedTooSoonModel_99 hm.1 rfl ?_
  refine ev_iast d_X6_image_89 (by decide) (hm).2.2.2.2.2.2.2.2.2.1 (it_bd_in (by decide)) ?_
  refine ev_aload_n d_X6_image_90 rfl ?_
  refine ev_getI d_X6_image_91 fl_IcedTooSoonModel_75 hm.1 rfl ?_
  exact ev_ret (v := some (.int _)) ⟨d_X6_image_94, _, rfl, rfl⟩ (by decide) (by decide) ⟨rfl, _, rfl, it_ok_r h⟩
theorem d_X6_back_0 : decode prog_8_method_75_code 0 = .ok (.aload_n 0, 1) := by decide +kernel
theorem d_X6_back_1 : decode prog_8_method_75_code 1 = .ok (.getfield 257, 3) := by decide +kernel
theorem d_X6_back_4 : decode prog_8_method_75_code 4 = .ok (.ifCond .ne 6, 3) := by decide +kernel
theorem d_X6_back_7 : decode prog_8_method_75_code 7 = .ok (.bipush (-3), 2) := by decide +kernel
theorem d_X6_back_9 : decode prog_8_method_75_code 9 = .ok (.ireturn, 1) := by decide +kernel
theorem d_X6_back_10 : decode prog_8_method_75_code 10 = .ok (.iconst 0, 1) := by decide +kernel
theorem d_X6_back_11 : decode prog_8_method_75_code 11 = .ok (.istore_n 1, 1) := by decide +kernel
theorem d_X6_back_12 : decode prog_8_method_75_code 12 = .ok (.iload_n 1, 1) := by decide +kernel
theorem d_X6_back_13 : decode prog_8_method_75_code 13 = .ok (.bipush 12, 2) := by decide +kernel
theorem d_X6_back_15 : decode prog_8_method_75_code 15 = .ok (.if_icmp .ge 21, 3) := by decide +kernel
theorem d_X6_back_18 : decode prog_8_method_75_code 18 = .ok (.aload_n 0, 1) := by decide +kernel
theorem d_X6_back_19 : decode prog_8_method_75_code 19 = .ok (.getfield 16, 3) := by decide +kernel
theorem d_X6_back_22 : decode prog_8_method_75_code 22 = .ok (.iload_n 1, 1) := by decide +kernel
theorem d_X6_back_23 : decode prog_8_method_75_code 23 = .ok (.aload_n 0, 1) := by decide +kernel
theorem d_X6_back_24 : decode prog_8_method_75_code 24 = .ok (.getfield 31, 3) := by decide +kernel
theorem d_X6_back_27 : decode prog_8_method_75_code 27 = .ok (.iload_n 1, 1) := by decide +kernel
theorem d_X6_back_28 : decode prog_8_method_75_code 28 = .ok (.iaload, 1) := by decide +kernel
theorem d_X6_back_29 : decode prog_8_method_75_code 29 = .ok (.iastore, 1) := by decide +kernel
theorem d_X6_back_30 : decode prog_8_method_75_code 30 = .ok (.iinc 1 1, 3) := by decide +kernel
theorem d_X6_back_33 : decode prog_8_method_75_code 33 = .ok (.goto (-21), 3) := by decide +kernel
theorem d_X6_back_36 : decode prog_8_method_75_code 36 = .ok (.iconst 0, 1) := by decide +kernel
theorem d_X6_back_37 : decode prog_8_method_75_code 37 = .ok (.istore_n 1, 1) := by decide +kernel
theorem d_X6_back_38 : decode prog_8_method_75_code 38 = .ok (.iload_n 1, 1) := by decide +kernel
theorem d_X6_back_39 : decode prog_8_method_75_code 39 = .ok (.bipush 30, 2) := by decide +kernel
theorem d_X6_back_41 : decode prog_8_method_75_code 41 = .ok (.if_icmp .ge 24, 3) := by decide +kernel
theorem d_X6_back_44 : decode prog_8_method_75_code 44 = .ok (.aload_n 0, 1) := by decide +kernel
theorem d_X6_back_45 : decode prog_8_method_75_code 45 = .ok (.getfield 19, 3) := by decide +kernel
theorem d_X6_back_48 : decode prog_8_method_75_code 48 = .ok (.iload_n 1, 1) := by decide +kernel
theorem d_X6_back_49 : decode prog_8_method_75_code 49 = .ok (.aload_n 0, 1) := by decide +kernel
theorem d_X6_back_50 : decode prog_8_method_75_code 50 = .ok (.getfield 31, 3) := by decide +kernel
theorem d_X6_back_53 : decode prog_8_method_75_code 53 = .ok (.bipush 12, 2) := by decide +kernel
theorem d_X6_back_55 : decode prog_8_method_75_code 55 = .ok (.iload_n 1, 1) := by decide +kernel
theorem d_X6_back_56 : decode prog_8_method_75_code 56 = .ok (.iadd, 1) := by decide +kernel
theorem d_X6_back_57 : decode prog_8_method_75_code 57 = .ok (.iaload, 1) := by decide +kernel
theorem d_X6_back_58 : decode prog_8_method_75_code 58 = .ok (.iastore, 1) := by decide +kernel
theorem d_X6_back_59 : decode prog_8_method_75_code 59 = .ok (.iinc 1 1, 3) := by decide +kernel
theorem d_X6_back_62 : decode prog_8_method_75_code 62 = .ok (.goto (-24), 3) := by decide +kernel
theorem d_X6_back_65 : decode prog_8_method_75_code 65 = .ok (.aload_n 0, 1) := by decide +kernel
theorem d_X6_back_66 : decode prog_8_method_75_code 66 = .ok (.aload_n 0, 1) := by decide +kernel
theorem d_X6_back_67 : decode prog_8_method_75_code 67 = .ok (.getfield 34, 3) := by decide +kernel
theorem d_X6_back_70 : decode prog_8_method_75_code 70 = .ok (.iconst 0, 1) := by decide +kernel
theorem d_X6_back_71 : decode prog_8_method_75_code 71 = .ok (.iaload, 1) := by decide +kernel
theorem d_X6_back_72 : decode prog_8_method_75_code 72 = .ok (.putfield 75, 3) := by decide +kernel
theorem d_X6_back_75 : decode prog_8_method_75_code 75 = .ok (.aload_n 0, 1) := by decide +kernel
theorem d_X6_back_76 : decode prog_8_method_75_code 76 = .ok (.aload_n 0, 1) := by decide +kernel
theorem d_X6_back_77 : decode prog_8_method_75_code 77 = .ok (.getfield 34, 3) := by decide +kernel
theorem d_X6_back_80 : decode prog_8_method_75_code 80 = .ok (.iconst 1, 1) := by decide +kernel
theorem d_X6_back_81 : decode prog_8_method_75_code 81 = .ok (.iaload, 1) := by decide +kernel
theorem d_X6_back_82 : decode prog_8_method_75_code 82 = .ok (.putfield 93, 3) := by decide +kernel
theorem d_X6_back_85 : decode prog_8_method_75_code 85 = .ok (.aload_n 0, 1) := by decide +kernel
theorem d_X6_back_86 : decode prog_8_method_75_code 86 = .ok (.aload_n 0, 1) := by decide +kernel
theorem d_X6_back_87 : decode prog_8_method_75_code 87 = .ok (.getfield 34, 3) := by decide +kernel
theorem d_X6_back_90 : decode prog_8_method_75_code 90 = .ok (.iconst 2, 1) := by decide +kernel
theorem d_X6_back_91 : decode prog_8_method_75_code 91 = .ok (.iaload, 1) := by decide +kernel
theorem d_X6_back_92 : decode prog_8_method_75_code 92 = .ok (.putfield 99, 3) := by decide +kernel
theorem d_X6_back_95 : decode prog_8_method_75_code 95 = .ok (.aload_n 0, 1) := by decide +kernel
theorem d_X6_back_96 : decode prog_8_method_75_code 96 = .ok (.getfield 75, 3) := by decide +kernel
theorem d_X6_back_99 : decode prog_8_method_75_code 99 = .ok (.ireturn, 1) := by decide +kernel
def lp_X6_back_12 (κ : it_KK)  (k12 : (it_SS → Option (Int32 × it_SS))) : Nat → Int32 → it_SS → Option (Int32 × it_SS)
  | 0, _, _ => none
  | n12 + 1, v1, S => if 12 ≤ v1 then
k12  S
else
if it_bd v1 42 = true then
if it_bd v1 12 = true then
lp_X6_back_12 κ  k12 n12 (v1 + 1) (it_up S 48 (v1 : Int32).toNatClampNeg (S 53 (v1 : Int32).toNatClampNeg))
else none
else none
def lp_X6_back_38 (κ : it_KK)  (k38 : (it_SS → Option (Int32 × it_SS))) : Nat → Int32 → it_SS → Option (Int32 × it_SS)
  | 0, _, _ => none
  | n38 + 1, v1, S => if 30 ≤ v1 then
k38  S
else
if it_bd (12 + v1) 42 = true then
if it_bd v1 30 = true then
lp_X6_back_38 κ  k38 n38 (v1 + 1) (it_up S 49 (v1 : Int32).toNatClampNeg (S 53 ((12 + v1) : Int32).toNatClampNeg))
else none
else none
def f_X6_back (κ : it_KK)  (S : it_SS) : Option (Int32 × it_SS) :=
if (S 45 12) = 0 then
some ((-3), S)
else
lp_X6_back_12 κ  (fun  S5 =>
lp_X6_back_38 κ  (fun  S9 =>
some (((it_up (it_up (it_up S9 45 0 (S9 54 (0 : Int32).toNatClampNeg)) 45 5 ((it_up S9 45 0 (S9 54 (0 : Int32).toNatClampNeg)) 54 (1 : Int32).toNatClampNeg)) 45 11 ((it_up (it_up S9 45 0 (S9 54 (0 : Int32).toNatClampNeg)) 45 5 ((it_up S9 45 0 (S9 54 (0 : Int32).toNatClampNeg)) 54 (1 : Int32).toNatClampNeg)) 54 (2 : Int32).toNatClampNeg)) 45 0), it_up (it_up (it_up S9 45 0 (S9 54 (0 : Int32).toNatClampNeg)) 45 5 ((it_up S9 45 0 (S9 54 (0 : Int32).toNatClampNeg)) 54 (1 : Int32).toNatClampNeg)) 45 11 ((it_up (it_up S9 45 0 (S9 54 (0 : Int32).toNatClampNeg)) 45 5 ((it_up S9 45 0 (S9 54 (0 : Int32).toNatClampNeg)) 54 (1 : Int32).toNatClampNeg)) 54 (2 : Int32).toNatClampNeg))) it_FU 0 S5) it_FU 0 S
set_option maxHeartbeats 4000000 in
set_option maxRecDepth 100000 in
theorem Llp_X6_back_12 {g : it_G} {l : Launch} {κ : it_KK} (hm : it_wm κ) {P : Int32 → it_SS → Prop} {k12 : (it_SS → Option (Int32 × it_SS))} (hk12 : ∀  (S : it_SS), it_ok (k12  S) P → it_Ev g l 1 it_m_X6_back 0 0 36 [some (.ref 45), none] [] κ S (it_pi κ P)) : ∀ (n : Nat) (v1 : Int32) (S : it_SS), it_ok (lp_X6_back_12 κ  k12 n v1 S) P → it_Ev g l 1 it_m_X6_back 0 0 12 [some (.ref 45), some (.int v1)] [] κ S (it_pi κ P) := by
  intro n
  induction n with
  | zero =>
    intro _ _ h
    exact (it_ok_n h).elim
  | succ n12 ih12 =>
    intro v1 S h
    rw [lp_X6_back_12] at h
    refine ev_iload_n d_X6_back_12 rfl ?_
    refine ev_bipush d_X6_back_13 kv_bipush_12 ?_
    refine ev_icmp_ge (tgt := 36) d_X6_back_15 (by decide) (fun hc2 => ?_) (fun hc2 => ?_)
    · have h := it_ok_t h hc2
      refine ev_keep [true, false] ?_
      exact hk12  _ h
    · have h := it_ok_f h hc2
      refine ev_aload_n d_X6_back_18 rfl ?_
      refine ev_getRr (r := 48) rfl d_X6_back_19 fl_IcedTooSoonModel_16 hm.1 rfl ?_
      refine ev_iload_n d_X6_back_22 rfl ?_
      refine ev_aload_n d_X6_back_23 rfl ?_
      refine ev_getRr (r := 53) rfl d_X6_back_24 fl_IcedTooSoonModel_31 hm.1 rfl ?_
      refine ev_iload_n d_X6_back_27 rfl ?_
      obtain ⟨hb3, h⟩ := it_ok_g h
      refine ev_iald d_X6_back_28 (hm).2.2.2.2.2.2.2.2.1 (it_bd_in hb3) ?_
      obtain ⟨hb4, h⟩ := it_ok_g h
      refine ev_iast d_X6_back_29 (by decide) (hm).2.2.2.1 (it_bd_in hb4) ?_
      refine ev_iinc d_X6_back_30 kv_iconst_1 rfl (by decide) ?_
      show it_Ev g l 1 it_m_X6_back 0 0 33 [some (.ref 45), some (.int (v1 + 1))] [] κ (it_up S 48 (v1 : Int32).toNatClampNeg (S 53 (v1 : Int32).toNatClampNeg)) (it_pi κ P)
      refine ev_goto (tgt := 12) d_X6_back_33 (by decide) ?_
      refine ev_keep [true, true] ?_
      exact ih12 _ _ h
set_option maxHeartbeats 4000000 in
set_option maxRecDepth 100000 in
theorem Llp_X6_back_38 {g : it_G} {l : Launch} {κ : it_KK} (hm : it_wm κ) {P : Int32 → it_SS → Prop} {k38 : (it_SS → Option (Int32 × it_SS))} (hk38 : ∀  (S : it_SS), it_ok (k38  S) P → it_Ev g l 1 it_m_X6_back 0 0 65 [some (.ref 45), none] [] κ S (it_pi κ P)) : ∀ (n : Nat) (v1 : Int32) (S : it_SS), it_ok (lp_X6_back_38 κ  k38 n v1 S) P → it_Ev g l 1 it_m_X6_back 0 0 38 [some (.ref 45), some (.int v1)] [] κ S (it_pi κ P) := by
  intro n
  induction n with
  | zero =>
    intro _ _ h
    exact (it_ok_n h).elim
  | succ n38 ih38 =>
    intro v1 S h
    rw [lp_X6_back_38] at h
    refine ev_iload_n d_X6_back_38 rfl ?_
    refine ev_bipush d_X6_back_39 kv_bipush_30 ?_
    refine ev_icmp_ge (tgt := 65) d_X6_back_41 (by decide) (fun hc6 => ?_) (fun hc6 => ?_)
    · have h := it_ok_t h hc6
      refine ev_keep [true, false] ?_
      exact hk38  _ h
    · have h := it_ok_f h hc6
      refine ev_aload_n d_X6_back_44 rfl ?_
      refine ev_getRr (r := 49) rfl d_X6_back_45 fl_IcedTooSoonModel_19 hm.1 rfl ?_
      refine ev_iload_n d_X6_back_48 rfl ?_
      refine ev_aload_n d_X6_back_49 rfl ?_
      refine ev_getRr (r := 53) rfl d_X6_back_50 fl_IcedTooSoonModel_31 hm.1 rfl ?_
      refine ev_bipush d_X6_back_53 kv_bipush_12 ?_
      refine ev_iload_n d_X6_back_55 rfl ?_
      refine ev_iadd d_X6_back_56 ?_
      obtain ⟨hb7, h⟩ := it_ok_g h
      refine ev_iald d_X6_back_57 (hm).2.2.2.2.2.2.2.2.1 (it_bd_in hb7) ?_
      obtain ⟨hb8, h⟩ := it_ok_g h
      refine ev_iast d_X6_back_58 (by decide) (hm).2.2.2.2.1 (it_bd_in hb8) ?_
      refine ev_iinc d_X6_back_59 kv_iconst_1 rfl (by decide) ?_
      show it_Ev g l 1 it_m_X6_back 0 0 62 [some (.ref 45), some (.int (v1 + 1))] [] κ (it_up S 49 (v1 : Int32).toNatClampNeg (S 53 ((12 + v1) : Int32).toNatClampNeg)) (it_pi κ P)
      refine ev_goto (tgt := 38) d_X6_back_62 (by decide) ?_
      refine ev_keep [true, true] ?_
      exact ih38 _ _ h
set_option maxHeartbeats 4000000 in
set_option maxRecDepth 100000 in
theorem L_X6_back {g : it_G} {l : Launch} {κ : it_KK} (hm : it_wm κ) {S : it_SS} {P : Int32 → it_SS → Prop} (h : it_ok (f_X6_back κ  S) P) : it_Cn g l 1 it_m_X6_back [.ref 45] κ S (it_pi κ P) := by
  refine it_Cn.of (by decide +kernel) (Nat.le_of_ble_eq_true rfl) ?_
  rw [f_X6_back] at h
  show it_Ev g l 1 it_m_X6_back 0 0 0 [some (.ref 45), none] [] κ S (it_pi κ P)
  refine ev_aload_n d_X6_back_0 rfl ?_
  refine ev_getI d_X6_back_1 fl_IcedTooSoonModel_257 hm.1 rfl ?_
  refine ev_if_ne (tgt := 10) d_X6_back_4 (by decide) (fun hc1 => ?_) (fun hc1 => ?_)
  · have h := it_ok_f h hc1
    refine ev_iconst d_X6_back_10 kv_iconst_0 ?_
    refine ev_istore_n d_X6_back_11 (by decide) ?_
    show it_Ev g l 1 it_m_X6_back 0 0 12 [some (.ref 45), some (.int 0)] [] κ S (it_pi κ P)
    refine ev_keep [true, true] ?_
    refine Llp_X6_back_12 hm (fun  S5 h => ?_) _ _ _ h
    show it_Ev g l 1 it_m_X6_back 0 0 36 [some (.ref 45), none] [] κ S5 (it_pi κ P)
    refine ev_iconst d_X6_back_36 kv_iconst_0 ?_
    refine ev_istore_n d_X6_back_37 (by decide) ?_
    show it_Ev g l 1 it_m_X6_back 0 0 38 [some (.ref 45), some (.int 0)] [] κ S5 (it_pi κ P)
    refine ev_keep [true, true] ?_
    refine Llp_X6_back_38 hm (fun  S9 h => ?_) _ _ _ h
    show it_Ev g l 1 it_m_X6_back 0 0 65 [some (.ref 45), none] [] κ S9 (it_pi κ P)
    refine ev_aload_n d_X6_back_65 rfl ?_
    refine ev_aload_n d_X6_back_66 rfl ?_
    refine ev_getRr (r := 54) rfl d_X6_back_67 fl_IcedTooSoonModel_34 hm.1 rfl ?_
    refine ev_iconst d_X6_back_70 kv_iconst_0 ?_
    refine ev_iald d_X6_back_71 (hm).2.2.2.2.2.2.2.2.2.1 (it_bd_in (by decide)) ?_
    refine ev_putI d_X6_back_72 (by decide) fl_IcedTooSoonModel_75 fw_6_0 hm.1 rfl ?_
    refine ev_aload_n d_X6_back_75 rfl ?_
    refine ev_aload_n d_X6_back_76 rfl ?_
    refine ev_getRr (r := 54) rfl d_X6_back_77 fl_IcedTooSoonModel_34 hm.1 rfl ?_
    refine ev_iconst d_X6_back_80 kv_iconst_1 ?_
    refine ev_iald d_X6_back_81 (hm).2.2.2.2.2.2.2.2.2.1 (it_bd_in (by decide)) ?_
    refine ev_putI d_X6_back_82 (by decide) fl_IcedTooSoonModel_93 fw_6_5 hm.1 rfl ?_
    refine ev_aload_n d_X6_back_85 rfl ?_
    refine ev_aload_n d_X6_back_86 rfl ?_
    refine ev_getRr (r := 54) rfl d_X6_back_87 fl_IcedTooSoonModel_34 hm.1 rfl ?_
    refine ev_iconst d_X6_back_90 kv_iconst_2 ?_
    refine ev_iald d_X6_back_91 (hm).2.2.2.2.2.2.2.2.2.1 (it_bd_in (by decide)) ?_
    refine ev_putI d_X6_back_92 (by decide) fl_IcedTooSoonModel_99 fw_6_11 hm.1 rfl ?_
    refine ev_aload_n d_X6_back_95 rfl ?_
    refine ev_getI d_X6_back_96 fl_IcedTooSoonModel_75 hm.1 rfl ?_
    exact ev_ret (v := some (.int _)) ⟨d_X6_back_99, _, rfl, rfl⟩ (by decide) (by decide) ⟨rfl, _, rfl, it_ok_r h⟩
  · have h := it_ok_t h hc1
    refine ev_bipush d_X6_back_7 kv_bipush_m3 ?_
    exact ev_ret (v := some (.int _)) ⟨d_X6_back_9, _, rfl, rfl⟩ (by decide) (by decide) ⟨rfl, _, rfl, it_ok_r h⟩
theorem d_X6_sheet_0 : decode prog_8_method_76_code 0 = .ok (.iload_n 1, 1) := by decide +kernel
theorem d_X6_sheet_1 : decode prog_8_method_76_code 1 = .ok (.iconst 0, 1) := by decide +kernel
theorem d_X6_sheet_2 : decode prog_8_method_76_code 2 = .ok (.iconst 3, 1) := by decide +kernel
theorem d_X6_sheet_3 : decode prog_8_method_76_code 3 = .ok (.invokestatic 78, 3) := by decide +kernel
theorem d_X6_sheet_6 : decode prog_8_method_76_code 6 = .ok (.ifCond .eq 23, 3) := by decide +kernel
theorem d_X6_sheet_9 : decode prog_8_method_76_code 9 = .ok (.iload_n 2, 1) := by decide +kernel
theorem d_X6_sheet_10 : decode prog_8_method_76_code 10 = .ok (.iconst (-1), 1) := by decide +kernel
theorem d_X6_sheet_11 : decode prog_8_method_76_code 11 = .ok (.iconst 2, 1) := by decide +kernel
theorem d_X6_sheet_12 : decode prog_8_method_76_code 12 = .ok (.invokestatic 78, 3) := by decide +kernel
theorem d_X6_sheet_15 : decode prog_8_method_76_code 15 = .ok (.ifCond .eq 14, 3) := by decide +kernel
theorem d_X6_sheet_18 : decode prog_8_method_76_code 18 = .ok (.iload_n 2, 1) := by decide +kernel
theorem d_X6_sheet_19 : decode prog_8_method_76_code 19 = .ok (.iconst (-1), 1) := by decide +kernel
theorem d_X6_sheet_20 : decode prog_8_method_76_code 20 = .ok (.if_icmp .eq 12, 3) := by decide +kernel
theorem d_X6_sheet_23 : decode prog_8_method_76_code 23 = .ok (.iload_n 3, 1) := by decide +kernel
theorem d_X6_sheet_24 : decode prog_8_method_76_code 24 = .ok (.bipush 40, 2) := by decide +kernel
theorem d_X6_sheet_26 : decode prog_8_method_76_code 26 = .ok (.if_icmp .le 6, 3) := by decide +kernel
theorem d_X6_sheet_29 : decode prog_8_method_76_code 29 = .ok (.bipush (-2), 2) := by decide +kernel
theorem d_X6_sheet_31 : decode prog_8_method_76_code 31 = .ok (.ireturn, 1) := by decide +kernel
theorem d_X6_sheet_32 : decode prog_8_method_76_code 32 = .ok (.iload_n 2, 1) := by decide +kernel
theorem d_X6_sheet_33 : decode prog_8_method_76_code 33 = .ok (.iconst (-1), 1) := by decide +kernel
theorem d_X6_sheet_34 : decode prog_8_method_76_code 34 = .ok (.if_icmp .eq 10, 3) := by decide +kernel
theorem d_X6_sheet_37 : decode prog_8_method_76_code 37 = .ok (.iload_n 3, 1) := by decide +kernel
theorem d_X6_sheet_38 : decode prog_8_method_76_code 38 = .ok (.ifCond .ge 6, 3) := by decide +kernel
theorem d_X6_sheet_41 : decode prog_8_method_76_code 41 = .ok (.bipush (-14), 2) := by decide +kernel
theorem d_X6_sheet_43 : decode prog_8_method_76_code 43 = .ok (.ireturn, 1) := by decide +kernel
theorem d_X6_sheet_44 : decode prog_8_method_76_code 44 = .ok (.aload_n 0, 1) := by decide +kernel
theorem d_X6_sheet_45 : decode prog_8_method_76_code 45 = .ok (.getfield 37, 3) := by decide +kernel
theorem d_X6_sheet_48 : decode prog_8_method_76_code 48 = .ok (.iload_n 1, 1) := by decide +kernel
theorem d_X6_sheet_49 : decode prog_8_method_76_code 49 = .ok (.iload_n 2, 1) := by decide +kernel
theorem d_X6_sheet_50 : decode prog_8_method_76_code 50 = .ok (.iastore, 1) := by decide +kernel
theorem d_X6_sheet_51 : decode prog_8_method_76_code 51 = .ok (.aload_n 0, 1) := by decide +kernel
theorem d_X6_sheet_52 : decode prog_8_method_76_code 52 = .ok (.getfield 40, 3) := by decide +kernel
theorem d_X6_sheet_55 : decode prog_8_method_76_code 55 = .ok (.iload_n 1, 1) := by decide +kernel
theorem d_X6_sheet_56 : decode prog_8_method_76_code 56 = .ok (.iload_n 2, 1) := by decide +kernel
theorem d_X6_sheet_57 : decode prog_8_method_76_code 57 = .ok (.iconst (-1), 1) := by decide +kernel
theorem d_X6_sheet_58 : decode prog_8_method_76_code 58 = .ok (.if_icmp .ne 7, 3) := by decide +kernel
theorem d_X6_sheet_61 : decode prog_8_method_76_code 61 = .ok (.iconst 0, 1) := by decide +kernel
theorem d_X6_sheet_62 : decode prog_8_method_76_code 62 = .ok (.goto 4, 3) := by decide +kernel
theorem d_X6_sheet_65 : decode prog_8_method_76_code 65 = .ok (.iload_n 3, 1) := by decide +kernel
theorem d_X6_sheet_66 : decode prog_8_method_76_code 66 = .ok (.iastore, 1) := by decide +kernel
theorem d_X6_sheet_67 : decode prog_8_method_76_code 67 = .ok (.iconst 0, 1) := by decide +kernel
theorem d_X6_sheet_68 : decode prog_8_method_76_code 68 = .ok (.istore 4, 2) := by decide +kernel
theorem d_X6_sheet_70 : decode prog_8_method_76_code 70 = .ok (.iload 4, 2) := by decide +kernel
theorem d_X6_sheet_72 : decode prog_8_method_76_code 72 = .ok (.bipush 40, 2) := by decide +kernel
theorem d_X6_sheet_74 : decode prog_8_method_76_code 74 = .ok (.if_icmp .ge 22, 3) := by decide +kernel
theorem d_X6_sheet_77 : decode prog_8_method_76_code 77 = .ok (.aload_n 0, 1) := by decide +kernel
theorem d_X6_sheet_78 : decode prog_8_method_76_code 78 = .ok (.getfield 43, 3) := by decide +kernel
theorem d_X6_sheet_81 : decode prog_8_method_76_code 81 = .ok (.bipush 40, 2) := by decide +kernel
theorem d_X6_sheet_83 : decode prog_8_method_76_code 83 = .ok (.iload_n 1, 1) := by decide +kernel
theorem d_X6_sheet_84 : decode prog_8_method_76_code 84 = .ok (.imul, 1) := by decide +kernel
theorem d_X6_sheet_85 : decode prog_8_method_76_code 85 = .ok (.iload 4, 2) := by decide +kernel
theorem d_X6_sheet_87 : decode prog_8_method_76_code 87 = .ok (.iadd, 1) := by decide +kernel
theorem d_X6_sheet_88 : decode prog_8_method_76_code 88 = .ok (.iconst 0, 1) := by decide +kernel
theorem d_X6_sheet_89 : decode prog_8_method_76_code 89 = .ok (.iastore, 1) := by decide +kernel
theorem d_X6_sheet_90 : decode prog_8_method_76_code 90 = .ok (.iinc 4 1, 3) := by decide +kernel
theorem d_X6_sheet_93 : decode prog_8_method_76_code 93 = .ok (.goto (-23), 3) := by decide +kernel
theorem d_X6_sheet_96 : decode prog_8_method_76_code 96 = .ok (.iconst 1, 1) := by decide +kernel
theorem d_X6_sheet_97 : decode prog_8_method_76_code 97 = .ok (.ireturn, 1) := by decide +kernel
def lp_X6_sheet_70 (κ : it_KK) (x1 : Int32) (x2 : Int32) (x3 : Int32) (k70 : (it_SS → Option (Int32 × it_SS))) : Nat → Int32 → it_SS → Option (Int32 × it_SS)
  | 0, _, _ => none
  | n70 + 1, v4, S => if 40 ≤ v4 then
k70  S
else
if it_bd ((40 * x1) + v4) 160 = true then
lp_X6_sheet_70 κ x1 x2 x3 k70 n70 (v4 + 1) (it_up S 57 (((40 * x1) + v4) : Int32).toNatClampNeg 0)
else none
def f_X6_sheet (κ : it_KK) (x1 : Int32) (x2 : Int32) (x3 : Int32) (S : it_SS) : Option (Int32 × it_SS) :=
it_bi (f_X6_in κ x1 0 3 S) (fun r2 S1 =>
if r2 = 0 then
some ((-2), S1)
else
it_bi (f_X6_in κ x2 (-1) 2 S1) (fun r5 S4 =>
if r5 = 0 then
some ((-2), S4)
else
if x2 = (-1) then
if x2 = (-1) then
if it_bd x1 4 = true then
if x2 = (-1) then
lp_X6_sheet_70 κ x1 x2 x3 (fun  S14 =>
some (1, S14)) it_FU 0 (it_up (it_up S4 55 (x1 : Int32).toNatClampNeg x2) 56 (x1 : Int32).toNatClampNeg 0)
else
lp_X6_sheet_70 κ x1 x2 x3 (fun  S13 =>
some (1, S13)) it_FU 0 (it_up (it_up S4 55 (x1 : Int32).toNatClampNeg x2) 56 (x1 : Int32).toNatClampNeg x3)
else none
else
if 0 ≤ x3 then
if it_bd x1 4 = true then
if x2 = (-1) then
lp_X6_sheet_70 κ x1 x2 x3 (fun  S19 =>
some (1, S19)) it_FU 0 (it_up (it_up S4 55 (x1 : Int32).toNatClampNeg x2) 56 (x1 : Int32).toNatClampNeg 0)
else
lp_X6_sheet_70 κ x1 x2 x3 (fun  S18 =>
some (1, S18)) it_FU 0 (it_up (it_up S4 55 (x1 : Int32).toNatClampNeg x2) 56 (x1 : Int32).toNatClampNeg x3)
else none
else
some ((-14), S4)
else
if x3 ≤ 40 then
if x2 = (-1) then
if it_bd x1 4 = true then
if x2 = (-1) then
lp_X6_sheet_70 κ x1 x2 x3 (fun  S25 =>
some (1, S25)) it_FU 0 (it_up (it_up S4 55 (x1 : Int32).toNatClampNeg x2) 56 (x1 : Int32).toNatClampNeg 0)
else
lp_X6_sheet_70 κ x1 x2 x3 (fun  S24 =>
some (1, S24)) it_FU 0 (it_up (it_up S4 55 (x1 : Int32).toNatClampNeg x2) 56 (x1 : Int32).toNatClampNeg x3)
else none
else
if 0 ≤ x3 then
if it_bd x1 4 = true then
if x2 = (-1) then
lp_X6_sheet_70 κ x1 x2 x3 (fun  S30 =>
some (1, S30)) it_FU 0 (it_up (it_up S4 55 (x1 : Int32).toNatClampNeg x2) 56 (x1 : Int32).toNatClampNeg 0)
else
lp_X6_sheet_70 κ x1 x2 x3 (fun  S29 =>
some (1, S29)) it_FU 0 (it_up (it_up S4 55 (x1 : Int32).toNatClampNeg x2) 56 (x1 : Int32).toNatClampNeg x3)
else none
else
some ((-14), S4)
else
some ((-2), S4)))
set_option maxHeartbeats 4000000 in
set_option maxRecDepth 100000 in
theorem Llp_X6_sheet_70 {g : it_G} {l : Launch} {κ : it_KK} {x1 : Int32} {x2 : Int32} {x3 : Int32} (hm : it_wm κ) (hb9 : it_bd x1 4 = true) {P : Int32 → it_SS → Prop} {k70 : (it_SS → Option (Int32 × it_SS))} (hk70 : ∀  (S : it_SS), it_ok (k70  S) P → it_Ev g l 2 it_m_X6_sheet 0 0 96 [none, none, none, none, none] [] κ S (it_pi κ P)) : ∀ (n : Nat) (v4 : Int32) (S : it_SS), it_ok (lp_X6_sheet_70 κ x1 x2 x3 k70 n v4 S) P → it_Ev g l 2 it_m_X6_sheet 0 0 70 [some (.ref 45), some (.int x1), none, none, some (.int v4)] [] κ S (it_pi κ P) := by
  intro n
  induction n with
  | zero =>
    intro _ _ h
    exact (it_ok_n h).elim
  | succ n70 ih70 =>
    intro v4 S h
    rw [lp_X6_sheet_70] at h
    refine ev_iload d_X6_sheet_70 rfl ?_
    refine ev_bipush d_X6_sheet_72 kv_bipush_40 ?_
    refine ev_icmp_ge (tgt := 96) d_X6_sheet_74 (by decide) (fun hc11 => ?_) (fun hc11 => ?_)
    · have h := it_ok_t h hc11
      refine ev_keep [false, false, false, false, false] ?_
      exact hk70  _ h
    · have h := it_ok_f h hc11
      refine ev_aload_n d_X6_sheet_77 rfl ?_
      refine ev_getRr (r := 57) rfl d_X6_sheet_78 fl_IcedTooSoonModel_43 hm.1 rfl ?_
      refine ev_bipush d_X6_sheet_81 kv_bipush_40 ?_
      refine ev_iload_n d_X6_sheet_83 rfl ?_
      refine ev_imul d_X6_sheet_84 ?_
      refine ev_iload d_X6_sheet_85 rfl ?_
      refine ev_iadd d_X6_sheet_87 ?_
      refine ev_iconst d_X6_sheet_88 kv_iconst_0 ?_
      obtain ⟨hb12, h⟩ := it_ok_g h
      refine ev_iast d_X6_sheet_89 (by decide) (hm).2.2.2.2.2.2.2.2.2.2.2.2.1 (it_bd_in hb12) ?_
      refine ev_iinc d_X6_sheet_90 kv_iconst_1 rfl (by decide) ?_
      show it_Ev g l 2 it_m_X6_sheet 0 0 93 [some (.ref 45), some (.int x1), none, none, some (.int (v4 + 1))] [] κ (it_up S 57 (((40 * x1) + v4) : Int32).toNatClampNeg 0) (it_pi κ P)
      refine ev_goto (tgt := 70) d_X6_sheet_93 (by decide) ?_
      refine ev_keep [true, true, false, false, true] ?_
      exact ih70 _ _ h
set_option maxHeartbeats 4000000 in
set_option maxRecDepth 100000 in
theorem L_X6_sheet {g : it_G} {l : Launch} {κ : it_KK} {x1 : Int32} {x2 : Int32} {x3 : Int32} (hm : it_wm κ) {S : it_SS} {P : Int32 → it_SS → Prop} (h : it_ok (f_X6_sheet κ x1 x2 x3 S) P) : it_Cn g l 2 it_m_X6_sheet [.ref 45, .int x1, .int x2, .int x3] κ S (it_pi κ P) := by
  refine it_Cn.of (by decide +kernel) (Nat.le_of_ble_eq_true rfl) ?_
  rw [f_X6_sheet] at h
  show it_Ev g l 2 it_m_X6_sheet 0 0 0 [some (.ref 45), some (.int x1), some (.int x2), some (.int x3), none] [] κ S (it_pi κ P)
  refine ev_iload_n d_X6_sheet_0 rfl ?_
  refine ev_iconst d_X6_sheet_1 kv_iconst_0 ?_
  refine ev_iconst d_X6_sheet_2 kv_iconst_3 ?_
  refine ev_callS (M' := it_m_X6_in) (d' := 1) (As := [.int x1, .int 0, .int 3]) d_X6_sheet_3 ml_IcedTooSoonModel_78 rfl rfl (Nat.le_of_ble_eq_true rfl) (by decide) (by decide) (by decide) (L_X6_in  (it_ok_b h)) (fun _ _ _ _ q => by cases q.1; rfl) ?_
  rintro _ _ S1 ⟨rfl, r2, rfl, h⟩
  show it_Ev g l 2 it_m_X6_sheet 0 0 6 [some (.ref 45), some (.int x1), some (.int x2), some (.int x3), none] [.int r2] κ S1 (it_pi κ P)
  refine ev_if_eq (tgt := 29) d_X6_sheet_6 (by decide) (fun hc3 => ?_) (fun hc3 => ?_)
  · have h := it_ok_t h hc3
    refine ev_bipush d_X6_sheet_29 kv_bipush_m2 ?_
    exact ev_ret (v := some (.int _)) ⟨d_X6_sheet_31, _, rfl, rfl⟩ (by decide) (by decide) ⟨rfl, _, rfl, it_ok_r h⟩
  · have h := it_ok_f h hc3
    refine ev_iload_n d_X6_sheet_9 rfl ?_
    refine ev_iconst d_X6_sheet_10 kv_iconst_m1 ?_
    refine ev_iconst d_X6_sheet_11 kv_iconst_2 ?_
    refine ev_callS (M' := it_m_X6_in) (d' := 1) (As := [.int x2, .int (-1), .int 2]) d_X6_sheet_12 ml_IcedTooSoonModel_78 rfl rfl (Nat.le_of_ble_eq_true rfl) (by decide) (by decide) (by decide) (L_X6_in  (it_ok_b h)) (fun _ _ _ _ q => by cases q.1; rfl) ?_
    rintro _ _ S4 ⟨rfl, r5, rfl, h⟩
    show it_Ev g l 2 it_m_X6_sheet 0 0 15 [some (.ref 45), some (.int x1), some (.int x2), some (.int x3), none] [.int r5] κ S4 (it_pi κ P)
    refine ev_if_eq (tgt := 29) d_X6_sheet_15 (by decide) (fun hc6 => ?_) (fun hc6 => ?_)
    · have h := it_ok_t h hc6
      refine ev_bipush d_X6_sheet_29 kv_bipush_m2 ?_
      exact ev_ret (v := some (.int _)) ⟨d_X6_sheet_31, _, rfl, rfl⟩ (by decide) (by decide) ⟨rfl, _, rfl, it_ok_r h⟩
    · have h := it_ok_f h hc6
      refine ev_iload_n d_X6_sheet_18 rfl ?_
      refine ev_iconst d_X6_sheet_19 kv_iconst_m1 ?_
      refine ev_icmp_eq (tgt := 32) d_X6_sheet_20 (by decide) (fun hc7 => ?_) (fun hc7 => ?_)
      · have h := it_ok_t h hc7
        refine ev_iload_n d_X6_sheet_32 rfl ?_
        refine ev_iconst d_X6_sheet_33 kv_iconst_m1 ?_
        refine ev_icmp_eq (tgt := 44) d_X6_sheet_34 (by decide) (fun hc8 => ?_) (fun hc8 => ?_)
        · have h := it_ok_t h hc8
          refine ev_aload_n d_X6_sheet_44 rfl ?_
          refine ev_getRr (r := 55) rfl d_X6_sheet_45 fl_IcedTooSoonModel_37 hm.1 rfl ?_
          refine ev_iload_n d_X6_sheet_48 rfl ?_
          refine ev_iload_n d_X6_sheet_49 rfl ?_
          obtain ⟨hb9, h⟩ := it_ok_g h
          refine ev_iast d_X6_sheet_50 (by decide) (hm).2.2.2.2.2.2.2.2.2.2.1 (it_bd_in hb9) ?_
          refine ev_aload_n d_X6_sheet_51 rfl ?_
          refine ev_getRr (r := 56) rfl d_X6_sheet_52 fl_IcedTooSoonModel_40 hm.1 rfl ?_
          refine ev_iload_n d_X6_sheet_55 rfl ?_
          refine ev_iload_n d_X6_sheet_56 rfl ?_
          refine ev_iconst d_X6_sheet_57 kv_iconst_m1 ?_
          refine ev_icmp_ne (tgt := 65) d_X6_sheet_58 (by decide) (fun hc10 => ?_) (fun hc10 => ?_)
          · have h := it_ok_f h hc10
            refine ev_iload_n d_X6_sheet_65 rfl ?_
            refine ev_iast d_X6_sheet_66 (by decide) (hm).2.2.2.2.2.2.2.2.2.2.2.1 (it_bd_in hb9) ?_
            refine ev_iconst d_X6_sheet_67 kv_iconst_0 ?_
            refine ev_istore d_X6_sheet_68 (by decide) ?_
            show it_Ev g l 2 it_m_X6_sheet 0 0 70 [some (.ref 45), some (.int x1), some (.int x2), some (.int x3), some (.int 0)] [] κ (it_up (it_up S4 55 (x1 : Int32).toNatClampNeg x2) 56 (x1 : Int32).toNatClampNeg x3) (it_pi κ P)
            refine ev_keep [true, true, false, false, true] ?_
            refine Llp_X6_sheet_70 hm hb9 (fun  S13 h => ?_) _ _ _ h
            show it_Ev g l 2 it_m_X6_sheet 0 0 96 [none, none, none, none, none] [] κ S13 (it_pi κ P)
            refine ev_iconst d_X6_sheet_96 kv_iconst_1 ?_
            exact ev_ret (v := some (.int _)) ⟨d_X6_sheet_97, _, rfl, rfl⟩ (by decide) (by decide) ⟨rfl, _, rfl, it_ok_r h⟩
          · have h := it_ok_t h hc10
            refine ev_iconst d_X6_sheet_61 kv_iconst_0 ?_
            refine ev_goto (tgt := 66) d_X6_sheet_62 (by decide) ?_
            refine ev_iast d_X6_sheet_66 (by decide) (hm).2.2.2.2.2.2.2.2.2.2.2.1 (it_bd_in hb9) ?_
            refine ev_iconst d_X6_sheet_67 kv_iconst_0 ?_
            refine ev_istore d_X6_sheet_68 (by decide) ?_
            show it_Ev g l 2 it_m_X6_sheet 0 0 70 [some (.ref 45), some (.int x1), some (.int x2), some (.int x3), some (.int 0)] [] κ (it_up (it_up S4 55 (x1 : Int32).toNatClampNeg x2) 56 (x1 : Int32).toNatClampNeg 0) (it_pi κ P)
            refine ev_keep [true, true, false, false, true] ?_
            refine Llp_X6_sheet_70 hm hb9 (fun  S14 h => ?_) _ _ _ h
            show it_Ev g l 2 it_m_X6_sheet 0 0 96 [none, none, none, none, none] [] κ S14 (it_pi κ P)
            refine ev_iconst d_X6_sheet_96 kv_iconst_1 ?_
            exact ev_ret (v := some (.int _)) ⟨d_X6_sheet_97, _, rfl, rfl⟩ (by decide) (by decide) ⟨rfl, _, rfl, it_ok_r h⟩
        · have h := it_ok_f h hc8
          refine ev_iload_n d_X6_sheet_37 rfl ?_
          refine ev_if_ge (tgt := 44) d_X6_sheet_38 (by decide) (fun hc15 => ?_) (fun hc15 => ?_)
          · have h := it_ok_t h hc15
            refine ev_aload_n d_X6_sheet_44 rfl ?_
            refine ev_getRr (r := 55) rfl d_X6_sheet_45 fl_IcedTooSoonModel_37 hm.1 rfl ?_
            refine ev_iload_n d_X6_sheet_48 rfl ?_
            refine ev_iload_n d_X6_sheet_49 rfl ?_
            obtain ⟨hb16, h⟩ := it_ok_g h
            refine ev_iast d_X6_sheet_50 (by decide) (hm).2.2.2.2.2.2.2.2.2.2.1 (it_bd_in hb16) ?_
            refine ev_aload_n d_X6_sheet_51 rfl ?_
            refine ev_getRr (r := 56) rfl d_X6_sheet_52 fl_IcedTooSoonModel_40 hm.1 rfl ?_
            refine ev_iload_n d_X6_sheet_55 rfl ?_
            refine ev_iload_n d_X6_sheet_56 rfl ?_
            refine ev_iconst d_X6_sheet_57 kv_iconst_m1 ?_
            refine ev_icmp_ne (tgt := 65) d_X6_sheet_58 (by decide) (fun hc17 => ?_) (fun hc17 => ?_)
            · have h := it_ok_f h hc17
              refine ev_iload_n d_X6_sheet_65 rfl ?_
              refine ev_iast d_X6_sheet_66 (by decide) (hm).2.2.2.2.2.2.2.2.2.2.2.1 (it_bd_in hb16) ?_
              refine ev_iconst d_X6_sheet_67 kv_iconst_0 ?_
              refine ev_istore d_X6_sheet_68 (by decide) ?_
              show it_Ev g l 2 it_m_X6_sheet 0 0 70 [some (.ref 45), some (.int x1), some (.int x2), some (.int x3), some (.int 0)] [] κ (it_up (it_up S4 55 (x1 : Int32).toNatClampNeg x2) 56 (x1 : Int32).toNatClampNeg x3) (it_pi κ P)
              refine ev_keep [true, true, false, false, true] ?_
              refine Llp_X6_sheet_70 hm hb16 (fun  S18 h => ?_) _ _ _ h
              show it_Ev g l 2 it_m_X6_sheet 0 0 96 [none, none, none, none, none] [] κ S18 (it_pi κ P)
              refine ev_iconst d_X6_sheet_96 kv_iconst_1 ?_
              exact ev_ret (v := some (.int _)) ⟨d_X6_sheet_97, _, rfl, rfl⟩ (by decide) (by decide) ⟨rfl, _, rfl, it_ok_r h⟩
            · have h := it_ok_t h hc17
              refine ev_iconst d_X6_sheet_61 kv_iconst_0 ?_
              refine ev_goto (tgt := 66) d_X6_sheet_62 (by decide) ?_
              refine ev_iast d_X6_sheet_66 (by decide) (hm).2.2.2.2.2.2.2.2.2.2.2.1 (it_bd_in hb16) ?_
              refine ev_iconst d_X6_sheet_67 kv_iconst_0 ?_
              refine ev_istore d_X6_sheet_68 (by decide) ?_
              show it_Ev g l 2 it_m_X6_sheet 0 0 70 [some (.ref 45), some (.int x1), some (.int x2), some (.int x3), some (.int 0)] [] κ (it_up (it_up S4 55 (x1 : Int32).toNatClampNeg x2) 56 (x1 : Int32).toNatClampNeg 0) (it_pi κ P)
              refine ev_keep [true, true, false, false, true] ?_
              refine Llp_X6_sheet_70 hm hb16 (fun  S19 h => ?_) _ _ _ h
              show it_Ev g l 2 it_m_X6_sheet 0 0 96 [none, none, none, none, none] [] κ S19 (it_pi κ P)
              refine ev_iconst d_X6_sheet_96 kv_iconst_1 ?_
              exact ev_ret (v := some (.int _)) ⟨d_X6_sheet_97, _, rfl, rfl⟩ (by decide) (by decide) ⟨rfl, _, rfl, it_ok_r h⟩
          · have h := it_ok_f h hc15
            refine ev_bipush d_X6_sheet_41 kv_bipush_m14 ?_
            exact ev_ret (v := some (.int _)) ⟨d_X6_sheet_43, _, rfl, rfl⟩ (by decide) (by decide) ⟨rfl, _, rfl, it_ok_r h⟩
      · have h := it_ok_f h hc7
        refine ev_iload_n d_X6_sheet_23 rfl ?_
        refine ev_bipush d_X6_sheet_24 kv_bipush_40 ?_
        refine ev_icmp_le (tgt := 32) d_X6_sheet_26 (by decide) (fun hc20 => ?_) (fun hc20 => ?_)
        · have h := it_ok_t h hc20
          refine ev_iload_n d_X6_sheet_32 rfl ?_
          refine ev_iconst d_X6_sheet_33 kv_iconst_m1 ?_
          refine ev_icmp_eq (tgt := 44) d_X6_sheet_34 (by decide) (fun hc21 => ?_) (fun hc21 => ?_)
          · have h := it_ok_t h hc21
            refine ev_aload_n d_X6_sheet_44 rfl ?_
            refine ev_getRr (r := 55) rfl d_X6_sheet_45 fl_IcedTooSoonModel_37 hm.1 rfl ?_
            refine ev_iload_n d_X6_sheet_48 rfl ?_
            refine ev_iload_n d_X6_sheet_49 rfl ?_
            obtain ⟨hb22, h⟩ := it_ok_g h
            refine ev_iast d_X6_sheet_50 (by decide) (hm).2.2.2.2.2.2.2.2.2.2.1 (it_bd_in hb22) ?_
            refine ev_aload_n d_X6_sheet_51 rfl ?_
            refine ev_getRr (r := 56) rfl d_X6_sheet_52 fl_IcedTooSoonModel_40 hm.1 rfl ?_
            refine ev_iload_n d_X6_sheet_55 rfl ?_
            refine ev_iload_n d_X6_sheet_56 rfl ?_
            refine ev_iconst d_X6_sheet_57 kv_iconst_m1 ?_
            refine ev_icmp_ne (tgt := 65) d_X6_sheet_58 (by decide) (fun hc23 => ?_) (fun hc23 => ?_)
            · have h := it_ok_f h hc23
              refine ev_iload_n d_X6_sheet_65 rfl ?_
              refine ev_iast d_X6_sheet_66 (by decide) (hm).2.2.2.2.2.2.2.2.2.2.2.1 (it_bd_in hb22) ?_
              refine ev_iconst d_X6_sheet_67 kv_iconst_0 ?_
              refine ev_istore d_X6_sheet_68 (by decide) ?_
              show it_Ev g l 2 it_m_X6_sheet 0 0 70 [some (.ref 45), some (.int x1), some (.int x2), some (.int x3), some (.int 0)] [] κ (it_up (it_up S4 55 (x1 : Int32).toNatClampNeg x2) 56 (x1 : Int32).toNatClampNeg x3) (it_pi κ P)
              refine ev_keep [true, true, false, false, true] ?_
              refine Llp_X6_sheet_70 hm hb22 (fun  S24 h => ?_) _ _ _ h
              show it_Ev g l 2 it_m_X6_sheet 0 0 96 [none, none, none, none, none] [] κ S24 (it_pi κ P)
              refine ev_iconst d_X6_sheet_96 kv_iconst_1 ?_
              exact ev_ret (v := some (.int _)) ⟨d_X6_sheet_97, _, rfl, rfl⟩ (by decide) (by decide) ⟨rfl, _, rfl, it_ok_r h⟩
            · have h := it_ok_t h hc23
              refine ev_iconst d_X6_sheet_61 kv_iconst_0 ?_
              refine ev_goto (tgt := 66) d_X6_sheet_62 (by decide) ?_
              refine ev_iast d_X6_sheet_66 (by decide) (hm).2.2.2.2.2.2.2.2.2.2.2.1 (it_bd_in hb22) ?_
              refine ev_iconst d_X6_sheet_67 kv_iconst_0 ?_
              refine ev_istore d_X6_sheet_68 (by decide) ?_
              show it_Ev g l 2 it_m_X6_sheet 0 0 70 [some (.ref 45), some (.int x1), some (.int x2), some (.int x3), some (.int 0)] [] κ (it_up (it_up S4 55 (x1 : Int32).toNatClampNeg x2) 56 (x1 : Int32).toNatClampNeg 0) (it_pi κ P)
              refine ev_keep [true, true, false, false, true] ?_
              refine Llp_X6_sheet_70 hm hb22 (fun  S25 h => ?_) _ _ _ h
              show it_Ev g l 2 it_m_X6_sheet 0 0 96 [none, none, none, none, none] [] κ S25 (it_pi κ P)
              refine ev_iconst d_X6_sheet_96 kv_iconst_1 ?_
              exact ev_ret (v := some (.int _)) ⟨d_X6_sheet_97, _, rfl, rfl⟩ (by decide) (by decide) ⟨rfl, _, rfl, it_ok_r h⟩
          · have h := it_ok_f h hc21
            refine ev_iload_n d_X6_sheet_37 rfl ?_
            refine ev_if_ge (tgt := 44) d_X6_sheet_38 (by decide) (fun hc26 => ?_) (fun hc26 => ?_)
            · have h := it_ok_t h hc26
              refine ev_aload_n d_X6_sheet_44 rfl ?_
              refine ev_getRr (r := 55) rfl d_X6_sheet_45 fl_IcedTooSoonModel_37 hm.1 rfl ?_
              refine ev_iload_n d_X6_sheet_48 rfl ?_
              refine ev_iload_n d_X6_sheet_49 rfl ?_
              obtain ⟨hb27, h⟩ := it_ok_g h
              refine ev_iast d_X6_sheet_50 (by decide) (hm).2.2.2.2.2.2.2.2.2.2.1 (it_bd_in hb27) ?_
              refine ev_aload_n d_X6_sheet_51 rfl ?_
              refine ev_getRr (r := 56) rfl d_X6_sheet_52 fl_IcedTooSoonModel_40 hm.1 rfl ?_
              refine ev_iload_n d_X6_sheet_55 rfl ?_
              refine ev_iload_n d_X6_sheet_56 rfl ?_
              refine ev_iconst d_X6_sheet_57 kv_iconst_m1 ?_
              refine ev_icmp_ne (tgt := 65) d_X6_sheet_58 (by decide) (fun hc28 => ?_) (fun hc28 => ?_)
              · have h := it_ok_f h hc28
                refine ev_iload_n d_X6_sheet_65 rfl ?_
                refine ev_iast d_X6_sheet_66 (by decide) (hm).2.2.2.2.2.2.2.2.2.2.2.1 (it_bd_in hb27) ?_
                refine ev_iconst d_X6_sheet_67 kv_iconst_0 ?_
                refine ev_istore d_X6_sheet_68 (by decide) ?_
                show it_Ev g l 2 it_m_X6_sheet 0 0 70 [some (.ref 45), some (.int x1), some (.int x2), some (.int x3), some (.int 0)] [] κ (it_up (it_up S4 55 (x1 : Int32).toNatClampNeg x2) 56 (x1 : Int32).toNatClampNeg x3) (it_pi κ P)
                refine ev_keep [true, true, false, false, true] ?_
                refine Llp_X6_sheet_70 hm hb27 (fun  S29 h => ?_) _ _ _ h
                show it_Ev g l 2 it_m_X6_sheet 0 0 96 [none, none, none, none, none] [] κ S29 (it_pi κ P)
                refine ev_iconst d_X6_sheet_96 kv_iconst_1 ?_
                exact ev_ret (v := some (.int _)) ⟨d_X6_sheet_97, _, rfl, rfl⟩ (by decide) (by decide) ⟨rfl, _, rfl, it_ok_r h⟩
              · have h := it_ok_t h hc28
                refine ev_iconst d_X6_sheet_61 kv_iconst_0 ?_
                refine ev_goto (tgt := 66) d_X6_sheet_62 (by decide) ?_
                refine ev_iast d_X6_sheet_66 (by decide) (hm).2.2.2.2.2.2.2.2.2.2.2.1 (it_bd_in hb27) ?_
                refine ev_iconst d_X6_sheet_67 kv_iconst_0 ?_
                refine ev_istore d_X6_sheet_68 (by decide) ?_
                show it_Ev g l 2 it_m_X6_sheet 0 0 70 [some (.ref 45), some (.int x1), some (.int x2), some (.int x3), some (.int 0)] [] κ (it_up (it_up S4 55 (x1 : Int32).toNatClampNeg x2) 56 (x1 : Int32).toNatClampNeg 0) (it_pi κ P)
                refine ev_keep [true, true, false, false, true] ?_
                refine Llp_X6_sheet_70 hm hb27 (fun  S30 h => ?_) _ _ _ h
                show it_Ev g l 2 it_m_X6_sheet 0 0 96 [none, none, none, none, none] [] κ S30 (it_pi κ P)
                refine ev_iconst d_X6_sheet_96 kv_iconst_1 ?_
                exact ev_ret (v := some (.int _)) ⟨d_X6_sheet_97, _, rfl, rfl⟩ (by decide) (by decide) ⟨rfl, _, rfl, it_ok_r h⟩
            · have h := it_ok_f h hc26
              refine ev_bipush d_X6_sheet_41 kv_bipush_m14 ?_
              exact ev_ret (v := some (.int _)) ⟨d_X6_sheet_43, _, rfl, rfl⟩ (by decide) (by decide) ⟨rfl, _, rfl, it_ok_r h⟩
        · have h := it_ok_f h hc20
          refine ev_bipush d_X6_sheet_29 kv_bipush_m2 ?_
          exact ev_ret (v := some (.int _)) ⟨d_X6_sheet_31, _, rfl, rfl⟩ (by decide) (by decide) ⟨rfl, _, rfl, it_ok_r h⟩
theorem d_X6_cell_0 : decode prog_8_method_77_code 0 = .ok (.iload_n 1, 1) := by decide +kernel
theorem d_X6_cell_1 : decode prog_8_method_77_code 1 = .ok (.iconst 0, 1) := by decide +kernel
theorem d_X6_cell_2 : decode prog_8_method_77_code 2 = .ok (.iconst 3, 1) := by decide +kernel
theorem d_X6_cell_3 : decode prog_8_method_77_code 3 = .ok (.invokestatic 78, 3) := by decide +kernel
theorem d_X6_cell_6 : decode prog_8_method_77_code 6 = .ok (.ifCond .ne 6, 3) := by decide +kernel
theorem d_X6_cell_9 : decode prog_8_method_77_code 9 = .ok (.bipush (-2), 2) := by decide +kernel
theorem d_X6_cell_11 : decode prog_8_method_77_code 11 = .ok (.ireturn, 1) := by decide +kernel
theorem d_X6_cell_12 : decode prog_8_method_77_code 12 = .ok (.aload_n 0, 1) := by decide +kernel
theorem d_X6_cell_13 : decode prog_8_method_77_code 13 = .ok (.getfield 37, 3) := by decide +kernel
theorem d_X6_cell_16 : decode prog_8_method_77_code 16 = .ok (.iload_n 1, 1) := by decide +kernel
theorem d_X6_cell_17 : decode prog_8_method_77_code 17 = .ok (.iaload, 1) := by decide +kernel
theorem d_X6_cell_18 : decode prog_8_method_77_code 18 = .ok (.iconst (-1), 1) := by decide +kernel
theorem d_X6_cell_19 : decode prog_8_method_77_code 19 = .ok (.if_icmp .ne 6, 3) := by decide +kernel
theorem d_X6_cell_22 : decode prog_8_method_77_code 22 = .ok (.bipush (-11), 2) := by decide +kernel
theorem d_X6_cell_24 : decode prog_8_method_77_code 24 = .ok (.ireturn, 1) := by decide +kernel
theorem d_X6_cell_25 : decode prog_8_method_77_code 25 = .ok (.iload_n 2, 1) := by decide +kernel
theorem d_X6_cell_26 : decode prog_8_method_77_code 26 = .ok (.iconst 0, 1) := by decide +kernel
theorem d_X6_cell_27 : decode prog_8_method_77_code 27 = .ok (.aload_n 0, 1) := by decide +kernel
theorem d_X6_cell_28 : decode prog_8_method_77_code 28 = .ok (.getfield 40, 3) := by decide +kernel
theorem d_X6_cell_31 : decode prog_8_method_77_code 31 = .ok (.iload_n 1, 1) := by decide +kernel
theorem d_X6_cell_32 : decode prog_8_method_77_code 32 = .ok (.iaload, 1) := by decide +kernel
theorem d_X6_cell_33 : decode prog_8_method_77_code 33 = .ok (.iconst 1, 1) := by decide +kernel
theorem d_X6_cell_34 : decode prog_8_method_77_code 34 = .ok (.isub, 1) := by decide +kernel
theorem d_X6_cell_35 : decode prog_8_method_77_code 35 = .ok (.invokestatic 78, 3) := by decide +kernel
theorem d_X6_cell_38 : decode prog_8_method_77_code 38 = .ok (.ifCond .ne 6, 3) := by decide +kernel
theorem d_X6_cell_41 : decode prog_8_method_77_code 41 = .ok (.bipush (-12), 2) := by decide +kernel
theorem d_X6_cell_43 : decode prog_8_method_77_code 43 = .ok (.ireturn, 1) := by decide +kernel
theorem d_X6_cell_44 : decode prog_8_method_77_code 44 = .ok (.aload_n 0, 1) := by decide +kernel
theorem d_X6_cell_45 : decode prog_8_method_77_code 45 = .ok (.getfield 43, 3) := by decide +kernel
theorem d_X6_cell_48 : decode prog_8_method_77_code 48 = .ok (.bipush 40, 2) := by decide +kernel
theorem d_X6_cell_50 : decode prog_8_method_77_code 50 = .ok (.iload_n 1, 1) := by decide +kernel
theorem d_X6_cell_51 : decode prog_8_method_77_code 51 = .ok (.imul, 1) := by decide +kernel
theorem d_X6_cell_52 : decode prog_8_method_77_code 52 = .ok (.iload_n 2, 1) := by decide +kernel
theorem d_X6_cell_53 : decode prog_8_method_77_code 53 = .ok (.iadd, 1) := by decide +kernel
theorem d_X6_cell_54 : decode prog_8_method_77_code 54 = .ok (.aload_n 0, 1) := by decide +kernel
theorem d_X6_cell_55 : decode prog_8_method_77_code 55 = .ok (.getfield 37, 3) := by decide +kernel
theorem d_X6_cell_58 : decode prog_8_method_77_code 58 = .ok (.iload_n 1, 1) := by decide +kernel
theorem d_X6_cell_59 : decode prog_8_method_77_code 59 = .ok (.iaload, 1) := by decide +kernel
theorem d_X6_cell_60 : decode prog_8_method_77_code 60 = .ok (.ifCond .ne 8, 3) := by decide +kernel
theorem d_X6_cell_63 : decode prog_8_method_77_code 63 = .ok (.iload_n 3, 1) := by decide +kernel
theorem d_X6_cell_64 : decode prog_8_method_77_code 64 = .ok (.i2b, 1) := by decide +kernel
theorem d_X6_cell_65 : decode prog_8_method_77_code 65 = .ok (.goto 19, 3) := by decide +kernel
theorem d_X6_cell_68 : decode prog_8_method_77_code 68 = .ok (.aload_n 0, 1) := by decide +kernel
theorem d_X6_cell_69 : decode prog_8_method_77_code 69 = .ok (.getfield 37, 3) := by decide +kernel
theorem d_X6_cell_72 : decode prog_8_method_77_code 72 = .ok (.iload_n 1, 1) := by decide +kernel
theorem d_X6_cell_73 : decode prog_8_method_77_code 73 = .ok (.iaload, 1) := by decide +kernel
theorem d_X6_cell_74 : decode prog_8_method_77_code 74 = .ok (.iconst 1, 1) := by decide +kernel
theorem d_X6_cell_75 : decode prog_8_method_77_code 75 = .ok (.if_icmp .ne 8, 3) := by decide +kernel
theorem d_X6_cell_78 : decode prog_8_method_77_code 78 = .ok (.iload_n 3, 1) := by decide +kernel
theorem d_X6_cell_79 : decode prog_8_method_77_code 79 = .ok (.i2s, 1) := by decide +kernel
theorem d_X6_cell_80 : decode prog_8_method_77_code 80 = .ok (.goto 4, 3) := by decide +kernel
theorem d_X6_cell_83 : decode prog_8_method_77_code 83 = .ok (.iload_n 3, 1) := by decide +kernel
theorem d_X6_cell_84 : decode prog_8_method_77_code 84 = .ok (.iastore, 1) := by decide +kernel
theorem d_X6_cell_85 : decode prog_8_method_77_code 85 = .ok (.iconst 1, 1) := by decide +kernel
theorem d_X6_cell_86 : decode prog_8_method_77_code 86 = .ok (.ireturn, 1) := by decide +kernel
def f_X6_cell (κ : it_KK) (x1 : Int32) (x2 : Int32) (x3 : Int32) (S : it_SS) : Option (Int32 × it_SS) :=
it_bi (f_X6_in κ x1 0 3 S) (fun r2 S1 =>
if r2 = 0 then
some ((-2), S1)
else
if it_bd x1 4 = true then
if (S1 55 (x1 : Int32).toNatClampNeg) = (-1) then
some ((-11), S1)
else
it_bi (f_X6_in κ x2 0 ((S1 56 (x1 : Int32).toNatClampNeg) - 1) S1) (fun r7 S6 =>
if r7 = 0 then
some ((-12), S6)
else
if (S6 55 (x1 : Int32).toNatClampNeg) = 0 then
if it_bd ((40 * x1) + x2) 160 = true then
some (1, it_up S6 57 (((40 * x1) + x2) : Int32).toNatClampNeg ((x3 : Int32).toInt8.toInt32))
else none
else
if (S6 55 (x1 : Int32).toNatClampNeg) = 1 then
if it_bd ((40 * x1) + x2) 160 = true then
some (1, it_up S6 57 (((40 * x1) + x2) : Int32).toNatClampNeg ((x3 : Int32).toInt16.toInt32))
else none
else
if it_bd ((40 * x1) + x2) 160 = true then
some (1, it_up S6 57 (((40 * x1) + x2) : Int32).toNatClampNeg x3)
else none)
else none)
set_option maxHeartbeats 4000000 in
set_option maxRecDepth 100000 in
theorem L_X6_cell {g : it_G} {l : Launch} {κ : it_KK} {x1 : Int32} {x2 : Int32} {x3 : Int32} (hm : it_wm κ) {S : it_SS} {P : Int32 → it_SS → Prop} (h : it_ok (f_X6_cell κ x1 x2 x3 S) P) : it_Cn g l 2 it_m_X6_cell [.ref 45, .int x1, .int x2, .int x3] κ S (it_pi κ P) := by
  refine it_Cn.of (by decide +kernel) (Nat.le_of_ble_eq_true rfl) ?_
  rw [f_X6_cell] at h
  show it_Ev g l 2 it_m_X6_cell 0 0 0 [some (.ref 45), some (.int x1), some (.int x2), some (.int x3)] [] κ S (it_pi κ P)
  refine ev_iload_n d_X6_cell_0 rfl ?_
  refine ev_iconst d_X6_cell_1 kv_iconst_0 ?_
  refine ev_iconst d_X6_cell_2 kv_iconst_3 ?_
  refine ev_callS (M' := it_m_X6_in) (d' := 1) (As := [.int x1, .int 0, .int 3]) d_X6_cell_3 ml_IcedTooSoonModel_78 rfl rfl (Nat.le_of_ble_eq_true rfl) (by decide) (by decide) (by decide) (L_X6_in  (it_ok_b h)) (fun _ _ _ _ q => by cases q.1; rfl) ?_
  rintro _ _ S1 ⟨rfl, r2, rfl, h⟩
  show it_Ev g l 2 it_m_X6_cell 0 0 6 [some (.ref 45), some (.int x1), some (.int x2), some (.int x3)] [.int r2] κ S1 (it_pi κ P)
  refine ev_if_ne (tgt := 12) d_X6_cell_6 (by decide) (fun hc3 => ?_) (fun hc3 => ?_)
  · have h := it_ok_f h hc3
    refine ev_aload_n d_X6_cell_12 rfl ?_
    refine ev_getRr (r := 55) rfl d_X6_cell_13 fl_IcedTooSoonModel_37 hm.1 rfl ?_
    refine ev_iload_n d_X6_cell_16 rfl ?_
    obtain ⟨hb4, h⟩ := it_ok_g h
    refine ev_iald d_X6_cell_17 (hm).2.2.2.2.2.2.2.2.2.2.1 (it_bd_in hb4) ?_
    refine ev_iconst d_X6_cell_18 kv_iconst_m1 ?_
    refine ev_icmp_ne (tgt := 25) d_X6_cell_19 (by decide) (fun hc5 => ?_) (fun hc5 => ?_)
    · have h := it_ok_f h hc5
      refine ev_iload_n d_X6_cell_25 rfl ?_
      refine ev_iconst d_X6_cell_26 kv_iconst_0 ?_
      refine ev_aload_n d_X6_cell_27 rfl ?_
      refine ev_getRr (r := 56) rfl d_X6_cell_28 fl_IcedTooSoonModel_40 hm.1 rfl ?_
      refine ev_iload_n d_X6_cell_31 rfl ?_
      refine ev_iald d_X6_cell_32 (hm).2.2.2.2.2.2.2.2.2.2.2.1 (it_bd_in hb4) ?_
      refine ev_iconst d_X6_cell_33 kv_iconst_1 ?_
      refine ev_isub d_X6_cell_34 ?_
      refine ev_callS (M' := it_m_X6_in) (d' := 1) (As := [.int x2, .int 0, .int ((S1 56 (x1 : Int32).toNatClampNeg) - 1)]) d_X6_cell_35 ml_IcedTooSoonModel_78 rfl rfl (Nat.le_of_ble_eq_true rfl) (by decide) (by decide) (by decide) (L_X6_in  (it_ok_b h)) (fun _ _ _ _ q => by cases q.1; rfl) ?_
      rintro _ _ S6 ⟨rfl, r7, rfl, h⟩
      show it_Ev g l 2 it_m_X6_cell 0 0 38 [some (.ref 45), some (.int x1), some (.int x2), some (.int x3)] [.int r7] κ S6 (it_pi κ P)
      refine ev_if_ne (tgt := 44) d_X6_cell_38 (by decide) (fun hc8 => ?_) (fun hc8 => ?_)
      · have h := it_ok_f h hc8
        refine ev_aload_n d_X6_cell_44 rfl ?_
        refine ev_getRr (r := 57) rfl d_X6_cell_45 fl_IcedTooSoonModel_43 hm.1 rfl ?_
        refine ev_bipush d_X6_cell_48 kv_bipush_40 ?_
        refine ev_iload_n d_X6_cell_50 rfl ?_
        refine ev_imul d_X6_cell_51 ?_
        refine ev_iload_n d_X6_cell_52 rfl ?_
        refine ev_iadd d_X6_cell_53 ?_
        refine ev_aload_n d_X6_cell_54 rfl ?_
        refine ev_getRr (r := 55) rfl d_X6_cell_55 fl_IcedTooSoonModel_37 hm.1 rfl ?_
        refine ev_iload_n d_X6_cell_58 rfl ?_
        refine ev_iald d_X6_cell_59 (hm).2.2.2.2.2.2.2.2.2.2.1 (it_bd_in hb4) ?_
        refine ev_if_ne (tgt := 68) d_X6_cell_60 (by decide) (fun hc9 => ?_) (fun hc9 => ?_)
        · have h := it_ok_f h hc9
          refine ev_aload_n d_X6_cell_68 rfl ?_
          refine ev_getRr (r := 55) rfl d_X6_cell_69 fl_IcedTooSoonModel_37 hm.1 rfl ?_
          refine ev_iload_n d_X6_cell_72 rfl ?_
          refine ev_iald d_X6_cell_73 (hm).2.2.2.2.2.2.2.2.2.2.1 (it_bd_in hb4) ?_
          refine ev_iconst d_X6_cell_74 kv_iconst_1 ?_
          refine ev_icmp_ne (tgt := 83) d_X6_cell_75 (by decide) (fun hc10 => ?_) (fun hc10 => ?_)
          · have h := it_ok_f h hc10
            refine ev_iload_n d_X6_cell_83 rfl ?_
            obtain ⟨hb11, h⟩ := it_ok_g h
            refine ev_iast d_X6_cell_84 (by decide) (hm).2.2.2.2.2.2.2.2.2.2.2.2.1 (it_bd_in hb11) ?_
            refine ev_iconst d_X6_cell_85 kv_iconst_1 ?_
            exact ev_ret (v := some (.int _)) ⟨d_X6_cell_86, _, rfl, rfl⟩ (by decide) (by decide) ⟨rfl, _, rfl, it_ok_r h⟩
          · have h := it_ok_t h hc10
            refine ev_iload_n d_X6_cell_78 rfl ?_
            refine ev_i2s d_X6_cell_79 ?_
            refine ev_goto (tgt := 84) d_X6_cell_80 (by decide) ?_
            obtain ⟨hb12, h⟩ := it_ok_g h
            refine ev_iast d_X6_cell_84 (by decide) (hm).2.2.2.2.2.2.2.2.2.2.2.2.1 (it_bd_in hb12) ?_
            refine ev_iconst d_X6_cell_85 kv_iconst_1 ?_
            exact ev_ret (v := some (.int _)) ⟨d_X6_cell_86, _, rfl, rfl⟩ (by decide) (by decide) ⟨rfl, _, rfl, it_ok_r h⟩
        · have h := it_ok_t h hc9
          refine ev_iload_n d_X6_cell_63 rfl ?_
          refine ev_i2b d_X6_cell_64 ?_
          refine ev_goto (tgt := 84) d_X6_cell_65 (by decide) ?_
          obtain ⟨hb13, h⟩ := it_ok_g h
          refine ev_iast d_X6_cell_84 (by decide) (hm).2.2.2.2.2.2.2.2.2.2.2.2.1 (it_bd_in hb13) ?_
          refine ev_iconst d_X6_cell_85 kv_iconst_1 ?_
          exact ev_ret (v := some (.int _)) ⟨d_X6_cell_86, _, rfl, rfl⟩ (by decide) (by decide) ⟨rfl, _, rfl, it_ok_r h⟩
      · have h := it_ok_t h hc8
        refine ev_bipush d_X6_cell_41 kv_bipush_m12 ?_
        exact ev_ret (v := some (.int _)) ⟨d_X6_cell_43, _, rfl, rfl⟩ (by decide) (by decide) ⟨rfl, _, rfl, it_ok_r h⟩
    · have h := it_ok_t h hc5
      refine ev_bipush d_X6_cell_22 kv_bipush_m11 ?_
      exact ev_ret (v := some (.int _)) ⟨d_X6_cell_24, _, rfl, rfl⟩ (by decide) (by decide) ⟨rfl, _, rfl, it_ok_r h⟩
  · have h := it_ok_t h hc3
    refine ev_bipush d_X6_cell_9 kv_bipush_m2 ?_
    exact ev_ret (v := some (.int _)) ⟨d_X6_cell_11, _, rfl, rfl⟩ (by decide) (by decide) ⟨rfl, _, rfl, it_ok_r h⟩
theorem d_X6_copy_0 : decode prog_8_method_78_code 0 = .ok (.iload_n 1, 1) := by decide +kernel
theorem d_X6_copy_1 : decode prog_8_method_78_code 1 = .ok (.iconst 0, 1) := by decide +kernel
theorem d_X6_copy_2 : decode prog_8_method_78_code 2 = .ok (.iconst 3, 1) := by decide +kernel
theorem d_X6_copy_3 : decode prog_8_method_78_code 3 = .ok (.invokestatic 78, 3) := by decide +kernel
theorem d_X6_copy_6 : decode prog_8_method_78_code 6 = .ok (.ifCond .eq 12, 3) := by decide +kernel
theorem d_X6_copy_9 : decode prog_8_method_78_code 9 = .ok (.iload_n 3, 1) := by decide +kernel
theorem d_X6_copy_10 : decode prog_8_method_78_code 10 = .ok (.iconst 0, 1) := by decide +kernel
theorem d_X6_copy_11 : decode prog_8_method_78_code 11 = .ok (.iconst 3, 1) := by decide +kernel
theorem d_X6_copy_12 : decode prog_8_method_78_code 12 = .ok (.invokestatic 78, 3) := by decide +kernel
theorem d_X6_copy_15 : decode prog_8_method_78_code 15 = .ok (.ifCond .ne 6, 3) := by decide +kernel
theorem d_X6_copy_18 : decode prog_8_method_78_code 18 = .ok (.bipush (-2), 2) := by decide +kernel
theorem d_X6_copy_20 : decode prog_8_method_78_code 20 = .ok (.ireturn, 1) := by decide +kernel
theorem d_X6_copy_21 : decode prog_8_method_78_code 21 = .ok (.aload_n 0, 1) := by decide +kernel
theorem d_X6_copy_22 : decode prog_8_method_78_code 22 = .ok (.getfield 37, 3) := by decide +kernel
theorem d_X6_copy_25 : decode prog_8_method_78_code 25 = .ok (.iload_n 1, 1) := by decide +kernel
theorem d_X6_copy_26 : decode prog_8_method_78_code 26 = .ok (.iaload, 1) := by decide +kernel
theorem d_X6_copy_27 : decode prog_8_method_78_code 27 = .ok (.iconst (-1), 1) := by decide +kernel
theorem d_X6_copy_28 : decode prog_8_method_78_code 28 = .ok (.if_icmp .eq 13, 3) := by decide +kernel
theorem d_X6_copy_31 : decode prog_8_method_78_code 31 = .ok (.aload_n 0, 1) := by decide +kernel
theorem d_X6_copy_32 : decode prog_8_method_78_code 32 = .ok (.getfield 37, 3) := by decide +kernel
theorem d_X6_copy_35 : decode prog_8_method_78_code 35 = .ok (.iload_n 3, 1) := by decide +kernel
theorem d_X6_copy_36 : decode prog_8_method_78_code 36 = .ok (.iaload, 1) := by decide +kernel
theorem d_X6_copy_37 : decode prog_8_method_78_code 37 = .ok (.iconst (-1), 1) := by decide +kernel
theorem d_X6_copy_38 : decode prog_8_method_78_code 38 = .ok (.if_icmp .ne 6, 3) := by decide +kernel
theorem d_X6_copy_41 : decode prog_8_method_78_code 41 = .ok (.bipush (-11), 2) := by decide +kernel
theorem d_X6_copy_43 : decode prog_8_method_78_code 43 = .ok (.ireturn, 1) := by decide +kernel
theorem d_X6_copy_44 : decode prog_8_method_78_code 44 = .ok (.aload_n 0, 1) := by decide +kernel
theorem d_X6_copy_45 : decode prog_8_method_78_code 45 = .ok (.getfield 37, 3) := by decide +kernel
theorem d_X6_copy_48 : decode prog_8_method_78_code 48 = .ok (.iload_n 1, 1) := by decide +kernel
theorem d_X6_copy_49 : decode prog_8_method_78_code 49 = .ok (.iaload, 1) := by decide +kernel
theorem d_X6_copy_50 : decode prog_8_method_78_code 50 = .ok (.aload_n 0, 1) := by decide +kernel
theorem d_X6_copy_51 : decode prog_8_method_78_code 51 = .ok (.getfield 37, 3) := by decide +kernel
theorem d_X6_copy_54 : decode prog_8_method_78_code 54 = .ok (.iload_n 3, 1) := by decide +kernel
theorem d_X6_copy_55 : decode prog_8_method_78_code 55 = .ok (.iaload, 1) := by decide +kernel
theorem d_X6_copy_56 : decode prog_8_method_78_code 56 = .ok (.if_icmp .eq 6, 3) := by decide +kernel
theorem d_X6_copy_59 : decode prog_8_method_78_code 59 = .ok (.bipush (-13), 2) := by decide +kernel
theorem d_X6_copy_61 : decode prog_8_method_78_code 61 = .ok (.ireturn, 1) := by decide +kernel
theorem d_X6_copy_62 : decode prog_8_method_78_code 62 = .ok (.iload 5, 2) := by decide +kernel
theorem d_X6_copy_64 : decode prog_8_method_78_code 64 = .ok (.ifCond .lt 60, 3) := by decide +kernel
theorem d_X6_copy_67 : decode prog_8_method_78_code 67 = .ok (.iload_n 2, 1) := by decide +kernel
theorem d_X6_copy_68 : decode prog_8_method_78_code 68 = .ok (.ifCond .lt 56, 3) := by decide +kernel
theorem d_X6_copy_71 : decode prog_8_method_78_code 71 = .ok (.iload 4, 2) := by decide +kernel
theorem d_X6_copy_73 : decode prog_8_method_78_code 73 = .ok (.ifCond .lt 51, 3) := by decide +kernel
theorem d_X6_copy_76 : decode prog_8_method_78_code 76 = .ok (.iload_n 2, 1) := by decide +kernel
theorem d_X6_copy_77 : decode prog_8_method_78_code 77 = .ok (.aload_n 0, 1) := by decide +kernel
theorem d_X6_copy_78 : decode prog_8_method_78_code 78 = .ok (.getfield 40, 3) := by decide +kernel
theorem d_X6_copy_81 : decode prog_8_method_78_code 81 = .ok (.iload_n 1, 1) := by decide +kernel
theorem d_X6_copy_82 : decode prog_8_method_78_code 82 = .ok (.iaload, 1) := by decide +kernel
theorem d_X6_copy_83 : decode prog_8_method_78_code 83 = .ok (.if_icmp .gt 41, 3) := by decide +kernel
theorem d_X6_copy_86 : decode prog_8_method_78_code 86 = .ok (.iload 4, 2) := by decide +kernel
theorem d_X6_copy_88 : decode prog_8_method_78_code 88 = .ok (.aload_n 0, 1) := by decide +kernel
theorem d_X6_copy_89 : decode prog_8_method_78_code 89 = .ok (.getfield 40, 3) := by decide +kernel
theorem d_X6_copy_92 : decode prog_8_method_78_code 92 = .ok (.iload_n 3, 1) := by decide +kernel
theorem d_X6_copy_93 : decode prog_8_method_78_code 93 = .ok (.iaload, 1) := by decide +kernel
theorem d_X6_copy_94 : decode prog_8_method_78_code 94 = .ok (.if_icmp .gt 30, 3) := by decide +kernel
theorem d_X6_copy_97 : decode prog_8_method_78_code 97 = .ok (.iload 5, 2) := by decide +kernel
theorem d_X6_copy_99 : decode prog_8_method_78_code 99 = .ok (.aload_n 0, 1) := by decide +kernel
theorem d_X6_copy_100 : decode prog_8_method_78_code 100 = .ok (.getfield 40, 3) := by decide +kernel
theorem d_X6_copy_103 : decode prog_8_method_78_code 103 = .ok (.iload_n 1, 1) := by decide +kernel
theorem d_X6_copy_104 : decode prog_8_method_78_code 104 = .ok (.iaload, 1) := by decide +kernel
theorem d_X6_copy_105 : decode prog_8_method_78_code 105 = .ok (.iload_n 2, 1) := by decide +kernel
theorem d_X6_copy_106 : decode prog_8_method_78_code 106 = .ok (.isub, 1) := by decide +kernel
theorem d_X6_copy_107 : decode prog_8_method_78_code 107 = .ok (.if_icmp .gt 17, 3) := by decide +kernel
theorem d_X6_copy_110 : decode prog_8_method_78_code 110 = .ok (.iload 5, 2) := by decide +kernel
theorem d_X6_copy_112 : decode prog_8_method_78_code 112 = .ok (.aload_n 0, 1) := by decide +kernel
theorem d_X6_copy_113 : decode prog_8_method_78_code 113 = .ok (.getfield 40, 3) := by decide +kernel
theorem d_X6_copy_116 : decode prog_8_method_78_code 116 = .ok (.iload_n 3, 1) := by decide +kernel
theorem d_X6_copy_117 : decode prog_8_method_78_code 117 = .ok (.iaload, 1) := by decide +kernel
theorem d_X6_copy_118 : decode prog_8_method_78_code 118 = .ok (.iload 4, 2) := by decide +kernel
theorem d_X6_copy_120 : decode prog_8_method_78_code 120 = .ok (.isub, 1) := by decide +kernel
theorem d_X6_copy_121 : decode prog_8_method_78_code 121 = .ok (.if_icmp .le 6, 3) := by decide +kernel
theorem d_X6_copy_124 : decode prog_8_method_78_code 124 = .ok (.bipush (-12), 2) := by decide +kernel
theorem d_X6_copy_126 : decode prog_8_method_78_code 126 = .ok (.ireturn, 1) := by decide +kernel
theorem d_X6_copy_127 : decode prog_8_method_78_code 127 = .ok (.bipush 40, 2) := by decide +kernel
theorem d_X6_copy_129 : decode prog_8_method_78_code 129 = .ok (.iload_n 1, 1) := by decide +kernel
theorem d_X6_copy_130 : decode prog_8_method_78_code 130 = .ok (.imul, 1) := by decide +kernel
theorem d_X6_copy_131 : decode prog_8_method_78_code 131 = .ok (.iload_n 2, 1) := by decide +kernel
theorem d_X6_copy_132 : decode prog_8_method_78_code 132 = .ok (.iadd, 1) := by decide +kernel
theorem d_X6_copy_133 : decode prog_8_method_78_code 133 = .ok (.istore 6, 2) := by decide +kernel
theorem d_X6_copy_135 : decode prog_8_method_78_code 135 = .ok (.bipush 40, 2) := by decide +kernel
theorem d_X6_copy_137 : decode prog_8_method_78_code 137 = .ok (.iload_n 3, 1) := by decide +kernel
theorem d_X6_copy_138 : decode prog_8_method_78_code 138 = .ok (.imul, 1) := by decide +kernel
theorem d_X6_copy_139 : decode prog_8_method_78_code 139 = .ok (.iload 4, 2) := by decide +kernel
theorem d_X6_copy_141 : decode prog_8_method_78_code 141 = .ok (.iadd, 1) := by decide +kernel
theorem d_X6_copy_142 : decode prog_8_method_78_code 142 = .ok (.istore 7, 2) := by decide +kernel
theorem d_X6_copy_144 : decode prog_8_method_78_code 144 = .ok (.iconst 0, 1) := by decide +kernel
theorem d_X6_copy_145 : decode prog_8_method_78_code 145 = .ok (.istore 8, 2) := by decide +kernel
theorem d_X6_copy_147 : decode prog_8_method_78_code 147 = .ok (.iload 8, 2) := by decide +kernel
theorem d_X6_copy_149 : decode prog_8_method_78_code 149 = .ok (.iload 5, 2) := by decide +kernel
theorem d_X6_copy_151 : decode prog_8_method_78_code 151 = .ok (.if_icmp .ge 50, 3) := by decide +kernel
theorem d_X6_copy_154 : decode prog_8_method_78_code 154 = .ok (.iload 6, 2) := by decide +kernel
theorem d_X6_copy_156 : decode prog_8_method_78_code 156 = .ok (.iload 7, 2) := by decide +kernel
theorem d_X6_copy_158 : decode prog_8_method_78_code 158 = .ok (.if_icmp .ge 13, 3) := by decide +kernel
theorem d_X6_copy_161 : decode prog_8_method_78_code 161 = .ok (.iload 5, 2) := by decide +kernel
theorem d_X6_copy_163 : decode prog_8_method_78_code 163 = .ok (.iconst 1, 1) := by decide +kernel
theorem d_X6_copy_164 : decode prog_8_method_78_code 164 = .ok (.isub, 1) := by decide +kernel
theorem d_X6_copy_165 : decode prog_8_method_78_code 165 = .ok (.iload 8, 2) := by decide +kernel
theorem d_X6_copy_167 : decode prog_8_method_78_code 167 = .ok (.isub, 1) := by decide +kernel
theorem d_X6_copy_168 : decode prog_8_method_78_code 168 = .ok (.goto 5, 3) := by decide +kernel
theorem d_X6_copy_171 : decode prog_8_method_78_code 171 = .ok (.iload 8, 2) := by decide +kernel
theorem d_X6_copy_173 : decode prog_8_method_78_code 173 = .ok (.istore 9, 2) := by decide +kernel
theorem d_X6_copy_175 : decode prog_8_method_78_code 175 = .ok (.aload_n 0, 1) := by decide +kernel
theorem d_X6_copy_176 : decode prog_8_method_78_code 176 = .ok (.getfield 43, 3) := by decide +kernel
theorem d_X6_copy_179 : decode prog_8_method_78_code 179 = .ok (.iload 7, 2) := by decide +kernel
theorem d_X6_copy_181 : decode prog_8_method_78_code 181 = .ok (.iload 9, 2) := by decide +kernel
theorem d_X6_copy_183 : decode prog_8_method_78_code 183 = .ok (.iadd, 1) := by decide +kernel
theorem d_X6_copy_184 : decode prog_8_method_78_code 184 = .ok (.aload_n 0, 1) := by decide +kernel
theorem d_X6_copy_185 : decode prog_8_method_78_code 185 = .ok (.getfield 43, 3) := by decide +kernel
theorem d_X6_copy_188 : decode prog_8_method_78_code 188 = .ok (.iload 6, 2) := by decide +kernel
theorem d_X6_copy_190 : decode prog_8_method_78_code 190 = .ok (.iload 9, 2) := by decide +kernel
theorem d_X6_copy_192 : decode prog_8_method_78_code 192 = .ok (.iadd, 1) := by decide +kernel
theorem d_X6_copy_193 : decode prog_8_method_78_code 193 = .ok (.iaload, 1) := by decide +kernel
theorem d_X6_copy_194 : decode prog_8_method_78_code 194 = .ok (.iastore, 1) := by decide +kernel
theorem d_X6_copy_195 : decode prog_8_method_78_code 195 = .ok (.iinc 8 1, 3) := by decide +kernel
theorem d_X6_copy_198 : decode prog_8_method_78_code 198 = .ok (.goto (-51), 3) := by decide +kernel
theorem d_X6_copy_201 : decode prog_8_method_78_code 201 = .ok (.iload 5, 2) := by decide +kernel
theorem d_X6_copy_203 : decode prog_8_method_78_code 203 = .ok (.ireturn, 1) := by decide +kernel
def lp_X6_copy_147 (κ : it_KK) (x1 : Int32) (x2 : Int32) (x3 : Int32) (x4 : Int32) (x5 : Int32) (k147 : (it_SS → Option (Int32 × it_SS))) : Nat → Int32 → Int32 → Int32 → it_SS → Option (Int32 × it_SS)
  | 0, _, _, _, _ => none
  | n147 + 1, v6, v7, v8, S => if x5 ≤ v8 then
k147  S
else
if v7 ≤ v6 then
if it_bd (v6 + v8) 160 = true then
if it_bd (v7 + v8) 160 = true then
lp_X6_copy_147 κ x1 x2 x3 x4 x5 k147 n147 v6 v7 (v8 + 1) (it_up S 57 ((v7 + v8) : Int32).toNatClampNeg (S 57 ((v6 + v8) : Int32).toNatClampNeg))
else none
else none
else
if it_bd (v6 + ((x5 - 1) - v8)) 160 = true then
if it_bd (v7 + ((x5 - 1) - v8)) 160 = true then
lp_X6_copy_147 κ x1 x2 x3 x4 x5 k147 n147 v6 v7 (v8 + 1) (it_up S 57 ((v7 + ((x5 - 1) - v8)) : Int32).toNatClampNeg (S 57 ((v6 + ((x5 - 1) - v8)) : Int32).toNatClampNeg))
else none
else none
def f_X6_copy (κ : it_KK) (x1 : Int32) (x2 : Int32) (x3 : Int32) (x4 : Int32) (x5 : Int32) (S : it_SS) : Option (Int32 × it_SS) :=
it_bi (f_X6_in κ x1 0 3 S) (fun r2 S1 =>
if r2 = 0 then
some ((-2), S1)
else
it_bi (f_X6_in κ x3 0 3 S1) (fun r5 S4 =>
if r5 = 0 then
some ((-2), S4)
else
if it_bd x1 4 = true then
if (S4 55 (x1 : Int32).toNatClampNeg) = (-1) then
some ((-11), S4)
else
if it_bd x3 4 = true then
if (S4 55 (x3 : Int32).toNatClampNeg) = (-1) then
some ((-11), S4)
else
if (S4 55 (x1 : Int32).toNatClampNeg) = (S4 55 (x3 : Int32).toNatClampNeg) then
if x5 < 0 then
some ((-12), S4)
else
if x2 < 0 then
some ((-12), S4)
else
if x4 < 0 then
some ((-12), S4)
else
if (S4 56 (x1 : Int32).toNatClampNeg) < x2 then
some ((-12), S4)
else
if (S4 56 (x3 : Int32).toNatClampNeg) < x4 then
some ((-12), S4)
else
if ((S4 56 (x1 : Int32).toNatClampNeg) - x2) < x5 then
some ((-12), S4)
else
if x5 ≤ ((S4 56 (x3 : Int32).toNatClampNeg) - x4) then
lp_X6_copy_147 κ x1 x2 x3 x4 x5 (fun  S25 =>
some (x5, S25)) it_FU ((40 * x1) + x2) ((40 * x3) + x4) 0 S4
else
some ((-12), S4)
else
some ((-13), S4)
else none
else none))
set_option maxHeartbeats 4000000 in
set_option maxRecDepth 100000 in
theorem Llp_X6_copy_147 {g : it_G} {l : Launch} {κ : it_KK} {x1 : Int32} {x2 : Int32} {x3 : Int32} {x4 : Int32} {x5 : Int32} (hm : it_wm κ) (hb7 : it_bd x1 4 = true) (hb9 : it_bd x3 4 = true) {P : Int32 → it_SS → Prop} {k147 : (it_SS → Option (Int32 × it_SS))} (hk147 : ∀  (S : it_SS), it_ok (k147  S) P → it_Ev g l 2 it_m_X6_copy 0 0 201 [none, none, none, none, none, some (.int x5), none, none, none, none] [] κ S (it_pi κ P)) : ∀ (n : Nat) (v6 : Int32) (v7 : Int32) (v8 : Int32) (S : it_SS), it_ok (lp_X6_copy_147 κ x1 x2 x3 x4 x5 k147 n v6 v7 v8 S) P → it_Ev g l 2 it_m_X6_copy 0 0 147 [some (.ref 45), none, none, none, none, some (.int x5), some (.int v6), some (.int v7), some (.int v8), none] [] κ S (it_pi κ P) := by
  intro n
  induction n with
  | zero =>
    intro _ _ _ _ h
    exact (it_ok_n h).elim
  | succ n147 ih147 =>
    intro v6 v7 v8 S h
    rw [lp_X6_copy_147] at h
    refine ev_iload d_X6_copy_147 rfl ?_
    refine ev_iload d_X6_copy_149 rfl ?_
    refine ev_icmp_ge (tgt := 201) d_X6_copy_151 (by decide) (fun hc19 => ?_) (fun hc19 => ?_)
    · have h := it_ok_t h hc19
      refine ev_keep [false, false, false, false, false, true, false, false, false, false] ?_
      exact hk147  _ h
    · have h := it_ok_f h hc19
      refine ev_iload d_X6_copy_154 rfl ?_
      refine ev_iload d_X6_copy_156 rfl ?_
      refine ev_icmp_ge (tgt := 171) d_X6_copy_158 (by decide) (fun hc20 => ?_) (fun hc20 => ?_)
      · have h := it_ok_t h hc20
        refine ev_iload d_X6_copy_171 rfl ?_
        refine ev_istore d_X6_copy_173 (by decide) ?_
        show it_Ev g l 2 it_m_X6_copy 0 0 175 [some (.ref 45), none, none, none, none, some (.int x5), some (.int v6), some (.int v7), some (.int v8), some (.int v8)] [] κ S (it_pi κ P)
        refine ev_aload_n d_X6_copy_175 rfl ?_
        refine ev_getRr (r := 57) rfl d_X6_copy_176 fl_IcedTooSoonModel_43 hm.1 rfl ?_
        refine ev_iload d_X6_copy_179 rfl ?_
        refine ev_iload d_X6_copy_181 rfl ?_
        refine ev_iadd d_X6_copy_183 ?_
        refine ev_aload_n d_X6_copy_184 rfl ?_
        refine ev_getRr (r := 57) rfl d_X6_copy_185 fl_IcedTooSoonModel_43 hm.1 rfl ?_
        refine ev_iload d_X6_copy_188 rfl ?_
        refine ev_iload d_X6_copy_190 rfl ?_
        refine ev_iadd d_X6_copy_192 ?_
        obtain ⟨hb21, h⟩ := it_ok_g h
        refine ev_iald d_X6_copy_193 (hm).2.2.2.2.2.2.2.2.2.2.2.2.1 (it_bd_in hb21) ?_
        obtain ⟨hb22, h⟩ := it_ok_g h
        refine ev_iast d_X6_copy_194 (by decide) (hm).2.2.2.2.2.2.2.2.2.2.2.2.1 (it_bd_in hb22) ?_
        refine ev_iinc d_X6_copy_195 kv_iconst_1 rfl (by decide) ?_
        show it_Ev g l 2 it_m_X6_copy 0 0 198 [some (.ref 45), none, none, none, none, some (.int x5), some (.int v6), some (.int v7), some (.int (v8 + 1)), some (.int v8)] [] κ (it_up S 57 ((v7 + v8) : Int32).toNatClampNeg (S 57 ((v6 + v8) : Int32).toNatClampNeg)) (it_pi κ P)
        refine ev_goto (tgt := 147) d_X6_copy_198 (by decide) ?_
        refine ev_keep [true, false, false, false, false, true, true, true, true, false] ?_
        exact ih147 _ _ _ _ h
      · have h := it_ok_f h hc20
        refine ev_iload d_X6_copy_161 rfl ?_
        refine ev_iconst d_X6_copy_163 kv_iconst_1 ?_
        refine ev_isub d_X6_copy_164 ?_
        refine ev_iload d_X6_copy_165 rfl ?_
        refine ev_isub d_X6_copy_167 ?_
        refine ev_goto (tgt := 173) d_X6_copy_168 (by decide) ?_
        refine ev_istore d_X6_copy_173 (by decide) ?_
        show it_Ev g l 2 it_m_X6_copy 0 0 175 [some (.ref 45), none, none, none, none, some (.int x5), some (.int v6), some (.int v7), some (.int v8), some (.int ((x5 - 1) - v8))] [] κ S (it_pi κ P)
        refine ev_aload_n d_X6_copy_175 rfl ?_
        refine ev_getRr (r := 57) rfl d_X6_copy_176 fl_IcedTooSoonModel_43 hm.1 rfl ?_
        refine ev_iload d_X6_copy_179 rfl ?_
        refine ev_iload d_X6_copy_181 rfl ?_
        refine ev_iadd d_X6_copy_183 ?_
        refine ev_aload_n d_X6_copy_184 rfl ?_
        refine ev_getRr (r := 57) rfl d_X6_copy_185 fl_IcedTooSoonModel_43 hm.1 rfl ?_
        refine ev_iload d_X6_copy_188 rfl ?_
        refine ev_iload d_X6_copy_190 rfl ?_
        refine ev_iadd d_X6_copy_192 ?_
        obtain ⟨hb23, h⟩ := it_ok_g h
        refine ev_iald d_X6_copy_193 (hm).2.2.2.2.2.2.2.2.2.2.2.2.1 (it_bd_in hb23) ?_
        obtain ⟨hb24, h⟩ := it_ok_g h
        refine ev_iast d_X6_copy_194 (by decide) (hm).2.2.2.2.2.2.2.2.2.2.2.2.1 (it_bd_in hb24) ?_
        refine ev_iinc d_X6_copy_195 kv_iconst_1 rfl (by decide) ?_
        show it_Ev g l 2 it_m_X6_copy 0 0 198 [some (.ref 45), none, none, none, none, some (.int x5), some (.int v6), some (.int v7), some (.int (v8 + 1)), some (.int ((x5 - 1) - v8))] [] κ (it_up S 57 ((v7 + ((x5 - 1) - v8)) : Int32).toNatClampNeg (S 57 ((v6 + ((x5 - 1) - v8)) : Int32).toNatClampNeg)) (it_pi κ P)
        refine ev_goto (tgt := 147) d_X6_copy_198 (by decide) ?_
        refine ev_keep [true, false, false, false, false, true, true, true, true, false] ?_
        exact ih147 _ _ _ _ h
set_option maxHeartbeats 4000000 in
set_option maxRecDepth 100000 in
theorem L_X6_copy {g : it_G} {l : Launch} {κ : it_KK} {x1 : Int32} {x2 : Int32} {x3 : Int32} {x4 : Int32} {x5 : Int32} (hm : it_wm κ) {S : it_SS} {P : Int32 → it_SS → Prop} (h : it_ok (f_X6_copy κ x1 x2 x3 x4 x5 S) P) : it_Cn g l 2 it_m_X6_copy [.ref 45, .int x1, .int x2, .int x3, .int x4, .int x5] κ S (it_pi κ P) := by
  refine it_Cn.of (by decide +kernel) (Nat.le_of_ble_eq_true rfl) ?_
  rw [f_X6_copy] at h
  show it_Ev g l 2 it_m_X6_copy 0 0 0 [some (.ref 45), some (.int x1), some (.int x2), some (.int x3), some (.int x4), some (.int x5), none, none, none, none] [] κ S (it_pi κ P)
  refine ev_iload_n d_X6_copy_0 rfl ?_
  refine ev_iconst d_X6_copy_1 kv_iconst_0 ?_
  refine ev_iconst d_X6_copy_2 kv_iconst_3 ?_
  refine ev_callS (M' := it_m_X6_in) (d' := 1) (As := [.int x1, .int 0, .int 3]) d_X6_copy_3 ml_IcedTooSoonModel_78 rfl rfl (Nat.le_of_ble_eq_true rfl) (by decide) (by decide) (by decide) (L_X6_in  (it_ok_b h)) (fun _ _ _ _ q => by cases q.1; rfl) ?_
  rintro _ _ S1 ⟨rfl, r2, rfl, h⟩
  show it_Ev g l 2 it_m_X6_copy 0 0 6 [some (.ref 45), some (.int x1), some (.int x2), some (.int x3), some (.int x4), some (.int x5), none, none, none, none] [.int r2] κ S1 (it_pi κ P)
  refine ev_if_eq (tgt := 18) d_X6_copy_6 (by decide) (fun hc3 => ?_) (fun hc3 => ?_)
  · have h := it_ok_t h hc3
    refine ev_bipush d_X6_copy_18 kv_bipush_m2 ?_
    exact ev_ret (v := some (.int _)) ⟨d_X6_copy_20, _, rfl, rfl⟩ (by decide) (by decide) ⟨rfl, _, rfl, it_ok_r h⟩
  · have h := it_ok_f h hc3
    refine ev_iload_n d_X6_copy_9 rfl ?_
    refine ev_iconst d_X6_copy_10 kv_iconst_0 ?_
    refine ev_iconst d_X6_copy_11 kv_iconst_3 ?_
    refine ev_callS (M' := it_m_X6_in) (d' := 1) (As := [.int x3, .int 0, .int 3]) d_X6_copy_12 ml_IcedTooSoonModel_78 rfl rfl (Nat.le_of_ble_eq_true rfl) (by decide) (by decide) (by decide) (L_X6_in  (it_ok_b h)) (fun _ _ _ _ q => by cases q.1; rfl) ?_
    rintro _ _ S4 ⟨rfl, r5, rfl, h⟩
    show it_Ev g l 2 it_m_X6_copy 0 0 15 [some (.ref 45), some (.int x1), some (.int x2), some (.int x3), some (.int x4), some (.int x5), none, none, none, none] [.int r5] κ S4 (it_pi κ P)
    refine ev_if_ne (tgt := 21) d_X6_copy_15 (by decide) (fun hc6 => ?_) (fun hc6 => ?_)
    · have h := it_ok_f h hc6
      refine ev_aload_n d_X6_copy_21 rfl ?_
      refine ev_getRr (r := 55) rfl d_X6_copy_22 fl_IcedTooSoonModel_37 hm.1 rfl ?_
      refine ev_iload_n d_X6_copy_25 rfl ?_
      obtain ⟨hb7, h⟩ := it_ok_g h
      refine ev_iald d_X6_copy_26 (hm).2.2.2.2.2.2.2.2.2.2.1 (it_bd_in hb7) ?_
      refine ev_iconst d_X6_copy_27 kv_iconst_m1 ?_
      refine ev_icmp_eq (tgt := 41) d_X6_copy_28 (by decide) (fun hc8 => ?_) (fun hc8 => ?_)
      · have h := it_ok_t h hc8
        refine ev_bipush d_X6_copy_41 kv_bipush_m11 ?_
        exact ev_ret (v := some (.int _)) ⟨d_X6_copy_43, _, rfl, rfl⟩ (by decide) (by decide) ⟨rfl, _, rfl, it_ok_r h⟩
      · have h := it_ok_f h hc8
        refine ev_aload_n d_X6_copy_31 rfl ?_
        refine ev_getRr (r := 55) rfl d_X6_copy_32 fl_IcedTooSoonModel_37 hm.1 rfl ?_
        refine ev_iload_n d_X6_copy_35 rfl ?_
        obtain ⟨hb9, h⟩ := it_ok_g h
        refine ev_iald d_X6_copy_36 (hm).2.2.2.2.2.2.2.2.2.2.1 (it_bd_in hb9) ?_
        refine ev_iconst d_X6_copy_37 kv_iconst_m1 ?_
        refine ev_icmp_ne (tgt := 44) d_X6_copy_38 (by decide) (fun hc10 => ?_) (fun hc10 => ?_)
        · have h := it_ok_f h hc10
          refine ev_aload_n d_X6_copy_44 rfl ?_
          refine ev_getRr (r := 55) rfl d_X6_copy_45 fl_IcedTooSoonModel_37 hm.1 rfl ?_
          refine ev_iload_n d_X6_copy_48 rfl ?_
          refine ev_iald d_X6_copy_49 (hm).2.2.2.2.2.2.2.2.2.2.1 (it_bd_in hb7) ?_
          refine ev_aload_n d_X6_copy_50 rfl ?_
          refine ev_getRr (r := 55) rfl d_X6_copy_51 fl_IcedTooSoonModel_37 hm.1 rfl ?_
          refine ev_iload_n d_X6_copy_54 rfl ?_
          refine ev_iald d_X6_copy_55 (hm).2.2.2.2.2.2.2.2.2.2.1 (it_bd_in hb9) ?_
          refine ev_icmp_eq (tgt := 62) d_X6_copy_56 (by decide) (fun hc11 => ?_) (fun hc11 => ?_)
          · have h := it_ok_t h hc11
            refine ev_iload d_X6_copy_62 rfl ?_
            refine ev_if_lt (tgt := 124) d_X6_copy_64 (by decide) (fun hc12 => ?_) (fun hc12 => ?_)
            · have h := it_ok_t h hc12
              refine ev_bipush d_X6_copy_124 kv_bipush_m12 ?_
              exact ev_ret (v := some (.int _)) ⟨d_X6_copy_126, _, rfl, rfl⟩ (by decide) (by decide) ⟨rfl, _, rfl, it_ok_r h⟩
            · have h := it_ok_f h hc12
              refine ev_iload_n d_X6_copy_67 rfl ?_
              refine ev_if_lt (tgt := 124) d_X6_copy_68 (by decide) (fun hc13 => ?_) (fun hc13 => ?_)
              · have h := it_ok_t h hc13
                refine ev_bipush d_X6_copy_124 kv_bipush_m12 ?_
                exact ev_ret (v := some (.int _)) ⟨d_X6_copy_126, _, rfl, rfl⟩ (by decide) (by decide) ⟨rfl, _, rfl, it_ok_r h⟩
              · have h := it_ok_f h hc13
                refine ev_iload d_X6_copy_71 rfl ?_
                refine ev_if_lt (tgt := 124) d_X6_copy_73 (by decide) (fun hc14 => ?_) (fun hc14 => ?_)
                · have h := it_ok_t h hc14
                  refine ev_bipush d_X6_copy_124 kv_bipush_m12 ?_
                  exact ev_ret (v := some (.int _)) ⟨d_X6_copy_126, _, rfl, rfl⟩ (by decide) (by decide) ⟨rfl, _, rfl, it_ok_r h⟩
                · have h := it_ok_f h hc14
                  refine ev_iload_n d_X6_copy_76 rfl ?_
                  refine ev_aload_n d_X6_copy_77 rfl ?_
                  refine ev_getRr (r := 56) rfl d_X6_copy_78 fl_IcedTooSoonModel_40 hm.1 rfl ?_
                  refine ev_iload_n d_X6_copy_81 rfl ?_
                  refine ev_iald d_X6_copy_82 (hm).2.2.2.2.2.2.2.2.2.2.2.1 (it_bd_in hb7) ?_
                  refine ev_icmp_gt (tgt := 124) d_X6_copy_83 (by decide) (fun hc15 => ?_) (fun hc15 => ?_)
                  · have h := it_ok_t h hc15
                    refine ev_bipush d_X6_copy_124 kv_bipush_m12 ?_
                    exact ev_ret (v := some (.int _)) ⟨d_X6_copy_126, _, rfl, rfl⟩ (by decide) (by decide) ⟨rfl, _, rfl, it_ok_r h⟩
                  · have h := it_ok_f h hc15
                    refine ev_iload d_X6_copy_86 rfl ?_
                    refine ev_aload_n d_X6_copy_88 rfl ?_
                    refine ev_getRr (r := 56) rfl d_X6_copy_89 fl_IcedTooSoonModel_40 hm.1 rfl ?_
                    refine ev_iload_n d_X6_copy_92 rfl ?_
                    refine ev_iald d_X6_copy_93 (hm).2.2.2.2.2.2.2.2.2.2.2.1 (it_bd_in hb9) ?_
                    refine ev_icmp_gt (tgt := 124) d_X6_copy_94 (by decide) (fun hc16 => ?_) (fun hc16 => ?_)
                    · have h := it_ok_t h hc16
                      refine ev_bipush d_X6_copy_124 kv_bipush_m12 ?_
                      exact ev_ret (v := some (.int _)) ⟨d_X6_copy_126, _, rfl, rfl⟩ (by decide) (by decide) ⟨rfl, _, rfl, it_ok_r h⟩
                    · have h := it_ok_f h hc16
                      refine ev_iload d_X6_copy_97 rfl ?_
                      refine ev_aload_n d_X6_copy_99 rfl ?_
                      refine ev_getRr (r := 56) rfl d_X6_copy_100 fl_IcedTooSoonModel_40 hm.1 rfl ?_
                      refine ev_iload_n d_X6_copy_103 rfl ?_
                      refine ev_iald d_X6_copy_104 (hm).2.2.2.2.2.2.2.2.2.2.2.1 (it_bd_in hb7) ?_
                      refine ev_iload_n d_X6_copy_105 rfl ?_
                      refine ev_isub d_X6_copy_106 ?_
                      refine ev_icmp_gt (tgt := 124) d_X6_copy_107 (by decide) (fun hc17 => ?_) (fun hc17 => ?_)
                      · have h := it_ok_t h hc17
                        refine ev_bipush d_X6_copy_124 kv_bipush_m12 ?_
                        exact ev_ret (v := some (.int _)) ⟨d_X6_copy_126, _, rfl, rfl⟩ (by decide) (by decide) ⟨rfl, _, rfl, it_ok_r h⟩
                      · have h := it_ok_f h hc17
                        refine ev_iload d_X6_copy_110 rfl ?_
                        refine ev_aload_n d_X6_copy_112 rfl ?_
                        refine ev_getRr (r := 56) rfl d_X6_copy_113 fl_IcedTooSoonModel_40 hm.1 rfl ?_
                        refine ev_iload_n d_X6_copy_116 rfl ?_
                        refine ev_iald d_X6_copy_117 (hm).2.2.2.2.2.2.2.2.2.2.2.1 (it_bd_in hb9) ?_
                        refine ev_iload d_X6_copy_118 rfl ?_
                        refine ev_isub d_X6_copy_120 ?_
                        refine ev_icmp_le (tgt := 127) d_X6_copy_121 (by decide) (fun hc18 => ?_) (fun hc18 => ?_)
                        · have h := it_ok_t h hc18
                          refine ev_bipush d_X6_copy_127 kv_bipush_40 ?_
                          refine ev_iload_n d_X6_copy_129 rfl ?_
                          refine ev_imul d_X6_copy_130 ?_
                          refine ev_iload_n d_X6_copy_131 rfl ?_
                          refine ev_iadd d_X6_copy_132 ?_
                          refine ev_istore d_X6_copy_133 (by decide) ?_
                          show it_Ev g l 2 it_m_X6_copy 0 0 135 [some (.ref 45), some (.int x1), some (.int x2), some (.int x3), some (.int x4), some (.int x5), some (.int ((40 * x1) + x2)), none, none, none] [] κ S4 (it_pi κ P)
                          refine ev_bipush d_X6_copy_135 kv_bipush_40 ?_
                          refine ev_iload_n d_X6_copy_137 rfl ?_
                          refine ev_imul d_X6_copy_138 ?_
                          refine ev_iload d_X6_copy_139 rfl ?_
                          refine ev_iadd d_X6_copy_141 ?_
                          refine ev_istore d_X6_copy_142 (by decide) ?_
                          show it_Ev g l 2 it_m_X6_copy 0 0 144 [some (.ref 45), some (.int x1), some (.int x2), some (.int x3), some (.int x4), some (.int x5), some (.int ((40 * x1) + x2)), some (.int ((40 * x3) + x4)), none, none] [] κ S4 (it_pi κ P)
                          refine ev_iconst d_X6_copy_144 kv_iconst_0 ?_
                          refine ev_istore d_X6_copy_145 (by decide) ?_
                          show it_Ev g l 2 it_m_X6_copy 0 0 147 [some (.ref 45), some (.int x1), some (.int x2), some (.int x3), some (.int x4), some (.int x5), some (.int ((40 * x1) + x2)), some (.int ((40 * x3) + x4)), some (.int 0), none] [] κ S4 (it_pi κ P)
                          refine ev_keep [true, false, false, false, false, true, true, true, true, false] ?_
                          refine Llp_X6_copy_147 hm hb7 hb9 (fun  S25 h => ?_) _ _ _ _ _ h
                          show it_Ev g l 2 it_m_X6_copy 0 0 201 [none, none, none, none, none, some (.int x5), none, none, none, none] [] κ S25 (it_pi κ P)
                          refine ev_iload d_X6_copy_201 rfl ?_
                          exact ev_ret (v := some (.int _)) ⟨d_X6_copy_203, _, rfl, rfl⟩ (by decide) (by decide) ⟨rfl, _, rfl, it_ok_r h⟩
                        · have h := it_ok_f h hc18
                          refine ev_bipush d_X6_copy_124 kv_bipush_m12 ?_
                          exact ev_ret (v := some (.int _)) ⟨d_X6_copy_126, _, rfl, rfl⟩ (by decide) (by decide) ⟨rfl, _, rfl, it_ok_r h⟩
          · have h := it_ok_f h hc11
            refine ev_bipush d_X6_copy_59 kv_bipush_m13 ?_
            exact ev_ret (v := some (.int _)) ⟨d_X6_copy_61, _, rfl, rfl⟩ (by decide) (by decide) ⟨rfl, _, rfl, it_ok_r h⟩
        · have h := it_ok_t h hc10
          refine ev_bipush d_X6_copy_41 kv_bipush_m11 ?_
          exact ev_ret (v := some (.int _)) ⟨d_X6_copy_43, _, rfl, rfl⟩ (by decide) (by decide) ⟨rfl, _, rfl, it_ok_r h⟩
    · have h := it_ok_t h hc6
      refine ev_bipush d_X6_copy_18 kv_bipush_m2 ?_
      exact ev_ret (v := some (.int _)) ⟨d_X6_copy_20, _, rfl, rfl⟩ (by decide) (by decide) ⟨rfl, _, rfl, it_ok_r h⟩
theorem d_X6_guestsBy_0 : decode prog_8_method_79_code 0 = .ok (.iload_n 1, 1) := by decide +kernel
theorem d_X6_guestsBy_1 : decode prog_8_method_79_code 1 = .ok (.iconst 0, 1) := by decide +kernel
theorem d_X6_guestsBy_2 : decode prog_8_method_79_code 2 = .ok (.iconst 3, 1) := by decide +kernel
theorem d_X6_guestsBy_3 : decode prog_8_method_79_code 3 = .ok (.invokestatic 78, 3) := by decide +kernel
theorem d_X6_guestsBy_6 : decode prog_8_method_79_code 6 = .ok (.ifCond .eq 23, 3) := by decide +kernel
theorem d_X6_guestsBy_9 : decode prog_8_method_79_code 9 = .ok (.iload_n 2, 1) := by decide +kernel
theorem d_X6_guestsBy_10 : decode prog_8_method_79_code 10 = .ok (.iconst 0, 1) := by decide +kernel
theorem d_X6_guestsBy_11 : decode prog_8_method_79_code 11 = .ok (.iconst 2, 1) := by decide +kernel
theorem d_X6_guestsBy_12 : decode prog_8_method_79_code 12 = .ok (.invokestatic 78, 3) := by decide +kernel
theorem d_X6_guestsBy_15 : decode prog_8_method_79_code 15 = .ok (.ifCond .eq 14, 3) := by decide +kernel
theorem d_X6_guestsBy_18 : decode prog_8_method_79_code 18 = .ok (.iload 4, 2) := by decide +kernel
theorem d_X6_guestsBy_20 : decode prog_8_method_79_code 20 = .ok (.iconst 0, 1) := by decide +kernel
theorem d_X6_guestsBy_21 : decode prog_8_method_79_code 21 = .ok (.bipush 6, 2) := by decide +kernel
theorem d_X6_guestsBy_23 : decode prog_8_method_79_code 23 = .ok (.invokestatic 78, 3) := by decide +kernel
theorem d_X6_guestsBy_26 : decode prog_8_method_79_code 26 = .ok (.ifCond .ne 6, 3) := by decide +kernel
theorem d_X6_guestsBy_29 : decode prog_8_method_79_code 29 = .ok (.bipush (-2), 2) := by decide +kernel
theorem d_X6_guestsBy_31 : decode prog_8_method_79_code 31 = .ok (.ireturn, 1) := by decide +kernel
theorem d_X6_guestsBy_32 : decode prog_8_method_79_code 32 = .ok (.aload_n 0, 1) := by decide +kernel
theorem d_X6_guestsBy_33 : decode prog_8_method_79_code 33 = .ok (.getfield 37, 3) := by decide +kernel
theorem d_X6_guestsBy_36 : decode prog_8_method_79_code 36 = .ok (.iload_n 1, 1) := by decide +kernel
theorem d_X6_guestsBy_37 : decode prog_8_method_79_code 37 = .ok (.iaload, 1) := by decide +kernel
theorem d_X6_guestsBy_38 : decode prog_8_method_79_code 38 = .ok (.iconst (-1), 1) := by decide +kernel
theorem d_X6_guestsBy_39 : decode prog_8_method_79_code 39 = .ok (.if_icmp .ne 6, 3) := by decide +kernel
theorem d_X6_guestsBy_42 : decode prog_8_method_79_code 42 = .ok (.bipush (-11), 2) := by decide +kernel
theorem d_X6_guestsBy_44 : decode prog_8_method_79_code 44 = .ok (.ireturn, 1) := by decide +kernel
theorem d_X6_guestsBy_45 : decode prog_8_method_79_code 45 = .ok (.aload_n 0, 1) := by decide +kernel
theorem d_X6_guestsBy_46 : decode prog_8_method_79_code 46 = .ok (.getfield 37, 3) := by decide +kernel
theorem d_X6_guestsBy_49 : decode prog_8_method_79_code 49 = .ok (.iload_n 1, 1) := by decide +kernel
theorem d_X6_guestsBy_50 : decode prog_8_method_79_code 50 = .ok (.iaload, 1) := by decide +kernel
theorem d_X6_guestsBy_51 : decode prog_8_method_79_code 51 = .ok (.iload_n 2, 1) := by decide +kernel
theorem d_X6_guestsBy_52 : decode prog_8_method_79_code 52 = .ok (.if_icmp .eq 6, 3) := by decide +kernel
theorem d_X6_guestsBy_55 : decode prog_8_method_79_code 55 = .ok (.bipush (-13), 2) := by decide +kernel
theorem d_X6_guestsBy_57 : decode prog_8_method_79_code 57 = .ok (.ireturn, 1) := by decide +kernel
theorem d_X6_guestsBy_58 : decode prog_8_method_79_code 58 = .ok (.iconst 0, 1) := by decide +kernel
theorem d_X6_guestsBy_59 : decode prog_8_method_79_code 59 = .ok (.istore 5, 2) := by decide +kernel
theorem d_X6_guestsBy_61 : decode prog_8_method_79_code 61 = .ok (.iconst 0, 1) := by decide +kernel
theorem d_X6_guestsBy_62 : decode prog_8_method_79_code 62 = .ok (.istore 6, 2) := by decide +kernel
theorem d_X6_guestsBy_64 : decode prog_8_method_79_code 64 = .ok (.iload 6, 2) := by decide +kernel
theorem d_X6_guestsBy_66 : decode prog_8_method_79_code 66 = .ok (.iload 4, 2) := by decide +kernel
theorem d_X6_guestsBy_68 : decode prog_8_method_79_code 68 = .ok (.if_icmp .ge 85, 3) := by decide +kernel
theorem d_X6_guestsBy_71 : decode prog_8_method_79_code 71 = .ok (.iload_n 3, 1) := by decide +kernel
theorem d_X6_guestsBy_72 : decode prog_8_method_79_code 72 = .ok (.iconst 2, 1) := by decide +kernel
theorem d_X6_guestsBy_73 : decode prog_8_method_79_code 73 = .ok (.iload 6, 2) := by decide +kernel
theorem d_X6_guestsBy_75 : decode prog_8_method_79_code 75 = .ok (.imul, 1) := by decide +kernel
theorem d_X6_guestsBy_76 : decode prog_8_method_79_code 76 = .ok (.iadd, 1) := by decide +kernel
theorem d_X6_guestsBy_77 : decode prog_8_method_79_code 77 = .ok (.istore 7, 2) := by decide +kernel
theorem d_X6_guestsBy_79 : decode prog_8_method_79_code 79 = .ok (.iload_n 3, 1) := by decide +kernel
theorem d_X6_guestsBy_80 : decode prog_8_method_79_code 80 = .ok (.ifCond .lt 22, 3) := by decide +kernel
theorem d_X6_guestsBy_83 : decode prog_8_method_79_code 83 = .ok (.iload 7, 2) := by decide +kernel
theorem d_X6_guestsBy_85 : decode prog_8_method_79_code 85 = .ok (.iload_n 3, 1) := by decide +kernel
theorem d_X6_guestsBy_86 : decode prog_8_method_79_code 86 = .ok (.if_icmp .lt 16, 3) := by decide +kernel
theorem d_X6_guestsBy_89 : decode prog_8_method_79_code 89 = .ok (.iload 7, 2) := by decide +kernel
theorem d_X6_guestsBy_91 : decode prog_8_method_79_code 91 = .ok (.aload_n 0, 1) := by decide +kernel
theorem d_X6_guestsBy_92 : decode prog_8_method_79_code 92 = .ok (.getfield 40, 3) := by decide +kernel
theorem d_X6_guestsBy_95 : decode prog_8_method_79_code 95 = .ok (.iload_n 1, 1) := by decide +kernel
theorem d_X6_guestsBy_96 : decode prog_8_method_79_code 96 = .ok (.iaload, 1) := by decide +kernel
theorem d_X6_guestsBy_97 : decode prog_8_method_79_code 97 = .ok (.iconst 2, 1) := by decide +kernel
theorem d_X6_guestsBy_98 : decode prog_8_method_79_code 98 = .ok (.isub, 1) := by decide +kernel
theorem d_X6_guestsBy_99 : decode prog_8_method_79_code 99 = .ok (.if_icmp .le 6, 3) := by decide +kernel
theorem d_X6_guestsBy_102 : decode prog_8_method_79_code 102 = .ok (.bipush (-12), 2) := by decide +kernel
theorem d_X6_guestsBy_104 : decode prog_8_method_79_code 104 = .ok (.ireturn, 1) := by decide +kernel
theorem d_X6_guestsBy_105 : decode prog_8_method_79_code 105 = .ok (.bipush 40, 2) := by decide +kernel
theorem d_X6_guestsBy_107 : decode prog_8_method_79_code 107 = .ok (.iload_n 1, 1) := by decide +kernel
theorem d_X6_guestsBy_108 : decode prog_8_method_79_code 108 = .ok (.imul, 1) := by decide +kernel
theorem d_X6_guestsBy_109 : decode prog_8_method_79_code 109 = .ok (.iload 7, 2) := by decide +kernel
theorem d_X6_guestsBy_111 : decode prog_8_method_79_code 111 = .ok (.iadd, 1) := by decide +kernel
theorem d_X6_guestsBy_112 : decode prog_8_method_79_code 112 = .ok (.istore 8, 2) := by decide +kernel
theorem d_X6_guestsBy_114 : decode prog_8_method_79_code 114 = .ok (.iload 5, 2) := by decide +kernel
theorem d_X6_guestsBy_116 : decode prog_8_method_79_code 116 = .ok (.aload_n 0, 1) := by decide +kernel
theorem d_X6_guestsBy_117 : decode prog_8_method_79_code 117 = .ok (.aload_n 0, 1) := by decide +kernel
theorem d_X6_guestsBy_118 : decode prog_8_method_79_code 118 = .ok (.getfield 43, 3) := by decide +kernel
theorem d_X6_guestsBy_121 : decode prog_8_method_79_code 121 = .ok (.iload 8, 2) := by decide +kernel
theorem d_X6_guestsBy_123 : decode prog_8_method_79_code 123 = .ok (.iaload, 1) := by decide +kernel
theorem d_X6_guestsBy_124 : decode prog_8_method_79_code 124 = .ok (.aload_n 0, 1) := by decide +kernel
theorem d_X6_guestsBy_125 : decode prog_8_method_79_code 125 = .ok (.getfield 43, 3) := by decide +kernel
theorem d_X6_guestsBy_128 : decode prog_8_method_79_code 128 = .ok (.iload 8, 2) := by decide +kernel
theorem d_X6_guestsBy_130 : decode prog_8_method_79_code 130 = .ok (.iconst 1, 1) := by decide +kernel
theorem d_X6_guestsBy_131 : decode prog_8_method_79_code 131 = .ok (.iadd, 1) := by decide +kernel
theorem d_X6_guestsBy_132 : decode prog_8_method_79_code 132 = .ok (.iaload, 1) := by decide +kernel
theorem d_X6_guestsBy_133 : decode prog_8_method_79_code 133 = .ok (.invokevirtual 261, 3) := by decide +kernel
theorem d_X6_guestsBy_136 : decode prog_8_method_79_code 136 = .ok (.ifCond .lt 7, 3) := by decide +kernel
theorem d_X6_guestsBy_139 : decode prog_8_method_79_code 139 = .ok (.iconst 1, 1) := by decide +kernel
theorem d_X6_guestsBy_140 : decode prog_8_method_79_code 140 = .ok (.goto 4, 3) := by decide +kernel
theorem d_X6_guestsBy_143 : decode prog_8_method_79_code 143 = .ok (.iconst 0, 1) := by decide +kernel
theorem d_X6_guestsBy_144 : decode prog_8_method_79_code 144 = .ok (.iadd, 1) := by decide +kernel
theorem d_X6_guestsBy_145 : decode prog_8_method_79_code 145 = .ok (.istore 5, 2) := by decide +kernel
theorem d_X6_guestsBy_147 : decode prog_8_method_79_code 147 = .ok (.iinc 6 1, 3) := by decide +kernel
theorem d_X6_guestsBy_150 : decode prog_8_method_79_code 150 = .ok (.goto (-86), 3) := by decide +kernel
theorem d_X6_guestsBy_153 : decode prog_8_method_79_code 153 = .ok (.iload 5, 2) := by decide +kernel
theorem d_X6_guestsBy_155 : decode prog_8_method_79_code 155 = .ok (.ireturn, 1) := by decide +kernel
def lp_X6_guestsBy_64 (κ : it_KK) (x1 : Int32) (x2 : Int32) (x3 : Int32) (x4 : Int32) (k64 : (Int32 → it_SS → Option (Int32 × it_SS))) : Nat → Int32 → Int32 → it_SS → Option (Int32 × it_SS)
  | 0, _, _, _ => none
  | n64 + 1, v5, v6, S => if x4 ≤ v6 then
k64 v5 S
else
if x3 < 0 then
some ((-12), S)
else
if (x3 + (2 * v6)) < x3 then
some ((-12), S)
else
if (x3 + (2 * v6)) ≤ ((S 56 (x1 : Int32).toNatClampNeg) - 2) then
if it_bd ((40 * x1) + (x3 + (2 * v6))) 160 = true then
if it_bd (((40 * x1) + (x3 + (2 * v6))) + 1) 160 = true then
it_bi (f_X6_guest κ (S 57 (((40 * x1) + (x3 + (2 * v6))) : Int32).toNatClampNeg) (S 57 ((((40 * x1) + (x3 + (2 * v6))) + 1) : Int32).toNatClampNeg) S) (fun r20 S19 =>
if r20 < 0 then
lp_X6_guestsBy_64 κ x1 x2 x3 x4 k64 n64 (v5 + 0) (v6 + 1) S19
else
lp_X6_guestsBy_64 κ x1 x2 x3 x4 k64 n64 (v5 + 1) (v6 + 1) S19)
else none
else none
else
some ((-12), S)
def f_X6_guestsBy (κ : it_KK) (x1 : Int32) (x2 : Int32) (x3 : Int32) (x4 : Int32) (S : it_SS) : Option (Int32 × it_SS) :=
it_bi (f_X6_in κ x1 0 3 S) (fun r2 S1 =>
if r2 = 0 then
some ((-2), S1)
else
it_bi (f_X6_in κ x2 0 2 S1) (fun r5 S4 =>
if r5 = 0 then
some ((-2), S4)
else
it_bi (f_X6_in κ x4 0 6 S4) (fun r8 S7 =>
if r8 = 0 then
some ((-2), S7)
else
if it_bd x1 4 = true then
if (S7 55 (x1 : Int32).toNatClampNeg) = (-1) then
some ((-11), S7)
else
if (S7 55 (x1 : Int32).toNatClampNeg) = x2 then
lp_X6_guestsBy_64 κ x1 x2 x3 x4 (fun v22 S23 =>
some (v22, S23)) it_FU 0 0 S7
else
some ((-13), S7)
else none)))
set_option maxHeartbeats 4000000 in
set_option maxRecDepth 100000 in
theorem Llp_X6_guestsBy_64 {g : it_G} {l : Launch} {κ : it_KK} {x1 : Int32} {x2 : Int32} {x3 : Int32} {x4 : Int32} (hm : it_wm κ) (hb10 : it_bd x1 4 = true) {P : Int32 → it_SS → Prop} {k64 : (Int32 → it_SS → Option (Int32 × it_SS))} (hk64 : ∀ (v5 : Int32) (S : it_SS), it_ok (k64 v5 S) P → it_Ev g l 3 it_m_X6_guestsBy 0 0 153 [none, none, none, none, none, some (.int v5), none, none, none] [] κ S (it_pi κ P)) : ∀ (n : Nat) (v5 : Int32) (v6 : Int32) (S : it_SS), it_ok (lp_X6_guestsBy_64 κ x1 x2 x3 x4 k64 n v5 v6 S) P → it_Ev g l 3 it_m_X6_guestsBy 0 0 64 [some (.ref 45), some (.int x1), none, some (.int x3), some (.int x4), some (.int v5), some (.int v6), none, none] [] κ S (it_pi κ P) := by
  intro n
  induction n with
  | zero =>
    intro _ _ _ h
    exact (it_ok_n h).elim
  | succ n64 ih64 =>
    intro v5 v6 S h
    rw [lp_X6_guestsBy_64] at h
    refine ev_iload d_X6_guestsBy_64 rfl ?_
    refine ev_iload d_X6_guestsBy_66 rfl ?_
    refine ev_icmp_ge (tgt := 153) d_X6_guestsBy_68 (by decide) (fun hc13 => ?_) (fun hc13 => ?_)
    · have h := it_ok_t h hc13
      refine ev_keep [false, false, false, false, false, true, false, false, false] ?_
      exact hk64 _ _ h
    · have h := it_ok_f h hc13
      refine ev_iload_n d_X6_guestsBy_71 rfl ?_
      refine ev_iconst d_X6_guestsBy_72 kv_iconst_2 ?_
      refine ev_iload d_X6_guestsBy_73 rfl ?_
      refine ev_imul d_X6_guestsBy_75 ?_
      refine ev_iadd d_X6_guestsBy_76 ?_
      refine ev_istore d_X6_guestsBy_77 (by decide) ?_
      show it_Ev g l 3 it_m_X6_guestsBy 0 0 79 [some (.ref 45), some (.int x1), none, some (.int x3), some (.int x4), some (.int v5), some (.int v6), some (.int (x3 + (2 * v6))), none] [] κ S (it_pi κ P)
      refine ev_iload_n d_X6_guestsBy_79 rfl ?_
      refine ev_if_lt (tgt := 102) d_X6_guestsBy_80 (by decide) (fun hc14 => ?_) (fun hc14 => ?_)
      · have h := it_ok_t h hc14
        refine ev_bipush d_X6_guestsBy_102 kv_bipush_m12 ?_
        exact ev_ret (v := some (.int _)) ⟨d_X6_guestsBy_104, _, rfl, rfl⟩ (by decide) (by decide) ⟨rfl, _, rfl, it_ok_r h⟩
      · have h := it_ok_f h hc14
        refine ev_iload d_X6_guestsBy_83 rfl ?_
        refine ev_iload_n d_X6_guestsBy_85 rfl ?_
        refine ev_icmp_lt (tgt := 102) d_X6_guestsBy_86 (by decide) (fun hc15 => ?_) (fun hc15 => ?_)
        · have h := it_ok_t h hc15
          refine ev_bipush d_X6_guestsBy_102 kv_bipush_m12 ?_
          exact ev_ret (v := some (.int _)) ⟨d_X6_guestsBy_104, _, rfl, rfl⟩ (by decide) (by decide) ⟨rfl, _, rfl, it_ok_r h⟩
        · have h := it_ok_f h hc15
          refine ev_iload d_X6_guestsBy_89 rfl ?_
          refine ev_aload_n d_X6_guestsBy_91 rfl ?_
          refine ev_getRr (r := 56) rfl d_X6_guestsBy_92 fl_IcedTooSoonModel_40 hm.1 rfl ?_
          refine ev_iload_n d_X6_guestsBy_95 rfl ?_
          refine ev_iald d_X6_guestsBy_96 (hm).2.2.2.2.2.2.2.2.2.2.2.1 (it_bd_in hb10) ?_
          refine ev_iconst d_X6_guestsBy_97 kv_iconst_2 ?_
          refine ev_isub d_X6_guestsBy_98 ?_
          refine ev_icmp_le (tgt := 105) d_X6_guestsBy_99 (by decide) (fun hc16 => ?_) (fun hc16 => ?_)
          · have h := it_ok_t h hc16
            refine ev_bipush d_X6_guestsBy_105 kv_bipush_40 ?_
            refine ev_iload_n d_X6_guestsBy_107 rfl ?_
            refine ev_imul d_X6_guestsBy_108 ?_
            refine ev_iload d_X6_guestsBy_109 rfl ?_
            refine ev_iadd d_X6_guestsBy_111 ?_
            refine ev_istore d_X6_guestsBy_112 (by decide) ?_
            show it_Ev g l 3 it_m_X6_guestsBy 0 0 114 [some (.ref 45), some (.int x1), none, some (.int x3), some (.int x4), some (.int v5), some (.int v6), some (.int (x3 + (2 * v6))), some (.int ((40 * x1) + (x3 + (2 * v6))))] [] κ S (it_pi κ P)
            refine ev_iload d_X6_guestsBy_114 rfl ?_
            refine ev_aload_n d_X6_guestsBy_116 rfl ?_
            refine ev_aload_n d_X6_guestsBy_117 rfl ?_
            refine ev_getRr (r := 57) rfl d_X6_guestsBy_118 fl_IcedTooSoonModel_43 hm.1 rfl ?_
            refine ev_iload d_X6_guestsBy_121 rfl ?_
            obtain ⟨hb17, h⟩ := it_ok_g h
            refine ev_iald d_X6_guestsBy_123 (hm).2.2.2.2.2.2.2.2.2.2.2.2.1 (it_bd_in hb17) ?_
            refine ev_aload_n d_X6_guestsBy_124 rfl ?_
            refine ev_getRr (r := 57) rfl d_X6_guestsBy_125 fl_IcedTooSoonModel_43 hm.1 rfl ?_
            refine ev_iload d_X6_guestsBy_128 rfl ?_
            refine ev_iconst d_X6_guestsBy_130 kv_iconst_1 ?_
            refine ev_iadd d_X6_guestsBy_131 ?_
            obtain ⟨hb18, h⟩ := it_ok_g h
            refine ev_iald d_X6_guestsBy_132 (hm).2.2.2.2.2.2.2.2.2.2.2.2.1 (it_bd_in hb18) ?_
            refine ev_callV (ci := 6) (b := 45) (M' := it_m_X6_guest) (d' := 2) (As := [.int (S 57 (((40 * x1) + (x3 + (2 * v6))) : Int32).toNatClampNeg), .int (S 57 ((((40 * x1) + (x3 + (2 * v6))) + 1) : Int32).toNatClampNeg)]) d_X6_guestsBy_133 ml_IcedTooSoonModel_261 hm.1.1 hm.1.2.1 ⟨_, rfl, rfl⟩ rfl rfl (Nat.le_of_ble_eq_true rfl) (by decide) (by decide) (by decide) (L_X6_guest hm (it_ok_b h)) (fun _ _ _ _ q => by cases q.1; rfl) ?_
            rintro _ _ S19 ⟨rfl, r20, rfl, h⟩
            show it_Ev g l 3 it_m_X6_guestsBy 0 0 136 [some (.ref 45), some (.int x1), none, some (.int x3), some (.int x4), some (.int v5), some (.int v6), some (.int (x3 + (2 * v6))), some (.int ((40 * x1) + (x3 + (2 * v6))))] [.int r20, .int v5] κ S19 (it_pi κ P)
            refine ev_if_lt (tgt := 143) d_X6_guestsBy_136 (by decide) (fun hc21 => ?_) (fun hc21 => ?_)
            · have h := it_ok_t h hc21
              refine ev_iconst d_X6_guestsBy_143 kv_iconst_0 ?_
              refine ev_iadd d_X6_guestsBy_144 ?_
              refine ev_istore d_X6_guestsBy_145 (by decide) ?_
              show it_Ev g l 3 it_m_X6_guestsBy 0 0 147 [some (.ref 45), some (.int x1), none, some (.int x3), some (.int x4), some (.int (v5 + 0)), some (.int v6), some (.int (x3 + (2 * v6))), some (.int ((40 * x1) + (x3 + (2 * v6))))] [] κ S19 (it_pi κ P)
              refine ev_iinc d_X6_guestsBy_147 kv_iconst_1 rfl (by decide) ?_
              show it_Ev g l 3 it_m_X6_guestsBy 0 0 150 [some (.ref 45), some (.int x1), none, some (.int x3), some (.int x4), some (.int (v5 + 0)), some (.int (v6 + 1)), some (.int (x3 + (2 * v6))), some (.int ((40 * x1) + (x3 + (2 * v6))))] [] κ S19 (it_pi κ P)
              refine ev_goto (tgt := 64) d_X6_guestsBy_150 (by decide) ?_
              refine ev_keep [true, true, false, true, true, true, true, false, false] ?_
              exact ih64 _ _ _ h
            · have h := it_ok_f h hc21
              refine ev_iconst d_X6_guestsBy_139 kv_iconst_1 ?_
              refine ev_goto (tgt := 144) d_X6_guestsBy_140 (by decide) ?_
              refine ev_iadd d_X6_guestsBy_144 ?_
              refine ev_istore d_X6_guestsBy_145 (by decide) ?_
              show it_Ev g l 3 it_m_X6_guestsBy 0 0 147 [some (.ref 45), some (.int x1), none, some (.int x3), some (.int x4), some (.int (v5 + 1)), some (.int v6), some (.int (x3 + (2 * v6))), some (.int ((40 * x1) + (x3 + (2 * v6))))] [] κ S19 (it_pi κ P)
              refine ev_iinc d_X6_guestsBy_147 kv_iconst_1 rfl (by decide) ?_
              show it_Ev g l 3 it_m_X6_guestsBy 0 0 150 [some (.ref 45), some (.int x1), none, some (.int x3), some (.int x4), some (.int (v5 + 1)), some (.int (v6 + 1)), some (.int (x3 + (2 * v6))), some (.int ((40 * x1) + (x3 + (2 * v6))))] [] κ S19 (it_pi κ P)
              refine ev_goto (tgt := 64) d_X6_guestsBy_150 (by decide) ?_
              refine ev_keep [true, true, false, true, true, true, true, false, false] ?_
              exact ih64 _ _ _ h
          · have h := it_ok_f h hc16
            refine ev_bipush d_X6_guestsBy_102 kv_bipush_m12 ?_
            exact ev_ret (v := some (.int _)) ⟨d_X6_guestsBy_104, _, rfl, rfl⟩ (by decide) (by decide) ⟨rfl, _, rfl, it_ok_r h⟩
set_option maxHeartbeats 4000000 in
set_option maxRecDepth 100000 in
theorem L_X6_guestsBy {g : it_G} {l : Launch} {κ : it_KK} {x1 : Int32} {x2 : Int32} {x3 : Int32} {x4 : Int32} (hm : it_wm κ) {S : it_SS} {P : Int32 → it_SS → Prop} (h : it_ok (f_X6_guestsBy κ x1 x2 x3 x4 S) P) : it_Cn g l 3 it_m_X6_guestsBy [.ref 45, .int x1, .int x2, .int x3, .int x4] κ S (it_pi κ P) := by
  refine it_Cn.of (by decide +kernel) (Nat.le_of_ble_eq_true rfl) ?_
  rw [f_X6_guestsBy] at h
  show it_Ev g l 3 it_m_X6_guestsBy 0 0 0 [some (.ref 45), some (.int x1), some (.int x2), some (.int x3), some (.int x4), none, none, none, none] [] κ S (it_pi κ P)
  refine ev_iload_n d_X6_guestsBy_0 rfl ?_
  refine ev_iconst d_X6_guestsBy_1 kv_iconst_0 ?_
  refine ev_iconst d_X6_guestsBy_2 kv_iconst_3 ?_
  refine ev_callS (M' := it_m_X6_in) (d' := 1) (As := [.int x1, .int 0, .int 3]) d_X6_guestsBy_3 ml_IcedTooSoonModel_78 rfl rfl (Nat.le_of_ble_eq_true rfl) (by decide) (by decide) (by decide) (L_X6_in  (it_ok_b h)) (fun _ _ _ _ q => by cases q.1; rfl) ?_
  rintro _ _ S1 ⟨rfl, r2, rfl, h⟩
  show it_Ev g l 3 it_m_X6_guestsBy 0 0 6 [some (.ref 45), some (.int x1), some (.int x2), some (.int x3), some (.int x4), none, none, none, none] [.int r2] κ S1 (it_pi κ P)
  refine ev_if_eq (tgt := 29) d_X6_guestsBy_6 (by decide) (fun hc3 => ?_) (fun hc3 => ?_)
  · have h := it_ok_t h hc3
    refine ev_bipush d_X6_guestsBy_29 kv_bipush_m2 ?_
    exact ev_ret (v := some (.int _)) ⟨d_X6_guestsBy_31, _, rfl, rfl⟩ (by decide) (by decide) ⟨rfl, _, rfl, it_ok_r h⟩
  · have h := it_ok_f h hc3
    refine ev_iload_n d_X6_guestsBy_9 rfl ?_
    refine ev_iconst d_X6_guestsBy_10 kv_iconst_0 ?_
    refine ev_iconst d_X6_guestsBy_11 kv_iconst_2 ?_
    refine ev_callS (M' := it_m_X6_in) (d' := 1) (As := [.int x2, .int 0, .int 2]) d_X6_guestsBy_12 ml_IcedTooSoonModel_78 rfl rfl (Nat.le_of_ble_eq_true rfl) (by decide) (by decide) (by decide) (L_X6_in  (it_ok_b h)) (fun _ _ _ _ q => by cases q.1; rfl) ?_
    rintro _ _ S4 ⟨rfl, r5, rfl, h⟩
    show it_Ev g l 3 it_m_X6_guestsBy 0 0 15 [some (.ref 45), some (.int x1), some (.int x2), some (.int x3), some (.int x4), none, none, none, none] [.int r5] κ S4 (it_pi κ P)
    refine ev_if_eq (tgt := 29) d_X6_guestsBy_15 (by decide) (fun hc6 => ?_) (fun hc6 => ?_)
    · have h := it_ok_t h hc6
      refine ev_bipush d_X6_guestsBy_29 kv_bipush_m2 ?_
      exact ev_ret (v := some (.int _)) ⟨d_X6_guestsBy_31, _, rfl, rfl⟩ (by decide) (by decide) ⟨rfl, _, rfl, it_ok_r h⟩
    · have h := it_ok_f h hc6
      refine ev_iload d_X6_guestsBy_18 rfl ?_
      refine ev_iconst d_X6_guestsBy_20 kv_iconst_0 ?_
      refine ev_bipush d_X6_guestsBy_21 kv_bipush_6 ?_
      refine ev_callS (M' := it_m_X6_in) (d' := 1) (As := [.int x4, .int 0, .int 6]) d_X6_guestsBy_23 ml_IcedTooSoonModel_78 rfl rfl (Nat.le_of_ble_eq_true rfl) (by decide) (by decide) (by decide) (L_X6_in  (it_ok_b h)) (fun _ _ _ _ q => by cases q.1; rfl) ?_
      rintro _ _ S7 ⟨rfl, r8, rfl, h⟩
      show it_Ev g l 3 it_m_X6_guestsBy 0 0 26 [some (.ref 45), some (.int x1), some (.int x2), some (.int x3), some (.int x4), none, none, none, none] [.int r8] κ S7 (it_pi κ P)
      refine ev_if_ne (tgt := 32) d_X6_guestsBy_26 (by decide) (fun hc9 => ?_) (fun hc9 => ?_)
      · have h := it_ok_f h hc9
        refine ev_aload_n d_X6_guestsBy_32 rfl ?_
        refine ev_getRr (r := 55) rfl d_X6_guestsBy_33 fl_IcedTooSoonModel_37 hm.1 rfl ?_
        refine ev_iload_n d_X6_guestsBy_36 rfl ?_
        obtain ⟨hb10, h⟩ := it_ok_g h
        refine ev_iald d_X6_guestsBy_37 (hm).2.2.2.2.2.2.2.2.2.2.1 (it_bd_in hb10) ?_
        refine ev_iconst d_X6_guestsBy_38 kv_iconst_m1 ?_
        refine ev_icmp_ne (tgt := 45) d_X6_guestsBy_39 (by decide) (fun hc11 => ?_) (fun hc11 => ?_)
        · have h := it_ok_f h hc11
          refine ev_aload_n d_X6_guestsBy_45 rfl ?_
          refine ev_getRr (r := 55) rfl d_X6_guestsBy_46 fl_IcedTooSoonModel_37 hm.1 rfl ?_
          refine ev_iload_n d_X6_guestsBy_49 rfl ?_
          refine ev_iald d_X6_guestsBy_50 (hm).2.2.2.2.2.2.2.2.2.2.1 (it_bd_in hb10) ?_
          refine ev_iload_n d_X6_guestsBy_51 rfl ?_
          refine ev_icmp_eq (tgt := 58) d_X6_guestsBy_52 (by decide) (fun hc12 => ?_) (fun hc12 => ?_)
          · have h := it_ok_t h hc12
            refine ev_iconst d_X6_guestsBy_58 kv_iconst_0 ?_
            refine ev_istore d_X6_guestsBy_59 (by decide) ?_
            show it_Ev g l 3 it_m_X6_guestsBy 0 0 61 [some (.ref 45), some (.int x1), some (.int x2), some (.int x3), some (.int x4), some (.int 0), none, none, none] [] κ S7 (it_pi κ P)
            refine ev_iconst d_X6_guestsBy_61 kv_iconst_0 ?_
            refine ev_istore d_X6_guestsBy_62 (by decide) ?_
            show it_Ev g l 3 it_m_X6_guestsBy 0 0 64 [some (.ref 45), some (.int x1), some (.int x2), some (.int x3), some (.int x4), some (.int 0), some (.int 0), none, none] [] κ S7 (it_pi κ P)
            refine ev_keep [true, true, false, true, true, true, true, false, false] ?_
            refine Llp_X6_guestsBy_64 hm hb10 (fun v22 S23 h => ?_) _ _ _ _ h
            show it_Ev g l 3 it_m_X6_guestsBy 0 0 153 [none, none, none, none, none, some (.int v22), none, none, none] [] κ S23 (it_pi κ P)
            refine ev_iload d_X6_guestsBy_153 rfl ?_
            exact ev_ret (v := some (.int _)) ⟨d_X6_guestsBy_155, _, rfl, rfl⟩ (by decide) (by decide) ⟨rfl, _, rfl, it_ok_r h⟩
          · have h := it_ok_f h hc12
            refine ev_bipush d_X6_guestsBy_55 kv_bipush_m13 ?_
            exact ev_ret (v := some (.int _)) ⟨d_X6_guestsBy_57, _, rfl, rfl⟩ (by decide) (by decide) ⟨rfl, _, rfl, it_ok_r h⟩
        · have h := it_ok_t h hc11
          refine ev_bipush d_X6_guestsBy_42 kv_bipush_m11 ?_
          exact ev_ret (v := some (.int _)) ⟨d_X6_guestsBy_44, _, rfl, rfl⟩ (by decide) (by decide) ⟨rfl, _, rfl, it_ok_r h⟩
      · have h := it_ok_t h hc9
        refine ev_bipush d_X6_guestsBy_29 kv_bipush_m2 ?_
        exact ev_ret (v := some (.int _)) ⟨d_X6_guestsBy_31, _, rfl, rfl⟩ (by decide) (by decide) ⟨rfl, _, rfl, it_ok_r h⟩
theorem d_X6_taken_0 : decode prog_8_method_81_code 0 = .ok (.iload_n 2, 1) := by decide +kernel
theorem d_X6_taken_1 : decode prog_8_method_81_code 1 = .ok (.iconst 0, 1) := by decide +kernel
theorem d_X6_taken_2 : decode prog_8_method_81_code 2 = .ok (.bipush 6, 2) := by decide +kernel
theorem d_X6_taken_4 : decode prog_8_method_81_code 4 = .ok (.invokestatic 78, 3) := by decide +kernel
theorem d_X6_taken_7 : decode prog_8_method_81_code 7 = .ok (.ifCond .ne 7, 3) := by decide +kernel
theorem d_X6_taken_10 : decode prog_8_method_81_code 10 = .ok (.sipush (-200), 3) := by decide +kernel
theorem d_X6_taken_13 : decode prog_8_method_81_code 13 = .ok (.ireturn, 1) := by decide +kernel
theorem d_X6_taken_14 : decode prog_8_method_81_code 14 = .ok (.iload_n 1, 1) := by decide +kernel
theorem d_X6_taken_15 : decode prog_8_method_81_code 15 = .ok (.iconst 0, 1) := by decide +kernel
theorem d_X6_taken_16 : decode prog_8_method_81_code 16 = .ok (.bipush 15, 2) := by decide +kernel
theorem d_X6_taken_18 : decode prog_8_method_81_code 18 = .ok (.invokestatic 78, 3) := by decide +kernel
theorem d_X6_taken_21 : decode prog_8_method_81_code 21 = .ok (.ifCond .ne 7, 3) := by decide +kernel
theorem d_X6_taken_24 : decode prog_8_method_81_code 24 = .ok (.sipush (-1200), 3) := by decide +kernel
theorem d_X6_taken_27 : decode prog_8_method_81_code 27 = .ok (.ireturn, 1) := by decide +kernel
theorem d_X6_taken_28 : decode prog_8_method_81_code 28 = .ok (.iload_n 1, 1) := by decide +kernel
theorem d_X6_taken_29 : decode prog_8_method_81_code 29 = .ok (.bipush 6, 2) := by decide +kernel
theorem d_X6_taken_31 : decode prog_8_method_81_code 31 = .ok (.if_icmp .lt 51, 3) := by decide +kernel
theorem d_X6_taken_34 : decode prog_8_method_81_code 34 = .ok (.iload_n 1, 1) := by decide +kernel
theorem d_X6_taken_35 : decode prog_8_method_81_code 35 = .ok (.bipush 6, 2) := by decide +kernel
theorem d_X6_taken_37 : decode prog_8_method_81_code 37 = .ok (.isub, 1) := by decide +kernel
theorem d_X6_taken_38 : decode prog_8_method_81_code 38 = .ok (.istore_n 3, 1) := by decide +kernel
theorem d_X6_taken_39 : decode prog_8_method_81_code 39 = .ok (.aload_n 0, 1) := by decide +kernel
theorem d_X6_taken_40 : decode prog_8_method_81_code 40 = .ok (.iload_n 3, 1) := by decide +kernel
theorem d_X6_taken_41 : decode prog_8_method_81_code 41 = .ok (.invokevirtual 86, 3) := by decide +kernel
theorem d_X6_taken_44 : decode prog_8_method_81_code 44 = .ok (.ifCond .ne 9, 3) := by decide +kernel
theorem d_X6_taken_47 : decode prog_8_method_81_code 47 = .ok (.sipush (-1100), 3) := by decide +kernel
theorem d_X6_taken_50 : decode prog_8_method_81_code 50 = .ok (.goto 31, 3) := by decide +kernel
theorem d_X6_taken_53 : decode prog_8_method_81_code 53 = .ok (.iload_n 2, 1) := by decide +kernel
theorem d_X6_taken_54 : decode prog_8_method_81_code 54 = .ok (.bipush 6, 2) := by decide +kernel
theorem d_X6_taken_56 : decode prog_8_method_81_code 56 = .ok (.if_icmp .ne 22, 3) := by decide +kernel
theorem d_X6_taken_59 : decode prog_8_method_81_code 59 = .ok (.aload_n 0, 1) := by decide +kernel
theorem d_X6_taken_60 : decode prog_8_method_81_code 60 = .ok (.getfield 19, 3) := by decide +kernel
theorem d_X6_taken_63 : decode prog_8_method_81_code 63 = .ok (.iconst 3, 1) := by decide +kernel
theorem d_X6_taken_64 : decode prog_8_method_81_code 64 = .ok (.iload_n 3, 1) := by decide +kernel
theorem d_X6_taken_65 : decode prog_8_method_81_code 65 = .ok (.iconst 0, 1) := by decide +kernel
theorem d_X6_taken_66 : decode prog_8_method_81_code 66 = .ok (.bipush 9, 2) := by decide +kernel
theorem d_X6_taken_68 : decode prog_8_method_81_code 68 = .ok (.invokestatic 82, 3) := by decide +kernel
theorem d_X6_taken_71 : decode prog_8_method_81_code 71 = .ok (.imul, 1) := by decide +kernel
theorem d_X6_taken_72 : decode prog_8_method_81_code 72 = .ok (.iconst 1, 1) := by decide +kernel
theorem d_X6_taken_73 : decode prog_8_method_81_code 73 = .ok (.iadd, 1) := by decide +kernel
theorem d_X6_taken_74 : decode prog_8_method_81_code 74 = .ok (.iaload, 1) := by decide +kernel
theorem d_X6_taken_75 : decode prog_8_method_81_code 75 = .ok (.goto 6, 3) := by decide +kernel
theorem d_X6_taken_78 : decode prog_8_method_81_code 78 = .ok (.sipush (-1300), 3) := by decide +kernel
theorem d_X6_taken_81 : decode prog_8_method_81_code 81 = .ok (.ireturn, 1) := by decide +kernel
theorem d_X6_taken_82 : decode prog_8_method_81_code 82 = .ok (.iload_n 1, 1) := by decide +kernel
theorem d_X6_taken_83 : decode prog_8_method_81_code 83 = .ok (.aload_n 0, 1) := by decide +kernel
theorem d_X6_taken_84 : decode prog_8_method_81_code 84 = .ok (.getfield 75, 3) := by decide +kernel
theorem d_X6_taken_87 : decode prog_8_method_81_code 87 = .ok (.if_icmp .lt 9, 3) := by decide +kernel
theorem d_X6_taken_90 : decode prog_8_method_81_code 90 = .ok (.sipush (-1100), 3) := by decide +kernel
theorem d_X6_taken_93 : decode prog_8_method_81_code 93 = .ok (.goto 29, 3) := by decide +kernel
theorem d_X6_taken_96 : decode prog_8_method_81_code 96 = .ok (.iload_n 2, 1) := by decide +kernel
theorem d_X6_taken_97 : decode prog_8_method_81_code 97 = .ok (.bipush 6, 2) := by decide +kernel
theorem d_X6_taken_99 : decode prog_8_method_81_code 99 = .ok (.if_icmp .ge 20, 3) := by decide +kernel
theorem d_X6_taken_102 : decode prog_8_method_81_code 102 = .ok (.aload_n 0, 1) := by decide +kernel
theorem d_X6_taken_103 : decode prog_8_method_81_code 103 = .ok (.getfield 7, 3) := by decide +kernel
theorem d_X6_taken_106 : decode prog_8_method_81_code 106 = .ok (.iload_n 1, 1) := by decide +kernel
theorem d_X6_taken_107 : decode prog_8_method_81_code 107 = .ok (.iaload, 1) := by decide +kernel
theorem d_X6_taken_108 : decode prog_8_method_81_code 108 = .ok (.iload_n 2, 1) := by decide +kernel
theorem d_X6_taken_109 : decode prog_8_method_81_code 109 = .ok (.invokestatic 264, 3) := by decide +kernel
theorem d_X6_taken_112 : decode prog_8_method_81_code 112 = .ok (.ifCond .eq 7, 3) := by decide +kernel
theorem d_X6_taken_115 : decode prog_8_method_81_code 115 = .ok (.iload_n 1, 1) := by decide +kernel
theorem d_X6_taken_116 : decode prog_8_method_81_code 116 = .ok (.goto 6, 3) := by decide +kernel
theorem d_X6_taken_119 : decode prog_8_method_81_code 119 = .ok (.sipush (-1300), 3) := by decide +kernel
theorem d_X6_taken_122 : decode prog_8_method_81_code 122 = .ok (.ireturn, 1) := by decide +kernel
def f_X6_taken (κ : it_KK) (x1 : Int32) (x2 : Int32) (S : it_SS) : Option (Int32 × it_SS) :=
it_bi (f_X6_in κ x2 0 6 S) (fun r2 S1 =>
if r2 = 0 then
some ((-200), S1)
else
it_bi (f_X6_in κ x1 0 15 S1) (fun r5 S4 =>
if r5 = 0 then
some ((-1200), S4)
else
if x1 < 6 then
if x1 < (S4 45 0) then
if 6 ≤ x2 then
some ((-1300), S4)
else
if it_bd x1 6 = true then
it_bi (f_X6_isUnder κ (S4 46 (x1 : Int32).toNatClampNeg) x2 S4) (fun r12 S11 =>
if r12 = 0 then
some ((-1300), S11)
else
some (x1, S11))
else none
else
some ((-1100), S4)
else
it_bi (f_X6_isThere κ (x1 - 6) S4) (fun r15 S14 =>
if r15 = 0 then
some ((-1100), S14)
else
if x2 = 6 then
it_bi (f_X6_within κ (x1 - 6) 0 9 S14) (fun r19 S18 =>
if it_bd ((3 * r19) + 1) 30 = true then
some ((S18 49 (((3 * r19) + 1) : Int32).toNatClampNeg), S18)
else none)
else
some ((-1300), S14))))
set_option maxHeartbeats 4000000 in
set_option maxRecDepth 100000 in
theorem L_X6_taken {g : it_G} {l : Launch} {κ : it_KK} {x1 : Int32} {x2 : Int32} (hm : it_wm κ) {S : it_SS} {P : Int32 → it_SS → Prop} (h : it_ok (f_X6_taken κ x1 x2 S) P) : it_Cn g l 3 it_m_X6_taken [.ref 45, .int x1, .int x2] κ S (it_pi κ P) := by
  refine it_Cn.of (by decide +kernel) (Nat.le_of_ble_eq_true rfl) ?_
  rw [f_X6_taken] at h
  show it_Ev g l 3 it_m_X6_taken 0 0 0 [some (.ref 45), some (.int x1), some (.int x2), none] [] κ S (it_pi κ P)
  refine ev_iload_n d_X6_taken_0 rfl ?_
  refine ev_iconst d_X6_taken_1 kv_iconst_0 ?_
  refine ev_bipush d_X6_taken_2 kv_bipush_6 ?_
  refine ev_callS (M' := it_m_X6_in) (d' := 1) (As := [.int x2, .int 0, .int 6]) d_X6_taken_4 ml_IcedTooSoonModel_78 rfl rfl (Nat.le_of_ble_eq_true rfl) (by decide) (by decide) (by decide) (L_X6_in  (it_ok_b h)) (fun _ _ _ _ q => by cases q.1; rfl) ?_
  rintro _ _ S1 ⟨rfl, r2, rfl, h⟩
  show it_Ev g l 3 it_m_X6_taken 0 0 7 [some (.ref 45), some (.int x1), some (.int x2), none] [.int r2] κ S1 (it_pi κ P)
  refine ev_if_ne (tgt := 14) d_X6_taken_7 (by decide) (fun hc3 => ?_) (fun hc3 => ?_)
  · have h := it_ok_f h hc3
    refine ev_iload_n d_X6_taken_14 rfl ?_
    refine ev_iconst d_X6_taken_15 kv_iconst_0 ?_
    refine ev_bipush d_X6_taken_16 kv_bipush_15 ?_
    refine ev_callS (M' := it_m_X6_in) (d' := 1) (As := [.int x1, .int 0, .int 15]) d_X6_taken_18 ml_IcedTooSoonModel_78 rfl rfl (Nat.le_of_ble_eq_true rfl) (by decide) (by decide) (by decide) (L_X6_in  (it_ok_b h)) (fun _ _ _ _ q => by cases q.1; rfl) ?_
    rintro _ _ S4 ⟨rfl, r5, rfl, h⟩
    show it_Ev g l 3 it_m_X6_taken 0 0 21 [some (.ref 45), some (.int x1), some (.int x2), none] [.int r5] κ S4 (it_pi κ P)
    refine ev_if_ne (tgt := 28) d_X6_taken_21 (by decide) (fun hc6 => ?_) (fun hc6 => ?_)
    · have h := it_ok_f h hc6
      refine ev_iload_n d_X6_taken_28 rfl ?_
      refine ev_bipush d_X6_taken_29 kv_bipush_6 ?_
      refine ev_icmp_lt (tgt := 82) d_X6_taken_31 (by decide) (fun hc7 => ?_) (fun hc7 => ?_)
      · have h := it_ok_t h hc7
        refine ev_iload_n d_X6_taken_82 rfl ?_
        refine ev_aload_n d_X6_taken_83 rfl ?_
        refine ev_getI d_X6_taken_84 fl_IcedTooSoonModel_75 hm.1 rfl ?_
        refine ev_icmp_lt (tgt := 96) d_X6_taken_87 (by decide) (fun hc8 => ?_) (fun hc8 => ?_)
        · have h := it_ok_t h hc8
          refine ev_iload_n d_X6_taken_96 rfl ?_
          refine ev_bipush d_X6_taken_97 kv_bipush_6 ?_
          refine ev_icmp_ge (tgt := 119) d_X6_taken_99 (by decide) (fun hc9 => ?_) (fun hc9 => ?_)
          · have h := it_ok_t h hc9
            refine ev_sipush d_X6_taken_119 kv_sipush_m1300 ?_
            exact ev_ret (v := some (.int _)) ⟨d_X6_taken_122, _, rfl, rfl⟩ (by decide) (by decide) ⟨rfl, _, rfl, it_ok_r h⟩
          · have h := it_ok_f h hc9
            refine ev_aload_n d_X6_taken_102 rfl ?_
            refine ev_getRr (r := 46) rfl d_X6_taken_103 fl_IcedTooSoonModel_7 hm.1 rfl ?_
            refine ev_iload_n d_X6_taken_106 rfl ?_
            obtain ⟨hb10, h⟩ := it_ok_g h
            refine ev_iald d_X6_taken_107 (hm).2.1 (it_bd_in hb10) ?_
            refine ev_iload_n d_X6_taken_108 rfl ?_
            refine ev_callS (M' := it_m_X6_isUnder) (d' := 1) (As := [.int (S4 46 (x1 : Int32).toNatClampNeg), .int x2]) d_X6_taken_109 ml_IcedTooSoonModel_264 rfl rfl (Nat.le_of_ble_eq_true rfl) (by decide) (by decide) (by decide) (L_X6_isUnder  (it_ok_b h)) (fun _ _ _ _ q => by cases q.1; rfl) ?_
            rintro _ _ S11 ⟨rfl, r12, rfl, h⟩
            show it_Ev g l 3 it_m_X6_taken 0 0 112 [some (.ref 45), some (.int x1), some (.int x2), none] [.int r12] κ S11 (it_pi κ P)
            refine ev_if_eq (tgt := 119) d_X6_taken_112 (by decide) (fun hc13 => ?_) (fun hc13 => ?_)
            · have h := it_ok_t h hc13
              refine ev_sipush d_X6_taken_119 kv_sipush_m1300 ?_
              exact ev_ret (v := some (.int _)) ⟨d_X6_taken_122, _, rfl, rfl⟩ (by decide) (by decide) ⟨rfl, _, rfl, it_ok_r h⟩
            · have h := it_ok_f h hc13
              refine ev_iload_n d_X6_taken_115 rfl ?_
              refine ev_goto (tgt := 122) d_X6_taken_116 (by decide) ?_
              exact ev_ret (v := some (.int _)) ⟨d_X6_taken_122, _, rfl, rfl⟩ (by decide) (by decide) ⟨rfl, _, rfl, it_ok_r h⟩
        · have h := it_ok_f h hc8
          refine ev_sipush d_X6_taken_90 kv_sipush_m1100 ?_
          refine ev_goto (tgt := 122) d_X6_taken_93 (by decide) ?_
          exact ev_ret (v := some (.int _)) ⟨d_X6_taken_122, _, rfl, rfl⟩ (by decide) (by decide) ⟨rfl, _, rfl, it_ok_r h⟩
      · have h := it_ok_f h hc7
        refine ev_iload_n d_X6_taken_34 rfl ?_
        refine ev_bipush d_X6_taken_35 kv_bipush_6 ?_
        refine ev_isub d_X6_taken_37 ?_
        refine ev_istore_n d_X6_taken_38 (by decide) ?_
        show it_Ev g l 3 it_m_X6_taken 0 0 39 [some (.ref 45), some (.int x1), some (.int x2), some (.int (x1 - 6))] [] κ S4 (it_pi κ P)
        refine ev_aload_n d_X6_taken_39 rfl ?_
        refine ev_iload_n d_X6_taken_40 rfl ?_
        refine ev_callV (ci := 6) (b := 45) (M' := it_m_X6_isThere) (d' := 2) (As := [.int (x1 - 6)]) d_X6_taken_41 ml_IcedTooSoonModel_86 hm.1.1 hm.1.2.1 ⟨_, rfl, rfl⟩ rfl rfl (Nat.le_of_ble_eq_true rfl) (by decide) (by decide) (by decide) (L_X6_isThere hm (it_ok_b h)) (fun _ _ _ _ q => by cases q.1; rfl) ?_
        rintro _ _ S14 ⟨rfl, r15, rfl, h⟩
        show it_Ev g l 3 it_m_X6_taken 0 0 44 [some (.ref 45), some (.int x1), some (.int x2), some (.int (x1 - 6))] [.int r15] κ S14 (it_pi κ P)
        refine ev_if_ne (tgt := 53) d_X6_taken_44 (by decide) (fun hc16 => ?_) (fun hc16 => ?_)
        · have h := it_ok_f h hc16
          refine ev_iload_n d_X6_taken_53 rfl ?_
          refine ev_bipush d_X6_taken_54 kv_bipush_6 ?_
          refine ev_icmp_ne (tgt := 78) d_X6_taken_56 (by decide) (fun hc17 => ?_) (fun hc17 => ?_)
          · have h := it_ok_f h hc17
            refine ev_sipush d_X6_taken_78 kv_sipush_m1300 ?_
            exact ev_ret (v := some (.int _)) ⟨d_X6_taken_81, _, rfl, rfl⟩ (by decide) (by decide) ⟨rfl, _, rfl, it_ok_r h⟩
          · have h := it_ok_t h hc17
            refine ev_aload_n d_X6_taken_59 rfl ?_
            refine ev_getRr (r := 49) rfl d_X6_taken_60 fl_IcedTooSoonModel_19 hm.1 rfl ?_
            refine ev_iconst d_X6_taken_63 kv_iconst_3 ?_
            refine ev_iload_n d_X6_taken_64 rfl ?_
            refine ev_iconst d_X6_taken_65 kv_iconst_0 ?_
            refine ev_bipush d_X6_taken_66 kv_bipush_9 ?_
            refine ev_callS (M' := it_m_X6_within) (d' := 1) (As := [.int (x1 - 6), .int 0, .int 9]) d_X6_taken_68 ml_IcedTooSoonModel_82 rfl rfl (Nat.le_of_ble_eq_true rfl) (by decide) (by decide) (by decide) (L_X6_within  (it_ok_b h)) (fun _ _ _ _ q => by cases q.1; rfl) ?_
            rintro _ _ S18 ⟨rfl, r19, rfl, h⟩
            show it_Ev g l 3 it_m_X6_taken 0 0 71 [some (.ref 45), some (.int x1), some (.int x2), some (.int (x1 - 6))] [.int r19, .int 3, .ref 49] κ S18 (it_pi κ P)
            refine ev_imul d_X6_taken_71 ?_
            refine ev_iconst d_X6_taken_72 kv_iconst_1 ?_
            refine ev_iadd d_X6_taken_73 ?_
            obtain ⟨hb20, h⟩ := it_ok_g h
            refine ev_iald d_X6_taken_74 (hm).2.2.2.2.1 (it_bd_in hb20) ?_
            refine ev_goto (tgt := 81) d_X6_taken_75 (by decide) ?_
            exact ev_ret (v := some (.int _)) ⟨d_X6_taken_81, _, rfl, rfl⟩ (by decide) (by decide) ⟨rfl, _, rfl, it_ok_r h⟩
        · have h := it_ok_t h hc16
          refine ev_sipush d_X6_taken_47 kv_sipush_m1100 ?_
          refine ev_goto (tgt := 81) d_X6_taken_50 (by decide) ?_
          exact ev_ret (v := some (.int _)) ⟨d_X6_taken_81, _, rfl, rfl⟩ (by decide) (by decide) ⟨rfl, _, rfl, it_ok_r h⟩
    · have h := it_ok_t h hc6
      refine ev_sipush d_X6_taken_24 kv_sipush_m1200 ?_
      exact ev_ret (v := some (.int _)) ⟨d_X6_taken_27, _, rfl, rfl⟩ (by decide) (by decide) ⟨rfl, _, rfl, it_ok_r h⟩
  · have h := it_ok_t h hc3
    refine ev_sipush d_X6_taken_10 kv_sipush_m200 ?_
    exact ev_ret (v := some (.int _)) ⟨d_X6_taken_13, _, rfl, rfl⟩ (by decide) (by decide) ⟨rfl, _, rfl, it_ok_r h⟩
