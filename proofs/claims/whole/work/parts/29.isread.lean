theorem d_X3_isRead_0 : decode prog_5_method_7_code 0 = .ok (.aload_n 0, 1) := by decide +kernel
theorem d_X3_isRead_1 : decode prog_5_method_7_code 1 = .ok (.iconst 0, 1) := by decide +kernel
theorem d_X3_isRead_2 : decode prog_5_method_7_code 2 = .ok (.putfield 39, 3) := by decide +kernel
theorem d_X3_isRead_5 : decode prog_5_method_7_code 5 = .ok (.aload_n 0, 1) := by decide +kernel
theorem d_X3_isRead_6 : decode prog_5_method_7_code 6 = .ok (.iconst 0, 1) := by decide +kernel
theorem d_X3_isRead_7 : decode prog_5_method_7_code 7 = .ok (.putfield 27, 3) := by decide +kernel
theorem d_X3_isRead_10 : decode prog_5_method_7_code 10 = .ok (.aload_n 0, 1) := by decide +kernel
theorem d_X3_isRead_11 : decode prog_5_method_7_code 11 = .ok (.invokevirtual 42, 3) := by decide +kernel
theorem d_X3_isRead_14 : decode prog_5_method_7_code 14 = .ok (.iconst 0, 1) := by decide +kernel
theorem d_X3_isRead_15 : decode prog_5_method_7_code 15 = .ok (.istore_n 1, 1) := by decide +kernel
theorem d_X3_isRead_16 : decode prog_5_method_7_code 16 = .ok (.iload_n 1, 1) := by decide +kernel
theorem d_X3_isRead_17 : decode prog_5_method_7_code 17 = .ok (.iconst 2, 1) := by decide +kernel
theorem d_X3_isRead_18 : decode prog_5_method_7_code 18 = .ok (.if_icmp .gt 57, 3) := by decide +kernel
theorem d_X3_isRead_21 : decode prog_5_method_7_code 21 = .ok (.aload_n 0, 1) := by decide +kernel
theorem d_X3_isRead_22 : decode prog_5_method_7_code 22 = .ok (.getfield 45, 3) := by decide +kernel
theorem d_X3_isRead_25 : decode prog_5_method_7_code 25 = .ok (.iload_n 1, 1) := by decide +kernel
theorem d_X3_isRead_26 : decode prog_5_method_7_code 26 = .ok (.if_icmp .eq 5, 3) := by decide +kernel
theorem d_X3_isRead_29 : decode prog_5_method_7_code 29 = .ok (.iconst 0, 1) := by decide +kernel
theorem d_X3_isRead_30 : decode prog_5_method_7_code 30 = .ok (.ireturn, 1) := by decide +kernel
theorem d_X3_isRead_31 : decode prog_5_method_7_code 31 = .ok (.aload_n 0, 1) := by decide +kernel
theorem d_X3_isRead_32 : decode prog_5_method_7_code 32 = .ok (.invokevirtual 42, 3) := by decide +kernel
theorem d_X3_isRead_35 : decode prog_5_method_7_code 35 = .ok (.aload_n 0, 1) := by decide +kernel
theorem d_X3_isRead_36 : decode prog_5_method_7_code 36 = .ok (.iconst 0, 1) := by decide +kernel
theorem d_X3_isRead_37 : decode prog_5_method_7_code 37 = .ok (.iconst 0, 1) := by decide +kernel
theorem d_X3_isRead_38 : decode prog_5_method_7_code 38 = .ok (.invokevirtual 48, 3) := by decide +kernel
theorem d_X3_isRead_41 : decode prog_5_method_7_code 41 = .ok (.ifCond .eq 12, 3) := by decide +kernel
theorem d_X3_isRead_44 : decode prog_5_method_7_code 44 = .ok (.aload_n 0, 1) := by decide +kernel
theorem d_X3_isRead_45 : decode prog_5_method_7_code 45 = .ok (.getfield 45, 3) := by decide +kernel
theorem d_X3_isRead_48 : decode prog_5_method_7_code 48 = .ok (.bipush 59, 2) := by decide +kernel
theorem d_X3_isRead_50 : decode prog_5_method_7_code 50 = .ok (.if_icmp .eq 5, 3) := by decide +kernel
theorem d_X3_isRead_53 : decode prog_5_method_7_code 53 = .ok (.iconst 0, 1) := by decide +kernel
theorem d_X3_isRead_54 : decode prog_5_method_7_code 54 = .ok (.ireturn, 1) := by decide +kernel
theorem d_X3_isRead_55 : decode prog_5_method_7_code 55 = .ok (.aload_n 0, 1) := by decide +kernel
theorem d_X3_isRead_56 : decode prog_5_method_7_code 56 = .ok (.invokevirtual 42, 3) := by decide +kernel
theorem d_X3_isRead_59 : decode prog_5_method_7_code 59 = .ok (.aload_n 0, 1) := by decide +kernel
theorem d_X3_isRead_60 : decode prog_5_method_7_code 60 = .ok (.getfield 18, 3) := by decide +kernel
theorem d_X3_isRead_63 : decode prog_5_method_7_code 63 = .ok (.iload_n 1, 1) := by decide +kernel
theorem d_X3_isRead_64 : decode prog_5_method_7_code 64 = .ok (.aload_n 0, 1) := by decide +kernel
theorem d_X3_isRead_65 : decode prog_5_method_7_code 65 = .ok (.getfield 27, 3) := by decide +kernel
theorem d_X3_isRead_68 : decode prog_5_method_7_code 68 = .ok (.iastore, 1) := by decide +kernel
theorem d_X3_isRead_69 : decode prog_5_method_7_code 69 = .ok (.iinc 1 1, 3) := by decide +kernel
theorem d_X3_isRead_72 : decode prog_5_method_7_code 72 = .ok (.goto (-56), 3) := by decide +kernel
theorem d_X3_isRead_75 : decode prog_5_method_7_code 75 = .ok (.aload_n 0, 1) := by decide +kernel
theorem d_X3_isRead_76 : decode prog_5_method_7_code 76 = .ok (.getfield 45, 3) := by decide +kernel
theorem d_X3_isRead_79 : decode prog_5_method_7_code 79 = .ok (.bipush 13, 2) := by decide +kernel
theorem d_X3_isRead_81 : decode prog_5_method_7_code 81 = .ok (.if_icmp .ne 7, 3) := by decide +kernel
theorem d_X3_isRead_84 : decode prog_5_method_7_code 84 = .ok (.iconst 1, 1) := by decide +kernel
theorem d_X3_isRead_85 : decode prog_5_method_7_code 85 = .ok (.goto 4, 3) := by decide +kernel
theorem d_X3_isRead_88 : decode prog_5_method_7_code 88 = .ok (.iconst 0, 1) := by decide +kernel
theorem d_X3_isRead_89 : decode prog_5_method_7_code 89 = .ok (.ireturn, 1) := by decide +kernel
def lp_X3_isRead_16 (κ : it_KK)  (k16 : (it_SS → Option (Int32 × it_SS))) : Nat → Int32 → it_SS → Option (Int32 × it_SS)
  | 0, _, _ => none
  | n16 + 1, v1, S => if 2 < v1 then
k16  S
else
if (S 5 3) = v1 then
it_bi (f_X3_next κ  S) (fun _ S5 =>
it_bi (f_X3_readTop κ 0 0 S5) (fun r8 S7 =>
if r8 = 0 then
some (0, S7)
else
if (S7 5 3) = 59 then
it_bi (f_X3_next κ  S7) (fun _ S11 =>
if it_bd v1 3 = true then
lp_X3_isRead_16 κ  k16 n16 (v1 + 1) (it_up S11 8 (v1 : Int32).toNatClampNeg (S11 5 7))
else none)
else
some (0, S7)))
else
some (0, S)
def f_X3_isRead (κ : it_KK)  (S : it_SS) : Option (Int32 × it_SS) :=
it_bi (f_X3_next κ  (it_up (it_up S 5 2 0) 5 7 0)) (fun _ S1 =>
lp_X3_isRead_16 κ  (fun  S14 =>
if (S14 5 3) = 13 then
some (1, S14)
else
some (0, S14)) it_FU 0 S1)
set_option maxHeartbeats 4000000 in
set_option maxRecDepth 100000 in
theorem Llp_X3_isRead_16 {g : it_G} {l : Launch} {κ : it_KK} (ht : it_wt κ) {P : Int32 → it_SS → Prop} {k16 : (it_SS → Option (Int32 × it_SS))} (hk16 : ∀  (S : it_SS), it_ok (k16  S) P → it_Ev g l 68 it_m_X3_isRead 0 0 75 [some (.ref 5), none] [] κ S (it_pi κ P)) : ∀ (n : Nat) (v1 : Int32) (S : it_SS), it_ok (lp_X3_isRead_16 κ  k16 n v1 S) P → it_Ev g l 68 it_m_X3_isRead 0 0 16 [some (.ref 5), some (.int v1)] [] κ S (it_pi κ P) := by
  intro n
  induction n with
  | zero =>
    intro _ _ h
    exact (it_ok_n h).elim
  | succ n16 ih16 =>
    intro v1 S h
    rw [lp_X3_isRead_16] at h
    refine ev_iload_n d_X3_isRead_16 rfl ?_
    refine ev_iconst d_X3_isRead_17 kv_iconst_2 ?_
    refine ev_icmp_gt (tgt := 75) d_X3_isRead_18 (by decide) (fun hc3 => ?_) (fun hc3 => ?_)
    · have h := it_ok_t h hc3
      refine ev_keep [true, false] ?_
      exact hk16  _ h
    · have h := it_ok_f h hc3
      refine ev_aload_n d_X3_isRead_21 rfl ?_
      refine ev_getI d_X3_isRead_22 fl_IcedTooSoon_Tape_45 ht.1 rfl ?_
      refine ev_iload_n d_X3_isRead_25 rfl ?_
      refine ev_icmp_eq (tgt := 31) d_X3_isRead_26 (by decide) (fun hc4 => ?_) (fun hc4 => ?_)
      · have h := it_ok_t h hc4
        refine ev_aload_n d_X3_isRead_31 rfl ?_
        refine ev_callV (ci := 3) (b := 5) (M' := it_m_X3_next) (d' := 7) (As := []) d_X3_isRead_32 ml_IcedTooSoon_Tape_42 ht.1.1 ht.1.2.1 ⟨_, rfl, rfl⟩ rfl rfl (Nat.le_of_ble_eq_true rfl) (by decide) (by decide) (by decide) (L_X3_next ht (it_ok_b h)) (fun _ _ _ _ q => by cases q.1; rfl) ?_
        rintro _ _ S5 ⟨rfl, rfl, h⟩
        show it_Ev g l 68 it_m_X3_isRead 0 0 35 [some (.ref 5), some (.int v1)] [] κ S5 (it_pi κ P)
        refine ev_aload_n d_X3_isRead_35 rfl ?_
        refine ev_iconst d_X3_isRead_36 kv_iconst_0 ?_
        refine ev_iconst d_X3_isRead_37 kv_iconst_0 ?_
        refine ev_callV (ci := 3) (b := 5) (M' := it_m_X3_readLevel) (d' := 67) (As := [.int 0, .int 0]) d_X3_isRead_38 ml_IcedTooSoon_Tape_48 ht.1.1 ht.1.2.1 ⟨_, rfl, rfl⟩ rfl rfl (Nat.le_of_ble_eq_true rfl) (by decide) (by decide) (by decide) (L_X3_readTop ht (it_ok_b h)) (fun _ _ _ _ q => by cases q.1; rfl) ?_
        rintro _ _ S7 ⟨rfl, r8, rfl, h⟩
        show it_Ev g l 68 it_m_X3_isRead 0 0 41 [some (.ref 5), some (.int v1)] [.int r8] κ S7 (it_pi κ P)
        refine ev_if_eq (tgt := 53) d_X3_isRead_41 (by decide) (fun hc9 => ?_) (fun hc9 => ?_)
        · have h := it_ok_t h hc9
          refine ev_iconst d_X3_isRead_53 kv_iconst_0 ?_
          exact ev_ret (v := some (.int _)) ⟨d_X3_isRead_54, _, rfl, rfl⟩ (by decide) (by decide) ⟨rfl, _, rfl, it_ok_r h⟩
        · have h := it_ok_f h hc9
          refine ev_aload_n d_X3_isRead_44 rfl ?_
          refine ev_getI d_X3_isRead_45 fl_IcedTooSoon_Tape_45 ht.1 rfl ?_
          refine ev_bipush d_X3_isRead_48 kv_bipush_59 ?_
          refine ev_icmp_eq (tgt := 55) d_X3_isRead_50 (by decide) (fun hc10 => ?_) (fun hc10 => ?_)
          · have h := it_ok_t h hc10
            refine ev_aload_n d_X3_isRead_55 rfl ?_
            refine ev_callV (ci := 3) (b := 5) (M' := it_m_X3_next) (d' := 7) (As := []) d_X3_isRead_56 ml_IcedTooSoon_Tape_42 ht.1.1 ht.1.2.1 ⟨_, rfl, rfl⟩ rfl rfl (Nat.le_of_ble_eq_true rfl) (by decide) (by decide) (by decide) (L_X3_next ht (it_ok_b h)) (fun _ _ _ _ q => by cases q.1; rfl) ?_
            rintro _ _ S11 ⟨rfl, rfl, h⟩
            show it_Ev g l 68 it_m_X3_isRead 0 0 59 [some (.ref 5), some (.int v1)] [] κ S11 (it_pi κ P)
            refine ev_aload_n d_X3_isRead_59 rfl ?_
            refine ev_getRr (r := 8) rfl d_X3_isRead_60 fl_IcedTooSoon_Tape_18 ht.1 rfl ?_
            refine ev_iload_n d_X3_isRead_63 rfl ?_
            refine ev_aload_n d_X3_isRead_64 rfl ?_
            refine ev_getI d_X3_isRead_65 fl_IcedTooSoon_Tape_27 ht.1 rfl ?_
            obtain ⟨hb13, h⟩ := it_ok_g h
            refine ev_iast d_X3_isRead_68 (by decide) (ht).2.2.2 (it_bd_in hb13) ?_
            refine ev_iinc d_X3_isRead_69 kv_iconst_1 rfl (by decide) ?_
            show it_Ev g l 68 it_m_X3_isRead 0 0 72 [some (.ref 5), some (.int (v1 + 1))] [] κ (it_up S11 8 (v1 : Int32).toNatClampNeg (S11 5 7)) (it_pi κ P)
            refine ev_goto (tgt := 16) d_X3_isRead_72 (by decide) ?_
            refine ev_keep [true, true] ?_
            exact ih16 _ _ h
          · have h := it_ok_f h hc10
            refine ev_iconst d_X3_isRead_53 kv_iconst_0 ?_
            exact ev_ret (v := some (.int _)) ⟨d_X3_isRead_54, _, rfl, rfl⟩ (by decide) (by decide) ⟨rfl, _, rfl, it_ok_r h⟩
      · have h := it_ok_f h hc4
        refine ev_iconst d_X3_isRead_29 kv_iconst_0 ?_
        exact ev_ret (v := some (.int _)) ⟨d_X3_isRead_30, _, rfl, rfl⟩ (by decide) (by decide) ⟨rfl, _, rfl, it_ok_r h⟩
set_option maxHeartbeats 4000000 in
set_option maxRecDepth 100000 in
theorem L_X3_isRead {g : it_G} {l : Launch} {κ : it_KK} (ht : it_wt κ) {S : it_SS} {P : Int32 → it_SS → Prop} (h : it_ok (f_X3_isRead κ  S) P) : it_Cn g l 68 it_m_X3_isRead [.ref 5] κ S (it_pi κ P) := by
  refine it_Cn.of (by decide +kernel) (Nat.le_of_ble_eq_true rfl) ?_
  rw [f_X3_isRead] at h
  show it_Ev g l 68 it_m_X3_isRead 0 0 0 [some (.ref 5), none] [] κ S (it_pi κ P)
  refine ev_aload_n d_X3_isRead_0 rfl ?_
  refine ev_iconst d_X3_isRead_1 kv_iconst_0 ?_
  refine ev_putI d_X3_isRead_2 (by decide) fl_IcedTooSoon_Tape_39 fw_3_2 ht.1 rfl ?_
  refine ev_aload_n d_X3_isRead_5 rfl ?_
  refine ev_iconst d_X3_isRead_6 kv_iconst_0 ?_
  refine ev_putI d_X3_isRead_7 (by decide) fl_IcedTooSoon_Tape_27 fw_3_7 ht.1 rfl ?_
  refine ev_aload_n d_X3_isRead_10 rfl ?_
  refine ev_callV (ci := 3) (b := 5) (M' := it_m_X3_next) (d' := 7) (As := []) d_X3_isRead_11 ml_IcedTooSoon_Tape_42 ht.1.1 ht.1.2.1 ⟨_, rfl, rfl⟩ rfl rfl (Nat.le_of_ble_eq_true rfl) (by decide) (by decide) (by decide) (L_X3_next ht (it_ok_b h)) (fun _ _ _ _ q => by cases q.1; rfl) ?_
  rintro _ _ S1 ⟨rfl, rfl, h⟩
  show it_Ev g l 68 it_m_X3_isRead 0 0 14 [some (.ref 5), none] [] κ S1 (it_pi κ P)
  refine ev_iconst d_X3_isRead_14 kv_iconst_0 ?_
  refine ev_istore_n d_X3_isRead_15 (by decide) ?_
  show it_Ev g l 68 it_m_X3_isRead 0 0 16 [some (.ref 5), some (.int 0)] [] κ S1 (it_pi κ P)
  refine ev_keep [true, true] ?_
  refine Llp_X3_isRead_16 ht (fun  S14 h => ?_) _ _ _ h
  show it_Ev g l 68 it_m_X3_isRead 0 0 75 [some (.ref 5), none] [] κ S14 (it_pi κ P)
  refine ev_aload_n d_X3_isRead_75 rfl ?_
  refine ev_getI d_X3_isRead_76 fl_IcedTooSoon_Tape_45 ht.1 rfl ?_
  refine ev_bipush d_X3_isRead_79 kv_bipush_13 ?_
  refine ev_icmp_ne (tgt := 88) d_X3_isRead_81 (by decide) (fun hc15 => ?_) (fun hc15 => ?_)
  · have h := it_ok_f h hc15
    refine ev_iconst d_X3_isRead_88 kv_iconst_0 ?_
    exact ev_ret (v := some (.int _)) ⟨d_X3_isRead_89, _, rfl, rfl⟩ (by decide) (by decide) ⟨rfl, _, rfl, it_ok_r h⟩
  · have h := it_ok_t h hc15
    refine ev_iconst d_X3_isRead_84 kv_iconst_1 ?_
    refine ev_goto (tgt := 89) d_X3_isRead_85 (by decide) ?_
    exact ev_ret (v := some (.int _)) ⟨d_X3_isRead_89, _, rfl, rfl⟩ (by decide) (by decide) ⟨rfl, _, rfl, it_ok_r h⟩
theorem d_X4_init_0 : decode prog_6_method_1_code 0 = .ok (.aload_n 0, 1) := by decide +kernel
theorem d_X4_init_1 : decode prog_6_method_1_code 1 = .ok (.invokespecial 1, 3) := by decide +kernel
theorem d_X4_init_4 : decode prog_6_method_1_code 4 = .ok (.aload_n 0, 1) := by decide +kernel
theorem d_X4_init_5 : decode prog_6_method_1_code 5 = .ok (.aload_n 1, 1) := by decide +kernel
theorem d_X4_init_6 : decode prog_6_method_1_code 6 = .ok (.putfield 7, 3) := by decide +kernel
theorem d_X4_init_9 : decode prog_6_method_1_code 9 = .ok (.aload_n 0, 1) := by decide +kernel
theorem d_X4_init_10 : decode prog_6_method_1_code 10 = .ok (.aload_n 2, 1) := by decide +kernel
theorem d_X4_init_11 : decode prog_6_method_1_code 11 = .ok (.putfield 13, 3) := by decide +kernel
theorem d_X4_init_14 : decode prog_6_method_1_code 14 = .ok (.return_, 1) := by decide +kernel
theorem d_X3_written_0 : decode prog_5_method_6_code 0 = .ok (.new 25, 3) := by decide +kernel
theorem d_X3_written_3 : decode prog_5_method_6_code 3 = .ok (.dup, 1) := by decide +kernel
theorem d_X3_written_4 : decode prog_5_method_6_code 4 = .ok (.aload_n 0, 1) := by decide +kernel
theorem d_X3_written_5 : decode prog_5_method_6_code 5 = .ok (.getfield 15, 3) := by decide +kernel
theorem d_X3_written_8 : decode prog_5_method_6_code 8 = .ok (.aload_n 0, 1) := by decide +kernel
theorem d_X3_written_9 : decode prog_5_method_6_code 9 = .ok (.getfield 27, 3) := by decide +kernel
theorem d_X3_written_12 : decode prog_5_method_6_code 12 = .ok (.invokestatic 30, 3) := by decide +kernel
theorem d_X3_written_15 : decode prog_5_method_6_code 15 = .ok (.aload_n 0, 1) := by decide +kernel
theorem d_X3_written_16 : decode prog_5_method_6_code 16 = .ok (.getfield 18, 3) := by decide +kernel
theorem d_X3_written_19 : decode prog_5_method_6_code 19 = .ok (.aload_n 0, 1) := by decide +kernel
theorem d_X3_written_20 : decode prog_5_method_6_code 20 = .ok (.getfield 18, 3) := by decide +kernel
theorem d_X3_written_23 : decode prog_5_method_6_code 23 = .ok (.arraylength, 1) := by decide +kernel
theorem d_X3_written_24 : decode prog_5_method_6_code 24 = .ok (.invokestatic 30, 3) := by decide +kernel
theorem d_X3_written_27 : decode prog_5_method_6_code 27 = .ok (.invokespecial 36, 3) := by decide +kernel
theorem d_X3_written_30 : decode prog_5_method_6_code 30 = .ok (.areturn, 1) := by decide +kernel
theorem d_X1_add_0 : decode prog_3_method_2_code 0 = .ok (.aload_n 0, 1) := by decide +kernel
theorem d_X1_add_1 : decode prog_3_method_2_code 1 = .ok (.getfield 26, 3) := by decide +kernel
theorem d_X1_add_4 : decode prog_3_method_2_code 4 = .ok (.bipush 6, 2) := by decide +kernel
theorem d_X1_add_6 : decode prog_3_method_2_code 6 = .ok (.if_icmp .lt 6, 3) := by decide +kernel
theorem d_X1_add_9 : decode prog_3_method_2_code 9 = .ok (.bipush (-4), 2) := by decide +kernel
theorem d_X1_add_11 : decode prog_3_method_2_code 11 = .ok (.ireturn, 1) := by decide +kernel
theorem d_X1_add_12 : decode prog_3_method_2_code 12 = .ok (.aload_n 0, 1) := by decide +kernel
theorem d_X1_add_13 : decode prog_3_method_2_code 13 = .ok (.getfield 11, 3) := by decide +kernel
theorem d_X1_add_16 : decode prog_3_method_2_code 16 = .ok (.aload_n 0, 1) := by decide +kernel
theorem d_X1_add_17 : decode prog_3_method_2_code 17 = .ok (.getfield 26, 3) := by decide +kernel
theorem d_X1_add_20 : decode prog_3_method_2_code 20 = .ok (.aload_n 1, 1) := by decide +kernel
theorem d_X1_add_21 : decode prog_3_method_2_code 21 = .ok (.aastore, 1) := by decide +kernel
theorem d_X1_add_22 : decode prog_3_method_2_code 22 = .ok (.aload_n 0, 1) := by decide +kernel
theorem d_X1_add_23 : decode prog_3_method_2_code 23 = .ok (.dup, 1) := by decide +kernel
theorem d_X1_add_24 : decode prog_3_method_2_code 24 = .ok (.getfield 26, 3) := by decide +kernel
theorem d_X1_add_27 : decode prog_3_method_2_code 27 = .ok (.iconst 1, 1) := by decide +kernel
theorem d_X1_add_28 : decode prog_3_method_2_code 28 = .ok (.iadd, 1) := by decide +kernel
theorem d_X1_add_29 : decode prog_3_method_2_code 29 = .ok (.putfield 26, 3) := by decide +kernel
theorem d_X1_add_32 : decode prog_3_method_2_code 32 = .ok (.aload_n 0, 1) := by decide +kernel
theorem d_X1_add_33 : decode prog_3_method_2_code 33 = .ok (.getfield 26, 3) := by decide +kernel
theorem d_X1_add_36 : decode prog_3_method_2_code 36 = .ok (.iconst 1, 1) := by decide +kernel
theorem d_X1_add_37 : decode prog_3_method_2_code 37 = .ok (.isub, 1) := by decide +kernel
theorem d_X1_add_38 : decode prog_3_method_2_code 38 = .ok (.ireturn, 1) := by decide +kernel
theorem d_X5_text_0 : decode prog_1_method_5_code 0 = .ok (.aload_n 0, 1) := by decide +kernel
theorem d_X5_text_1 : decode prog_1_method_5_code 1 = .ok (.getfield 10, 3) := by decide +kernel
theorem d_X5_text_4 : decode prog_1_method_5_code 4 = .ok (.getfield 89, 3) := by decide +kernel
theorem d_X5_text_7 : decode prog_1_method_5_code 7 = .ok (.bipush 6, 2) := by decide +kernel
theorem d_X5_text_9 : decode prog_1_method_5_code 9 = .ok (.if_icmp .lt 6, 3) := by decide +kernel
theorem d_X5_text_12 : decode prog_1_method_5_code 12 = .ok (.bipush (-4), 2) := by decide +kernel
theorem d_X5_text_14 : decode prog_1_method_5_code 14 = .ok (.ireturn, 1) := by decide +kernel
theorem d_X5_text_15 : decode prog_1_method_5_code 15 = .ok (.aload_n 0, 1) := by decide +kernel
theorem d_X5_text_16 : decode prog_1_method_5_code 16 = .ok (.getfield 19, 3) := by decide +kernel
theorem d_X5_text_19 : decode prog_1_method_5_code 19 = .ok (.invokevirtual 65, 3) := by decide +kernel
theorem d_X5_text_22 : decode prog_1_method_5_code 22 = .ok (.ifCond .eq 21, 3) := by decide +kernel
theorem d_X5_text_25 : decode prog_1_method_5_code 25 = .ok (.aload_n 0, 1) := by decide +kernel
theorem d_X5_text_26 : decode prog_1_method_5_code 26 = .ok (.getfield 10, 3) := by decide +kernel
theorem d_X5_text_29 : decode prog_1_method_5_code 29 = .ok (.aload_n 0, 1) := by decide +kernel
theorem d_X5_text_30 : decode prog_1_method_5_code 30 = .ok (.getfield 19, 3) := by decide +kernel
theorem d_X5_text_33 : decode prog_1_method_5_code 33 = .ok (.invokevirtual 69, 3) := by decide +kernel
theorem d_X5_text_36 : decode prog_1_method_5_code 36 = .ok (.invokevirtual 73, 3) := by decide +kernel
theorem d_X5_text_39 : decode prog_1_method_5_code 39 = .ok (.istore_n 1, 1) := by decide +kernel
theorem d_X5_text_40 : decode prog_1_method_5_code 40 = .ok (.goto 14, 3) := by decide +kernel
theorem d_X5_text_43 : decode prog_1_method_5_code 43 = .ok (.bipush (-100), 2) := by decide +kernel
theorem d_X5_text_45 : decode prog_1_method_5_code 45 = .ok (.aload_n 0, 1) := by decide +kernel
theorem d_X5_text_46 : decode prog_1_method_5_code 46 = .ok (.getfield 19, 3) := by decide +kernel
theorem d_X5_text_49 : decode prog_1_method_5_code 49 = .ok (.getfield 104, 3) := by decide +kernel
theorem d_X5_text_52 : decode prog_1_method_5_code 52 = .ok (.isub, 1) := by decide +kernel
theorem d_X5_text_53 : decode prog_1_method_5_code 53 = .ok (.istore_n 1, 1) := by decide +kernel
theorem d_X5_text_54 : decode prog_1_method_5_code 54 = .ok (.aload_n 0, 1) := by decide +kernel
theorem d_X5_text_55 : decode prog_1_method_5_code 55 = .ok (.getfield 19, 3) := by decide +kernel
theorem d_X5_text_58 : decode prog_1_method_5_code 58 = .ok (.invokevirtual 76, 3) := by decide +kernel
theorem d_X5_text_61 : decode prog_1_method_5_code 61 = .ok (.iload_n 1, 1) := by decide +kernel
theorem d_X5_text_62 : decode prog_1_method_5_code 62 = .ok (.ireturn, 1) := by decide +kernel
theorem d_J7_copyOf_59c91_0 : decode prog_17_method_123_code 0 = .ok (.iload_n 1, 1) := by decide +kernel
theorem d_J7_copyOf_59c91_1 : decode prog_17_method_123_code 1 = .ok (.aload_n 0, 1) := by decide +kernel
theorem d_J7_copyOf_59c91_2 : decode prog_17_method_123_code 2 = .ok (.arraylength, 1) := by decide +kernel
theorem d_J7_copyOf_59c91_3 : decode prog_17_method_123_code 3 = .ok (.if_icmp .ne 11, 3) := by decide +kernel
theorem d_J7_copyOf_59c91_6 : decode prog_17_method_123_code 6 = .ok (.aload_n 0, 1) := by decide +kernel
theorem d_J7_copyOf_59c91_7 : decode prog_17_method_123_code 7 = .ok (.invokevirtual 316, 3) := by decide +kernel
theorem d_J7_copyOf_59c91_10 : decode prog_17_method_123_code 10 = .ok (.checkcast 317, 3) := by decide +kernel
theorem d_J7_copyOf_59c91_13 : decode prog_17_method_123_code 13 = .ok (.areturn, 1) := by decide +kernel
theorem d_J7_copyOf_59c91_14 : decode prog_17_method_123_code 14 = .ok (.iload_n 1, 1) := by decide +kernel
theorem d_J7_copyOf_59c91_15 : decode prog_17_method_123_code 15 = .ok (.newarray .int, 2) := by decide +kernel
theorem d_J7_copyOf_59c91_17 : decode prog_17_method_123_code 17 = .ok (.astore_n 2, 1) := by decide +kernel
theorem d_J7_copyOf_59c91_18 : decode prog_17_method_123_code 18 = .ok (.aload_n 0, 1) := by decide +kernel
theorem d_J7_copyOf_59c91_19 : decode prog_17_method_123_code 19 = .ok (.iconst 0, 1) := by decide +kernel
theorem d_J7_copyOf_59c91_20 : decode prog_17_method_123_code 20 = .ok (.aload_n 2, 1) := by decide +kernel
theorem d_J7_copyOf_59c91_21 : decode prog_17_method_123_code 21 = .ok (.iconst 0, 1) := by decide +kernel
theorem d_J7_copyOf_59c91_22 : decode prog_17_method_123_code 22 = .ok (.aload_n 0, 1) := by decide +kernel
theorem d_J7_copyOf_59c91_23 : decode prog_17_method_123_code 23 = .ok (.arraylength, 1) := by decide +kernel
theorem d_J7_copyOf_59c91_24 : decode prog_17_method_123_code 24 = .ok (.iload_n 1, 1) := by decide +kernel
theorem d_J7_copyOf_59c91_25 : decode prog_17_method_123_code 25 = .ok (.invokestatic 304, 3) := by decide +kernel
theorem d_J7_copyOf_59c91_28 : decode prog_17_method_123_code 28 = .ok (.invokestatic 150, 3) := by decide +kernel
theorem d_J7_copyOf_59c91_31 : decode prog_17_method_123_code 31 = .ok (.aload_n 2, 1) := by decide +kernel
theorem d_J7_copyOf_59c91_32 : decode prog_17_method_123_code 32 = .ok (.areturn, 1) := by decide +kernel
set_option maxRecDepth 50000 in
theorem mp_java_util_Arrays_304 : Cond.methodLink "java/util/Arrays" 304 Lib.Math.min.name ∈ it_tb ∧ Cond.static Lib.Math.min.name ∈ it_tb ∧ Cond.initialized "java/lang/Math" ∈ it_tb ∧ Cond.code Lib.Math.min.name Lib.Math.min.code 2 (some .int) ∈ it_tb := ⟨it_in_tb (List.mem_of_getElem? (i := 396) (by decide +kernel)) rfl, it_in_tb (List.mem_of_getElem? (i := 313) (by decide +kernel)) rfl, it_in_tb (List.mem_of_getElem? (i := 64) (by decide +kernel)) rfl, it_in_tb (List.mem_of_getElem? (i := 314) (by decide +kernel)) rfl⟩
