theorem d_X2_renew_0 : decode prog_4_method_2_code 0 = .ok (.aload_n 0, 1) := by decide +kernel
theorem d_X2_renew_1 : decode prog_4_method_2_code 1 = .ok (.iload_n 1, 1) := by decide +kernel
theorem d_X2_renew_2 : decode prog_4_method_2_code 2 = .ok (.putfield 9, 3) := by decide +kernel
theorem d_X2_renew_5 : decode prog_4_method_2_code 5 = .ok (.aload_n 0, 1) := by decide +kernel
theorem d_X2_renew_6 : decode prog_4_method_2_code 6 = .ok (.iload_n 2, 1) := by decide +kernel
theorem d_X2_renew_7 : decode prog_4_method_2_code 7 = .ok (.putfield 19, 3) := by decide +kernel
theorem d_X2_renew_10 : decode prog_4_method_2_code 10 = .ok (.aload_n 0, 1) := by decide +kernel
theorem d_X2_renew_11 : decode prog_4_method_2_code 11 = .ok (.getfield 15, 3) := by decide +kernel
theorem d_X2_renew_14 : decode prog_4_method_2_code 14 = .ok (.iconst 0, 1) := by decide +kernel
theorem d_X2_renew_15 : decode prog_4_method_2_code 15 = .ok (.invokestatic 22, 3) := by decide +kernel
theorem d_X2_renew_18 : decode prog_4_method_2_code 18 = .ok (.return_, 1) := by decide +kernel
def f_X2_renew (κ : it_KK) (a : Nat) (x1 : Int32) (x2 : Int32) (S : it_SS) : Option (Unit × it_SS) :=
it_bi (f_J7_fill_53178 κ (a + 1) 40 0 (it_up (it_up S a 0 x1) a 1 x2)) (fun _ S1 =>
some ((), S1))
set_option maxHeartbeats 4000000 in
set_option maxRecDepth 100000 in
theorem L_X2_renew {g : it_G} {l : Launch} {κ : it_KK} {a : Nat} {x1 : Int32} {x2 : Int32} (hs : it_sh κ a) {S : it_SS} {P : Unit → it_SS → Prop} (h : it_ok (f_X2_renew κ a x1 x2 S) P) : it_Cn g l 2 it_m_X2_renew [.ref a, .int x1, .int x2] κ S (it_pv κ P) := by
  refine it_Cn.of (by decide +kernel) (Nat.le_of_ble_eq_true rfl) ?_
  rw [f_X2_renew] at h
  show it_Ev g l 2 it_m_X2_renew 0 0 0 [some (.ref a), some (.int x1), some (.int x2)] [] κ S (it_pv κ P)
  refine ev_aload_n d_X2_renew_0 rfl ?_
  refine ev_iload_n d_X2_renew_1 rfl ?_
  refine ev_putI d_X2_renew_2 (by decide) fl_IcedTooSoon_Sheet_9 fw_2_0 (hs).1 rfl ?_
  refine ev_aload_n d_X2_renew_5 rfl ?_
  refine ev_iload_n d_X2_renew_6 rfl ?_
  refine ev_putI d_X2_renew_7 (by decide) fl_IcedTooSoon_Sheet_19 fw_2_1 (hs).1 rfl ?_
  refine ev_aload_n d_X2_renew_10 rfl ?_
  refine ev_getRr (r := (a + 1)) rfl d_X2_renew_11 fl_IcedTooSoon_Sheet_15 (hs).1 rfl ?_
  refine ev_iconst d_X2_renew_14 kv_iconst_0 ?_
  refine ev_callS (M' := it_m_J7_fill_53178) (d' := 1) (As := [.ref (a + 1), .int 0]) d_X2_renew_15 ml_IcedTooSoon_Sheet_22 rfl rfl (Nat.le_of_ble_eq_true rfl) (by decide) (by decide) (by decide) (L_J7_fill_53178 ((hs).2) (it_ok_b h)) (fun _ _ _ _ q => by cases q.1; rfl) ?_
  rintro _ _ S1 ⟨rfl, rfl, h⟩
  show it_Ev g l 2 it_m_X2_renew 0 0 18 [some (.ref a), some (.int x1), some (.int x2)] [] κ S1 (it_pv κ P)
  exact ev_ret (v := none) ⟨d_X2_renew_18, rfl⟩ (by decide) (by decide) ⟨rfl, rfl, it_ok_r h⟩
theorem d_X2_has_0 : decode prog_4_method_3_code 0 = .ok (.iload_n 1, 1) := by decide +kernel
theorem d_X2_has_1 : decode prog_4_method_3_code 1 = .ok (.ifCond .lt 15, 3) := by decide +kernel
theorem d_X2_has_4 : decode prog_4_method_3_code 4 = .ok (.iload_n 1, 1) := by decide +kernel
theorem d_X2_has_5 : decode prog_4_method_3_code 5 = .ok (.aload_n 0, 1) := by decide +kernel
theorem d_X2_has_6 : decode prog_4_method_3_code 6 = .ok (.getfield 19, 3) := by decide +kernel
theorem d_X2_has_9 : decode prog_4_method_3_code 9 = .ok (.if_icmp .ge 7, 3) := by decide +kernel
theorem d_X2_has_12 : decode prog_4_method_3_code 12 = .ok (.iconst 1, 1) := by decide +kernel
theorem d_X2_has_13 : decode prog_4_method_3_code 13 = .ok (.goto 4, 3) := by decide +kernel
theorem d_X2_has_16 : decode prog_4_method_3_code 16 = .ok (.iconst 0, 1) := by decide +kernel
theorem d_X2_has_17 : decode prog_4_method_3_code 17 = .ok (.ireturn, 1) := by decide +kernel
def f_X2_has (κ : it_KK) (a : Nat) (x1 : Int32) (S : it_SS) : Option (Int32 × it_SS) :=
if x1 < 0 then
some (0, S)
else
if (S a 1) ≤ x1 then
some (0, S)
else
some (1, S)
set_option maxHeartbeats 4000000 in
set_option maxRecDepth 100000 in
theorem L_X2_has {g : it_G} {l : Launch} {κ : it_KK} {a : Nat} {x1 : Int32} (hs : it_sh κ a) {S : it_SS} {P : Int32 → it_SS → Prop} (h : it_ok (f_X2_has κ a x1 S) P) : it_Cn g l 1 it_m_X2_has [.ref a, .int x1] κ S (it_pi κ P) := by
  refine it_Cn.of (by decide +kernel) (Nat.le_of_ble_eq_true rfl) ?_
  rw [f_X2_has] at h
  show it_Ev g l 1 it_m_X2_has 0 0 0 [some (.ref a), some (.int x1)] [] κ S (it_pi κ P)
  refine ev_iload_n d_X2_has_0 rfl ?_
  refine ev_if_lt (tgt := 16) d_X2_has_1 (by decide) (fun hc1 => ?_) (fun hc1 => ?_)
  · have h := it_ok_t h hc1
    refine ev_iconst d_X2_has_16 kv_iconst_0 ?_
    exact ev_ret (v := some (.int _)) ⟨d_X2_has_17, _, rfl, rfl⟩ (by decide) (by decide) ⟨rfl, _, rfl, it_ok_r h⟩
  · have h := it_ok_f h hc1
    refine ev_iload_n d_X2_has_4 rfl ?_
    refine ev_aload_n d_X2_has_5 rfl ?_
    refine ev_getI d_X2_has_6 fl_IcedTooSoon_Sheet_19 (hs).1 rfl ?_
    refine ev_icmp_ge (tgt := 16) d_X2_has_9 (by decide) (fun hc2 => ?_) (fun hc2 => ?_)
    · have h := it_ok_t h hc2
      refine ev_iconst d_X2_has_16 kv_iconst_0 ?_
      exact ev_ret (v := some (.int _)) ⟨d_X2_has_17, _, rfl, rfl⟩ (by decide) (by decide) ⟨rfl, _, rfl, it_ok_r h⟩
    · have h := it_ok_f h hc2
      refine ev_iconst d_X2_has_12 kv_iconst_1 ?_
      refine ev_goto (tgt := 17) d_X2_has_13 (by decide) ?_
      exact ev_ret (v := some (.int _)) ⟨d_X2_has_17, _, rfl, rfl⟩ (by decide) (by decide) ⟨rfl, _, rfl, it_ok_r h⟩
theorem d_X2_write_0 : decode prog_4_method_4_code 0 = .ok (.aload_n 0, 1) := by decide +kernel
theorem d_X2_write_1 : decode prog_4_method_4_code 1 = .ok (.getfield 15, 3) := by decide +kernel
theorem d_X2_write_4 : decode prog_4_method_4_code 4 = .ok (.iload_n 1, 1) := by decide +kernel
theorem d_X2_write_5 : decode prog_4_method_4_code 5 = .ok (.aload_n 0, 1) := by decide +kernel
theorem d_X2_write_6 : decode prog_4_method_4_code 6 = .ok (.getfield 9, 3) := by decide +kernel
theorem d_X2_write_9 : decode prog_4_method_4_code 9 = .ok (.ifCond .ne 8, 3) := by decide +kernel
theorem d_X2_write_12 : decode prog_4_method_4_code 12 = .ok (.iload_n 2, 1) := by decide +kernel
theorem d_X2_write_13 : decode prog_4_method_4_code 13 = .ok (.i2b, 1) := by decide +kernel
theorem d_X2_write_14 : decode prog_4_method_4_code 14 = .ok (.goto 17, 3) := by decide +kernel
theorem d_X2_write_17 : decode prog_4_method_4_code 17 = .ok (.aload_n 0, 1) := by decide +kernel
theorem d_X2_write_18 : decode prog_4_method_4_code 18 = .ok (.getfield 9, 3) := by decide +kernel
theorem d_X2_write_21 : decode prog_4_method_4_code 21 = .ok (.iconst 1, 1) := by decide +kernel
theorem d_X2_write_22 : decode prog_4_method_4_code 22 = .ok (.if_icmp .ne 8, 3) := by decide +kernel
theorem d_X2_write_25 : decode prog_4_method_4_code 25 = .ok (.iload_n 2, 1) := by decide +kernel
theorem d_X2_write_26 : decode prog_4_method_4_code 26 = .ok (.i2s, 1) := by decide +kernel
theorem d_X2_write_27 : decode prog_4_method_4_code 27 = .ok (.goto 4, 3) := by decide +kernel
theorem d_X2_write_30 : decode prog_4_method_4_code 30 = .ok (.iload_n 2, 1) := by decide +kernel
theorem d_X2_write_31 : decode prog_4_method_4_code 31 = .ok (.iastore, 1) := by decide +kernel
theorem d_X2_write_32 : decode prog_4_method_4_code 32 = .ok (.return_, 1) := by decide +kernel
def f_X2_write (κ : it_KK) (a : Nat) (x1 : Int32) (x2 : Int32) (S : it_SS) : Option (Unit × it_SS) :=
if (S a 0) = 0 then
if it_bd x1 40 = true then
some ((), it_up S (a + 1) (x1 : Int32).toNatClampNeg ((x2 : Int32).toInt8.toInt32))
else none
else
if (S a 0) = 1 then
if it_bd x1 40 = true then
some ((), it_up S (a + 1) (x1 : Int32).toNatClampNeg ((x2 : Int32).toInt16.toInt32))
else none
else
if it_bd x1 40 = true then
some ((), it_up S (a + 1) (x1 : Int32).toNatClampNeg x2)
else none
set_option maxHeartbeats 4000000 in
set_option maxRecDepth 100000 in
theorem L_X2_write {g : it_G} {l : Launch} {κ : it_KK} {a : Nat} {x1 : Int32} {x2 : Int32} (hs : it_sh κ a) {S : it_SS} {P : Unit → it_SS → Prop} (h : it_ok (f_X2_write κ a x1 x2 S) P) : it_Cn g l 1 it_m_X2_write [.ref a, .int x1, .int x2] κ S (it_pv κ P) := by
  refine it_Cn.of (by decide +kernel) (Nat.le_of_ble_eq_true rfl) ?_
  rw [f_X2_write] at h
  show it_Ev g l 1 it_m_X2_write 0 0 0 [some (.ref a), some (.int x1), some (.int x2)] [] κ S (it_pv κ P)
  refine ev_aload_n d_X2_write_0 rfl ?_
  refine ev_getRr (r := (a + 1)) rfl d_X2_write_1 fl_IcedTooSoon_Sheet_15 (hs).1 rfl ?_
  refine ev_iload_n d_X2_write_4 rfl ?_
  refine ev_aload_n d_X2_write_5 rfl ?_
  refine ev_getI d_X2_write_6 fl_IcedTooSoon_Sheet_9 (hs).1 rfl ?_
  refine ev_if_ne (tgt := 17) d_X2_write_9 (by decide) (fun hc1 => ?_) (fun hc1 => ?_)
  · have h := it_ok_f h hc1
    refine ev_aload_n d_X2_write_17 rfl ?_
    refine ev_getI d_X2_write_18 fl_IcedTooSoon_Sheet_9 (hs).1 rfl ?_
    refine ev_iconst d_X2_write_21 kv_iconst_1 ?_
    refine ev_icmp_ne (tgt := 30) d_X2_write_22 (by decide) (fun hc2 => ?_) (fun hc2 => ?_)
    · have h := it_ok_f h hc2
      refine ev_iload_n d_X2_write_30 rfl ?_
      obtain ⟨hb3, h⟩ := it_ok_g h
      refine ev_iast d_X2_write_31 (by decide) (hs).2 (it_bd_in hb3) ?_
      exact ev_ret (v := none) ⟨d_X2_write_32, rfl⟩ (by decide) (by decide) ⟨rfl, rfl, it_ok_r h⟩
    · have h := it_ok_t h hc2
      refine ev_iload_n d_X2_write_25 rfl ?_
      refine ev_i2s d_X2_write_26 ?_
      refine ev_goto (tgt := 31) d_X2_write_27 (by decide) ?_
      obtain ⟨hb4, h⟩ := it_ok_g h
      refine ev_iast d_X2_write_31 (by decide) (hs).2 (it_bd_in hb4) ?_
      exact ev_ret (v := none) ⟨d_X2_write_32, rfl⟩ (by decide) (by decide) ⟨rfl, rfl, it_ok_r h⟩
  · have h := it_ok_t h hc1
    refine ev_iload_n d_X2_write_12 rfl ?_
    refine ev_i2b d_X2_write_13 ?_
    refine ev_goto (tgt := 31) d_X2_write_14 (by decide) ?_
    obtain ⟨hb5, h⟩ := it_ok_g h
    refine ev_iast d_X2_write_31 (by decide) (hs).2 (it_bd_in hb5) ?_
    exact ev_ret (v := none) ⟨d_X2_write_32, rfl⟩ (by decide) (by decide) ⟨rfl, rfl, it_ok_r h⟩
theorem d_X3_add_0 : decode prog_5_method_2_code 0 = .ok (.aload_n 0, 1) := by decide +kernel
theorem d_X3_add_1 : decode prog_5_method_2_code 1 = .ok (.getfield 21, 3) := by decide +kernel
theorem d_X3_add_4 : decode prog_5_method_2_code 4 = .ok (.sipush 160, 3) := by decide +kernel
theorem d_X3_add_7 : decode prog_5_method_2_code 7 = .ok (.if_icmp .ge 23, 3) := by decide +kernel
theorem d_X3_add_10 : decode prog_5_method_2_code 10 = .ok (.aload_n 0, 1) := by decide +kernel
theorem d_X3_add_11 : decode prog_5_method_2_code 11 = .ok (.getfield 9, 3) := by decide +kernel
theorem d_X3_add_14 : decode prog_5_method_2_code 14 = .ok (.aload_n 0, 1) := by decide +kernel
theorem d_X3_add_15 : decode prog_5_method_2_code 15 = .ok (.getfield 21, 3) := by decide +kernel
theorem d_X3_add_18 : decode prog_5_method_2_code 18 = .ok (.iload_n 1, 1) := by decide +kernel
theorem d_X3_add_19 : decode prog_5_method_2_code 19 = .ok (.iastore, 1) := by decide +kernel
theorem d_X3_add_20 : decode prog_5_method_2_code 20 = .ok (.aload_n 0, 1) := by decide +kernel
theorem d_X3_add_21 : decode prog_5_method_2_code 21 = .ok (.dup, 1) := by decide +kernel
theorem d_X3_add_22 : decode prog_5_method_2_code 22 = .ok (.getfield 21, 3) := by decide +kernel
theorem d_X3_add_25 : decode prog_5_method_2_code 25 = .ok (.iconst 1, 1) := by decide +kernel
theorem d_X3_add_26 : decode prog_5_method_2_code 26 = .ok (.iadd, 1) := by decide +kernel
theorem d_X3_add_27 : decode prog_5_method_2_code 27 = .ok (.putfield 21, 3) := by decide +kernel
theorem d_X3_add_30 : decode prog_5_method_2_code 30 = .ok (.return_, 1) := by decide +kernel
def f_X3_add (κ : it_KK) (x1 : Int32) (S : it_SS) : Option (Unit × it_SS) :=
if 160 ≤ (S 5 1) then
some ((), S)
else
if it_bd (S 5 1) 160 = true then
some ((), it_up (it_up S 6 ((S 5 1) : Int32).toNatClampNeg x1) 5 1 (((it_up S 6 ((S 5 1) : Int32).toNatClampNeg x1) 5 1) + 1))
else none
set_option maxHeartbeats 4000000 in
set_option maxRecDepth 100000 in
theorem L_X3_add {g : it_G} {l : Launch} {κ : it_KK} {x1 : Int32} (ht : it_wt κ) {S : it_SS} {P : Unit → it_SS → Prop} (h : it_ok (f_X3_add κ x1 S) P) : it_Cn g l 1 it_m_X3_add [.ref 5, .int x1] κ S (it_pv κ P) := by
  refine it_Cn.of (by decide +kernel) (Nat.le_of_ble_eq_true rfl) ?_
  rw [f_X3_add] at h
  show it_Ev g l 1 it_m_X3_add 0 0 0 [some (.ref 5), some (.int x1)] [] κ S (it_pv κ P)
  refine ev_aload_n d_X3_add_0 rfl ?_
  refine ev_getI d_X3_add_1 fl_IcedTooSoon_Tape_21 ht.1 rfl ?_
  refine ev_sipush d_X3_add_4 kv_sipush_160 ?_
  refine ev_icmp_ge (tgt := 30) d_X3_add_7 (by decide) (fun hc1 => ?_) (fun hc1 => ?_)
  · have h := it_ok_t h hc1
    exact ev_ret (v := none) ⟨d_X3_add_30, rfl⟩ (by decide) (by decide) ⟨rfl, rfl, it_ok_r h⟩
  · have h := it_ok_f h hc1
    refine ev_aload_n d_X3_add_10 rfl ?_
    refine ev_getRr (r := 6) rfl d_X3_add_11 fl_IcedTooSoon_Tape_9 ht.1 rfl ?_
    refine ev_aload_n d_X3_add_14 rfl ?_
    refine ev_getI d_X3_add_15 fl_IcedTooSoon_Tape_21 ht.1 rfl ?_
    refine ev_iload_n d_X3_add_18 rfl ?_
    obtain ⟨hb2, h⟩ := it_ok_g h
    refine ev_iast d_X3_add_19 (by decide) (ht).2.1 (it_bd_in hb2) ?_
    refine ev_aload_n d_X3_add_20 rfl ?_
    refine ev_dup d_X3_add_21 rfl ?_
    refine ev_getI d_X3_add_22 fl_IcedTooSoon_Tape_21 ht.1 rfl ?_
    refine ev_iconst d_X3_add_25 kv_iconst_1 ?_
    refine ev_iadd d_X3_add_26 ?_
    refine ev_putI d_X3_add_27 (by decide) fl_IcedTooSoon_Tape_21 fw_3_1 ht.1 rfl ?_
    exact ev_ret (v := none) ⟨d_X3_add_30, rfl⟩ (by decide) (by decide) ⟨rfl, rfl, it_ok_r h⟩
theorem d_X3_empty_0 : decode prog_5_method_3_code 0 = .ok (.aload_n 0, 1) := by decide +kernel
theorem d_X3_empty_1 : decode prog_5_method_3_code 1 = .ok (.iconst 0, 1) := by decide +kernel
theorem d_X3_empty_2 : decode prog_5_method_3_code 2 = .ok (.putfield 21, 3) := by decide +kernel
theorem d_X3_empty_5 : decode prog_5_method_3_code 5 = .ok (.return_, 1) := by decide +kernel
def f_X3_empty (κ : it_KK)  (S : it_SS) : Option (Unit × it_SS) :=
some ((), it_up S 5 1 0)
set_option maxHeartbeats 4000000 in
set_option maxRecDepth 100000 in
theorem L_X3_empty {g : it_G} {l : Launch} {κ : it_KK} (ht : it_wt κ) {S : it_SS} {P : Unit → it_SS → Prop} (h : it_ok (f_X3_empty κ  S) P) : it_Cn g l 1 it_m_X3_empty [.ref 5] κ S (it_pv κ P) := by
  refine it_Cn.of (by decide +kernel) (Nat.le_of_ble_eq_true rfl) ?_
  rw [f_X3_empty] at h
  show it_Ev g l 1 it_m_X3_empty 0 0 0 [some (.ref 5)] [] κ S (it_pv κ P)
  refine ev_aload_n d_X3_empty_0 rfl ?_
  refine ev_iconst d_X3_empty_1 kv_iconst_0 ?_
  refine ev_putI d_X3_empty_2 (by decide) fl_IcedTooSoon_Tape_21 fw_3_1 ht.1 rfl ?_
  exact ev_ret (v := none) ⟨d_X3_empty_5, rfl⟩ (by decide) (by decide) ⟨rfl, rfl, it_ok_r h⟩
theorem d_X3_write_0 : decode prog_5_method_13_code 0 = .ok (.aload_n 0, 1) := by decide +kernel
theorem d_X3_write_1 : decode prog_5_method_13_code 1 = .ok (.getfield 27, 3) := by decide +kernel
theorem d_X3_write_4 : decode prog_5_method_13_code 4 = .ok (.sipush 160, 3) := by decide +kernel
theorem d_X3_write_7 : decode prog_5_method_13_code 7 = .ok (.if_icmp .ge 23, 3) := by decide +kernel
theorem d_X3_write_10 : decode prog_5_method_13_code 10 = .ok (.aload_n 0, 1) := by decide +kernel
theorem d_X3_write_11 : decode prog_5_method_13_code 11 = .ok (.getfield 15, 3) := by decide +kernel
theorem d_X3_write_14 : decode prog_5_method_13_code 14 = .ok (.aload_n 0, 1) := by decide +kernel
theorem d_X3_write_15 : decode prog_5_method_13_code 15 = .ok (.getfield 27, 3) := by decide +kernel
theorem d_X3_write_18 : decode prog_5_method_13_code 18 = .ok (.iload_n 1, 1) := by decide +kernel
theorem d_X3_write_19 : decode prog_5_method_13_code 19 = .ok (.iastore, 1) := by decide +kernel
theorem d_X3_write_20 : decode prog_5_method_13_code 20 = .ok (.aload_n 0, 1) := by decide +kernel
theorem d_X3_write_21 : decode prog_5_method_13_code 21 = .ok (.dup, 1) := by decide +kernel
theorem d_X3_write_22 : decode prog_5_method_13_code 22 = .ok (.getfield 27, 3) := by decide +kernel
theorem d_X3_write_25 : decode prog_5_method_13_code 25 = .ok (.iconst 1, 1) := by decide +kernel
theorem d_X3_write_26 : decode prog_5_method_13_code 26 = .ok (.iadd, 1) := by decide +kernel
theorem d_X3_write_27 : decode prog_5_method_13_code 27 = .ok (.putfield 27, 3) := by decide +kernel
theorem d_X3_write_30 : decode prog_5_method_13_code 30 = .ok (.return_, 1) := by decide +kernel
def f_X3_write (κ : it_KK) (x1 : Int32) (S : it_SS) : Option (Unit × it_SS) :=
if 160 ≤ (S 5 7) then
some ((), S)
else
if it_bd (S 5 7) 160 = true then
some ((), it_up (it_up S 7 ((S 5 7) : Int32).toNatClampNeg x1) 5 7 (((it_up S 7 ((S 5 7) : Int32).toNatClampNeg x1) 5 7) + 1))
else none
set_option maxHeartbeats 4000000 in
set_option maxRecDepth 100000 in
theorem L_X3_write {g : it_G} {l : Launch} {κ : it_KK} {x1 : Int32} (ht : it_wt κ) {S : it_SS} {P : Unit → it_SS → Prop} (h : it_ok (f_X3_write κ x1 S) P) : it_Cn g l 1 it_m_X3_write [.ref 5, .int x1] κ S (it_pv κ P) := by
  refine it_Cn.of (by decide +kernel) (Nat.le_of_ble_eq_true rfl) ?_
  rw [f_X3_write] at h
  show it_Ev g l 1 it_m_X3_write 0 0 0 [some (.ref 5), some (.int x1)] [] κ S (it_pv κ P)
  refine ev_aload_n d_X3_write_0 rfl ?_
  refine ev_getI d_X3_write_1 fl_IcedTooSoon_Tape_27 ht.1 rfl ?_
  refine ev_sipush d_X3_write_4 kv_sipush_160 ?_
  refine ev_icmp_ge (tgt := 30) d_X3_write_7 (by decide) (fun hc1 => ?_) (fun hc1 => ?_)
  · have h := it_ok_t h hc1
    exact ev_ret (v := none) ⟨d_X3_write_30, rfl⟩ (by decide) (by decide) ⟨rfl, rfl, it_ok_r h⟩
  · have h := it_ok_f h hc1
    refine ev_aload_n d_X3_write_10 rfl ?_
    refine ev_getRr (r := 7) rfl d_X3_write_11 fl_IcedTooSoon_Tape_15 ht.1 rfl ?_
    refine ev_aload_n d_X3_write_14 rfl ?_
    refine ev_getI d_X3_write_15 fl_IcedTooSoon_Tape_27 ht.1 rfl ?_
    refine ev_iload_n d_X3_write_18 rfl ?_
    obtain ⟨hb2, h⟩ := it_ok_g h
    refine ev_iast d_X3_write_19 (by decide) (ht).2.2.1 (it_bd_in hb2) ?_
    refine ev_aload_n d_X3_write_20 rfl ?_
    refine ev_dup d_X3_write_21 rfl ?_
    refine ev_getI d_X3_write_22 fl_IcedTooSoon_Tape_27 ht.1 rfl ?_
    refine ev_iconst d_X3_write_25 kv_iconst_1 ?_
    refine ev_iadd d_X3_write_26 ?_
    refine ev_putI d_X3_write_27 (by decide) fl_IcedTooSoon_Tape_27 fw_3_7 ht.1 rfl ?_
    exact ev_ret (v := none) ⟨d_X3_write_30, rfl⟩ (by decide) (by decide) ⟨rfl, rfl, it_ok_r h⟩
theorem d_X3_joins_0 : decode prog_5_method_9_code 0 = .ok (.iload_n 1, 1) := by decide +kernel
theorem d_X3_joins_1 : decode prog_5_method_9_code 1 = .ok (.tableswitch 107 0 3 #[31, 45, 59, 83], 31) := by decide +kernel
theorem d_X3_joins_32 : decode prog_5_method_9_code 32 = .ok (.aload_n 0, 1) := by decide +kernel
theorem d_X3_joins_33 : decode prog_5_method_9_code 33 = .ok (.getfield 45, 3) := by decide +kernel
theorem d_X3_joins_36 : decode prog_5_method_9_code 36 = .ok (.iconst 3, 1) := by decide +kernel
theorem d_X3_joins_37 : decode prog_5_method_9_code 37 = .ok (.if_icmp .ne 7, 3) := by decide +kernel
theorem d_X3_joins_40 : decode prog_5_method_9_code 40 = .ok (.iconst 1, 1) := by decide +kernel
theorem d_X3_joins_41 : decode prog_5_method_9_code 41 = .ok (.goto 4, 3) := by decide +kernel
theorem d_X3_joins_44 : decode prog_5_method_9_code 44 = .ok (.iconst 0, 1) := by decide +kernel
theorem d_X3_joins_45 : decode prog_5_method_9_code 45 = .ok (.ireturn, 1) := by decide +kernel
theorem d_X3_joins_46 : decode prog_5_method_9_code 46 = .ok (.aload_n 0, 1) := by decide +kernel
theorem d_X3_joins_47 : decode prog_5_method_9_code 47 = .ok (.getfield 45, 3) := by decide +kernel
theorem d_X3_joins_50 : decode prog_5_method_9_code 50 = .ok (.iconst 4, 1) := by decide +kernel
theorem d_X3_joins_51 : decode prog_5_method_9_code 51 = .ok (.if_icmp .ne 7, 3) := by decide +kernel
theorem d_X3_joins_54 : decode prog_5_method_9_code 54 = .ok (.iconst 1, 1) := by decide +kernel
theorem d_X3_joins_55 : decode prog_5_method_9_code 55 = .ok (.goto 4, 3) := by decide +kernel
theorem d_X3_joins_58 : decode prog_5_method_9_code 58 = .ok (.iconst 0, 1) := by decide +kernel
theorem d_X3_joins_59 : decode prog_5_method_9_code 59 = .ok (.ireturn, 1) := by decide +kernel
theorem d_X3_joins_60 : decode prog_5_method_9_code 60 = .ok (.aload_n 0, 1) := by decide +kernel
theorem d_X3_joins_61 : decode prog_5_method_9_code 61 = .ok (.getfield 45, 3) := by decide +kernel
theorem d_X3_joins_64 : decode prog_5_method_9_code 64 = .ok (.bipush 60, 2) := by decide +kernel
theorem d_X3_joins_66 : decode prog_5_method_9_code 66 = .ok (.if_icmp .eq 12, 3) := by decide +kernel
theorem d_X3_joins_69 : decode prog_5_method_9_code 69 = .ok (.aload_n 0, 1) := by decide +kernel
theorem d_X3_joins_70 : decode prog_5_method_9_code 70 = .ok (.getfield 45, 3) := by decide +kernel
theorem d_X3_joins_73 : decode prog_5_method_9_code 73 = .ok (.bipush 61, 2) := by decide +kernel
theorem d_X3_joins_75 : decode prog_5_method_9_code 75 = .ok (.if_icmp .ne 7, 3) := by decide +kernel
theorem d_X3_joins_78 : decode prog_5_method_9_code 78 = .ok (.iconst 1, 1) := by decide +kernel
theorem d_X3_joins_79 : decode prog_5_method_9_code 79 = .ok (.goto 4, 3) := by decide +kernel
theorem d_X3_joins_82 : decode prog_5_method_9_code 82 = .ok (.iconst 0, 1) := by decide +kernel
theorem d_X3_joins_83 : decode prog_5_method_9_code 83 = .ok (.ireturn, 1) := by decide +kernel
theorem d_X3_joins_84 : decode prog_5_method_9_code 84 = .ok (.aload_n 0, 1) := by decide +kernel
theorem d_X3_joins_85 : decode prog_5_method_9_code 85 = .ok (.getfield 45, 3) := by decide +kernel
theorem d_X3_joins_88 : decode prog_5_method_9_code 88 = .ok (.bipush 43, 2) := by decide +kernel
theorem d_X3_joins_90 : decode prog_5_method_9_code 90 = .ok (.if_icmp .eq 12, 3) := by decide +kernel
theorem d_X3_joins_93 : decode prog_5_method_9_code 93 = .ok (.aload_n 0, 1) := by decide +kernel
theorem d_X3_joins_94 : decode prog_5_method_9_code 94 = .ok (.getfield 45, 3) := by decide +kernel
theorem d_X3_joins_97 : decode prog_5_method_9_code 97 = .ok (.bipush 45, 2) := by decide +kernel
theorem d_X3_joins_99 : decode prog_5_method_9_code 99 = .ok (.if_icmp .ne 7, 3) := by decide +kernel
theorem d_X3_joins_102 : decode prog_5_method_9_code 102 = .ok (.iconst 1, 1) := by decide +kernel
theorem d_X3_joins_103 : decode prog_5_method_9_code 103 = .ok (.goto 4, 3) := by decide +kernel
theorem d_X3_joins_106 : decode prog_5_method_9_code 106 = .ok (.iconst 0, 1) := by decide +kernel
theorem d_X3_joins_107 : decode prog_5_method_9_code 107 = .ok (.ireturn, 1) := by decide +kernel
theorem d_X3_joins_108 : decode prog_5_method_9_code 108 = .ok (.aload_n 0, 1) := by decide +kernel
theorem d_X3_joins_109 : decode prog_5_method_9_code 109 = .ok (.getfield 45, 3) := by decide +kernel
theorem d_X3_joins_112 : decode prog_5_method_9_code 112 = .ok (.bipush 42, 2) := by decide +kernel
theorem d_X3_joins_114 : decode prog_5_method_9_code 114 = .ok (.if_icmp .ne 7, 3) := by decide +kernel
theorem d_X3_joins_117 : decode prog_5_method_9_code 117 = .ok (.iconst 1, 1) := by decide +kernel
theorem d_X3_joins_118 : decode prog_5_method_9_code 118 = .ok (.goto 4, 3) := by decide +kernel
theorem d_X3_joins_121 : decode prog_5_method_9_code 121 = .ok (.iconst 0, 1) := by decide +kernel
theorem d_X3_joins_122 : decode prog_5_method_9_code 122 = .ok (.ireturn, 1) := by decide +kernel
def f_X3_joins (κ : it_KK) (x1 : Int32) (S : it_SS) : Option (Int32 × it_SS) :=
if x1 = 0 then
if (S 5 3) = 3 then
some (1, S)
else
some (0, S)
else if x1 = 1 then
if (S 5 3) = 4 then
some (1, S)
else
some (0, S)
else if x1 = 2 then
if (S 5 3) = 60 then
some (1, S)
else
if (S 5 3) = 61 then
some (1, S)
else
some (0, S)
else if x1 = 3 then
if (S 5 3) = 43 then
some (1, S)
else
if (S 5 3) = 45 then
some (1, S)
else
some (0, S)
else 
if (S 5 3) = 42 then
some (1, S)
else
some (0, S)
set_option maxHeartbeats 4000000 in
set_option maxRecDepth 100000 in
theorem L_X3_joins {g : it_G} {l : Launch} {κ : it_KK} {x1 : Int32} (ht : it_wt κ) {S : it_SS} {P : Int32 → it_SS → Prop} (h : it_ok (f_X3_joins κ x1 S) P) : it_Cn g l 1 it_m_X3_joins [.ref 5, .int x1] κ S (it_pi κ P) := by
  refine it_Cn.of (by decide +kernel) (Nat.le_of_ble_eq_true rfl) ?_
  rw [f_X3_joins] at h
  show it_Ev g l 1 it_m_X3_joins 0 0 0 [some (.ref 5), some (.int x1)] [] κ S (it_pi κ P)
  refine ev_iload_n d_X3_joins_0 rfl ?_
  rcases Classical.em (x1 = 0) with hc1 | hc1
  · have h := it_ok_t h hc1
    refine ev_table (c1 := 0) (off := 31) (tgt := 32) hc1 d_X3_joins_1 (by decide) (by decide) (by decide) (by decide) ?_
    refine ev_aload_n d_X3_joins_32 rfl ?_
    refine ev_getI d_X3_joins_33 fl_IcedTooSoon_Tape_45 ht.1 rfl ?_
    refine ev_iconst d_X3_joins_36 kv_iconst_3 ?_
    refine ev_icmp_ne (tgt := 44) d_X3_joins_37 (by decide) (fun hc2 => ?_) (fun hc2 => ?_)
    · have h := it_ok_f h hc2
      refine ev_iconst d_X3_joins_44 kv_iconst_0 ?_
      exact ev_ret (v := some (.int _)) ⟨d_X3_joins_45, _, rfl, rfl⟩ (by decide) (by decide) ⟨rfl, _, rfl, it_ok_r h⟩
    · have h := it_ok_t h hc2
      refine ev_iconst d_X3_joins_40 kv_iconst_1 ?_
      refine ev_goto (tgt := 45) d_X3_joins_41 (by decide) ?_
      exact ev_ret (v := some (.int _)) ⟨d_X3_joins_45, _, rfl, rfl⟩ (by decide) (by decide) ⟨rfl, _, rfl, it_ok_r h⟩
  · have h := it_ok_f h hc1
    rcases Classical.em (x1 = 1) with hc3 | hc3
    · have h := it_ok_t h hc3
      refine ev_table (c1 := 1) (off := 45) (tgt := 46) hc3 d_X3_joins_1 (by decide) (by decide) (by decide) (by decide) ?_
      refine ev_aload_n d_X3_joins_46 rfl ?_
      refine ev_getI d_X3_joins_47 fl_IcedTooSoon_Tape_45 ht.1 rfl ?_
      refine ev_iconst d_X3_joins_50 kv_iconst_4 ?_
      refine ev_icmp_ne (tgt := 58) d_X3_joins_51 (by decide) (fun hc4 => ?_) (fun hc4 => ?_)
      · have h := it_ok_f h hc4
        refine ev_iconst d_X3_joins_58 kv_iconst_0 ?_
        exact ev_ret (v := some (.int _)) ⟨d_X3_joins_59, _, rfl, rfl⟩ (by decide) (by decide) ⟨rfl, _, rfl, it_ok_r h⟩
      · have h := it_ok_t h hc4
        refine ev_iconst d_X3_joins_54 kv_iconst_1 ?_
        refine ev_goto (tgt := 59) d_X3_joins_55 (by decide) ?_
        exact ev_ret (v := some (.int _)) ⟨d_X3_joins_59, _, rfl, rfl⟩ (by decide) (by decide) ⟨rfl, _, rfl, it_ok_r h⟩
    · have h := it_ok_f h hc3
      rcases Classical.em (x1 = 2) with hc5 | hc5
      · have h := it_ok_t h hc5
        refine ev_table (c1 := 2) (off := 59) (tgt := 60) hc5 d_X3_joins_1 (by decide) (by decide) (by decide) (by decide) ?_
        refine ev_aload_n d_X3_joins_60 rfl ?_
        refine ev_getI d_X3_joins_61 fl_IcedTooSoon_Tape_45 ht.1 rfl ?_
        refine ev_bipush d_X3_joins_64 kv_bipush_60 ?_
        refine ev_icmp_eq (tgt := 78) d_X3_joins_66 (by decide) (fun hc6 => ?_) (fun hc6 => ?_)
        · have h := it_ok_t h hc6
          refine ev_iconst d_X3_joins_78 kv_iconst_1 ?_
          refine ev_goto (tgt := 83) d_X3_joins_79 (by decide) ?_
          exact ev_ret (v := some (.int _)) ⟨d_X3_joins_83, _, rfl, rfl⟩ (by decide) (by decide) ⟨rfl, _, rfl, it_ok_r h⟩
        · have h := it_ok_f h hc6
          refine ev_aload_n d_X3_joins_69 rfl ?_
          refine ev_getI d_X3_joins_70 fl_IcedTooSoon_Tape_45 ht.1 rfl ?_
          refine ev_bipush d_X3_joins_73 kv_bipush_61 ?_
          refine ev_icmp_ne (tgt := 82) d_X3_joins_75 (by decide) (fun hc7 => ?_) (fun hc7 => ?_)
          · have h := it_ok_f h hc7
            refine ev_iconst d_X3_joins_82 kv_iconst_0 ?_
            exact ev_ret (v := some (.int _)) ⟨d_X3_joins_83, _, rfl, rfl⟩ (by decide) (by decide) ⟨rfl, _, rfl, it_ok_r h⟩
          · have h := it_ok_t h hc7
            refine ev_iconst d_X3_joins_78 kv_iconst_1 ?_
            refine ev_goto (tgt := 83) d_X3_joins_79 (by decide) ?_
            exact ev_ret (v := some (.int _)) ⟨d_X3_joins_83, _, rfl, rfl⟩ (by decide) (by decide) ⟨rfl, _, rfl, it_ok_r h⟩
      · have h := it_ok_f h hc5
        rcases Classical.em (x1 = 3) with hc8 | hc8
        · have h := it_ok_t h hc8
          refine ev_table (c1 := 3) (off := 83) (tgt := 84) hc8 d_X3_joins_1 (by decide) (by decide) (by decide) (by decide) ?_
          refine ev_aload_n d_X3_joins_84 rfl ?_
          refine ev_getI d_X3_joins_85 fl_IcedTooSoon_Tape_45 ht.1 rfl ?_
          refine ev_bipush d_X3_joins_88 kv_bipush_43 ?_
          refine ev_icmp_eq (tgt := 102) d_X3_joins_90 (by decide) (fun hc9 => ?_) (fun hc9 => ?_)
          · have h := it_ok_t h hc9
            refine ev_iconst d_X3_joins_102 kv_iconst_1 ?_
            refine ev_goto (tgt := 107) d_X3_joins_103 (by decide) ?_
            exact ev_ret (v := some (.int _)) ⟨d_X3_joins_107, _, rfl, rfl⟩ (by decide) (by decide) ⟨rfl, _, rfl, it_ok_r h⟩
          · have h := it_ok_f h hc9
            refine ev_aload_n d_X3_joins_93 rfl ?_
            refine ev_getI d_X3_joins_94 fl_IcedTooSoon_Tape_45 ht.1 rfl ?_
            refine ev_bipush d_X3_joins_97 kv_bipush_45 ?_
            refine ev_icmp_ne (tgt := 106) d_X3_joins_99 (by decide) (fun hc10 => ?_) (fun hc10 => ?_)
            · have h := it_ok_f h hc10
              refine ev_iconst d_X3_joins_106 kv_iconst_0 ?_
              exact ev_ret (v := some (.int _)) ⟨d_X3_joins_107, _, rfl, rfl⟩ (by decide) (by decide) ⟨rfl, _, rfl, it_ok_r h⟩
            · have h := it_ok_t h hc10
              refine ev_iconst d_X3_joins_102 kv_iconst_1 ?_
              refine ev_goto (tgt := 107) d_X3_joins_103 (by decide) ?_
              exact ev_ret (v := some (.int _)) ⟨d_X3_joins_107, _, rfl, rfl⟩ (by decide) (by decide) ⟨rfl, _, rfl, it_ok_r h⟩
        · have h := it_ok_f h hc8
          refine ev_tableOut (tgt := 108) d_X3_joins_1 (it_sw (fun h1 h2 => ?_)) (by decide) ?_
          · rcases (by omega : (x1).toInt = 0 ∨ (x1).toInt = 1 ∨ (x1).toInt = 2 ∨ (x1).toInt = 3) with q | q | q | q
            · exact hc1 (Int32.toInt_inj.mp (q.trans (by decide)))
            · exact hc3 (Int32.toInt_inj.mp (q.trans (by decide)))
            · exact hc5 (Int32.toInt_inj.mp (q.trans (by decide)))
            · exact hc8 (Int32.toInt_inj.mp (q.trans (by decide)))
          · skip
            refine ev_aload_n d_X3_joins_108 rfl ?_
            refine ev_getI d_X3_joins_109 fl_IcedTooSoon_Tape_45 ht.1 rfl ?_
            refine ev_bipush d_X3_joins_112 kv_bipush_42 ?_
            refine ev_icmp_ne (tgt := 121) d_X3_joins_114 (by decide) (fun hc11 => ?_) (fun hc11 => ?_)
            · have h := it_ok_f h hc11
              refine ev_iconst d_X3_joins_121 kv_iconst_0 ?_
              exact ev_ret (v := some (.int _)) ⟨d_X3_joins_122, _, rfl, rfl⟩ (by decide) (by decide) ⟨rfl, _, rfl, it_ok_r h⟩
            · have h := it_ok_t h hc11
              refine ev_iconst d_X3_joins_117 kv_iconst_1 ?_
              refine ev_goto (tgt := 122) d_X3_joins_118 (by decide) ?_
              exact ev_ret (v := some (.int _)) ⟨d_X3_joins_122, _, rfl, rfl⟩ (by decide) (by decide) ⟨rfl, _, rfl, it_ok_r h⟩
theorem d_X5_count_0 : decode prog_1_method_2_code 0 = .ok (.iload_n 1, 1) := by decide +kernel
theorem d_X5_count_1 : decode prog_1_method_2_code 1 = .ok (.tableswitch 87 0 5 #[39, 47, 55, 63, 71, 79], 39) := by decide +kernel
theorem d_X5_count_40 : decode prog_1_method_2_code 40 = .ok (.aload_n 0, 1) := by decide +kernel
theorem d_X5_count_41 : decode prog_1_method_2_code 41 = .ok (.getfield 28, 3) := by decide +kernel
theorem d_X5_count_44 : decode prog_1_method_2_code 44 = .ok (.getfield 79, 3) := by decide +kernel
theorem d_X5_count_47 : decode prog_1_method_2_code 47 = .ok (.ireturn, 1) := by decide +kernel
theorem d_X5_count_48 : decode prog_1_method_2_code 48 = .ok (.aload_n 0, 1) := by decide +kernel
theorem d_X5_count_49 : decode prog_1_method_2_code 49 = .ok (.getfield 28, 3) := by decide +kernel
theorem d_X5_count_52 : decode prog_1_method_2_code 52 = .ok (.invokevirtual 83, 3) := by decide +kernel
theorem d_X5_count_55 : decode prog_1_method_2_code 55 = .ok (.ireturn, 1) := by decide +kernel
theorem d_X5_count_56 : decode prog_1_method_2_code 56 = .ok (.aload_n 0, 1) := by decide +kernel
theorem d_X5_count_57 : decode prog_1_method_2_code 57 = .ok (.getfield 28, 3) := by decide +kernel
theorem d_X5_count_60 : decode prog_1_method_2_code 60 = .ok (.getfield 86, 3) := by decide +kernel
theorem d_X5_count_63 : decode prog_1_method_2_code 63 = .ok (.ireturn, 1) := by decide +kernel
theorem d_X5_count_64 : decode prog_1_method_2_code 64 = .ok (.aload_n 0, 1) := by decide +kernel
theorem d_X5_count_65 : decode prog_1_method_2_code 65 = .ok (.getfield 10, 3) := by decide +kernel
theorem d_X5_count_68 : decode prog_1_method_2_code 68 = .ok (.getfield 89, 3) := by decide +kernel
theorem d_X5_count_71 : decode prog_1_method_2_code 71 = .ok (.ireturn, 1) := by decide +kernel
theorem d_X5_count_72 : decode prog_1_method_2_code 72 = .ok (.aload_n 0, 1) := by decide +kernel
theorem d_X5_count_73 : decode prog_1_method_2_code 73 = .ok (.getfield 28, 3) := by decide +kernel
theorem d_X5_count_76 : decode prog_1_method_2_code 76 = .ok (.getfield 92, 3) := by decide +kernel
theorem d_X5_count_79 : decode prog_1_method_2_code 79 = .ok (.ireturn, 1) := by decide +kernel
theorem d_X5_count_80 : decode prog_1_method_2_code 80 = .ok (.aload_n 0, 1) := by decide +kernel
theorem d_X5_count_81 : decode prog_1_method_2_code 81 = .ok (.getfield 19, 3) := by decide +kernel
theorem d_X5_count_84 : decode prog_1_method_2_code 84 = .ok (.getfield 95, 3) := by decide +kernel
theorem d_X5_count_87 : decode prog_1_method_2_code 87 = .ok (.ireturn, 1) := by decide +kernel
theorem d_X5_count_88 : decode prog_1_method_2_code 88 = .ok (.bipush (-2), 2) := by decide +kernel
theorem d_X5_count_90 : decode prog_1_method_2_code 90 = .ok (.ireturn, 1) := by decide +kernel
def f_X5_count (κ : it_KK) (x1 : Int32) (S : it_SS) : Option (Int32 × it_SS) :=
if x1 = 0 then
some ((S 9 1), S)
else if x1 = 1 then
it_bi (f_X0_glassesThere κ 9 S) (fun r4 S3 =>
some (r4, S3))
else if x1 = 2 then
some ((S 9 9), S)
else if x1 = 3 then
some ((S 1 3), S)
else if x1 = 4 then
some ((S 9 10), S)
else if x1 = 5 then
some ((S 5 1), S)
else 
some ((-2), S)
set_option maxHeartbeats 4000000 in
set_option maxRecDepth 100000 in
theorem L_X5_count {g : it_G} {l : Launch} {κ : it_KK} {x1 : Int32} (hx : it_wx κ) {S : it_SS} {P : Int32 → it_SS → Prop} (h : it_ok (f_X5_count κ x1 S) P) : it_Cn g l 4 it_m_X5_count [.ref 0, .int x1] κ S (it_pi κ P) := by
  refine it_Cn.of (by decide +kernel) (Nat.le_of_ble_eq_true rfl) ?_
  rw [f_X5_count] at h
  show it_Ev g l 4 it_m_X5_count 0 0 0 [some (.ref 0), some (.int x1)] [] κ S (it_pi κ P)
  refine ev_iload_n d_X5_count_0 rfl ?_
  rcases Classical.em (x1 = 0) with hc1 | hc1
  · have h := it_ok_t h hc1
    refine ev_table (c1 := 0) (off := 39) (tgt := 40) hc1 d_X5_count_1 (by decide) (by decide) (by decide) (by decide) ?_
    refine ev_aload_n d_X5_count_40 rfl ?_
    refine ev_getRr (r := 9) rfl d_X5_count_41 fl_IcedTooSoon_28 hx.1 rfl ?_
    refine ev_getI d_X5_count_44 fl_IcedTooSoon_79 ((hx).2.2.2.1).1 rfl ?_
    exact ev_ret (v := some (.int _)) ⟨d_X5_count_47, _, rfl, rfl⟩ (by decide) (by decide) ⟨rfl, _, rfl, it_ok_r h⟩
  · have h := it_ok_f h hc1
    rcases Classical.em (x1 = 1) with hc2 | hc2
    · have h := it_ok_t h hc2
      refine ev_table (c1 := 1) (off := 47) (tgt := 48) hc2 d_X5_count_1 (by decide) (by decide) (by decide) (by decide) ?_
      refine ev_aload_n d_X5_count_48 rfl ?_
      refine ev_getRr (r := 9) rfl d_X5_count_49 fl_IcedTooSoon_28 hx.1 rfl ?_
      refine ev_callV (ci := 0) (b := 9) (M' := it_m_X0_glassesThere) (d' := 3) (As := []) d_X5_count_52 ml_IcedTooSoon_83 ((hx).2.2.2.1).1.1 ((hx).2.2.2.1).1.2.1 ⟨_, rfl, rfl⟩ rfl rfl (Nat.le_of_ble_eq_true rfl) (by decide) (by decide) (by decide) (L_X0_glassesThere (hx.2.1) (hx).2.2.2.1 (it_ok_b h)) (fun _ _ _ _ q => by cases q.1; rfl) ?_
      rintro _ _ S3 ⟨rfl, r4, rfl, h⟩
      show it_Ev g l 4 it_m_X5_count 0 0 55 [some (.ref 0), some (.int x1)] [.int r4] κ S3 (it_pi κ P)
      exact ev_ret (v := some (.int _)) ⟨d_X5_count_55, _, rfl, rfl⟩ (by decide) (by decide) ⟨rfl, _, rfl, it_ok_r h⟩
    · have h := it_ok_f h hc2
      rcases Classical.em (x1 = 2) with hc5 | hc5
      · have h := it_ok_t h hc5
        refine ev_table (c1 := 2) (off := 55) (tgt := 56) hc5 d_X5_count_1 (by decide) (by decide) (by decide) (by decide) ?_
        refine ev_aload_n d_X5_count_56 rfl ?_
        refine ev_getRr (r := 9) rfl d_X5_count_57 fl_IcedTooSoon_28 hx.1 rfl ?_
        refine ev_getI d_X5_count_60 fl_IcedTooSoon_86 ((hx).2.2.2.1).1 rfl ?_
        exact ev_ret (v := some (.int _)) ⟨d_X5_count_63, _, rfl, rfl⟩ (by decide) (by decide) ⟨rfl, _, rfl, it_ok_r h⟩
      · have h := it_ok_f h hc5
        rcases Classical.em (x1 = 3) with hc6 | hc6
        · have h := it_ok_t h hc6
          refine ev_table (c1 := 3) (off := 63) (tgt := 64) hc6 d_X5_count_1 (by decide) (by decide) (by decide) (by decide) ?_
          refine ev_aload_n d_X5_count_64 rfl ?_
          refine ev_getRr (r := 1) rfl d_X5_count_65 fl_IcedTooSoon_10 hx.1 rfl ?_
          refine ev_getI d_X5_count_68 fl_IcedTooSoon_89 (hx.2.1).1 rfl ?_
          exact ev_ret (v := some (.int _)) ⟨d_X5_count_71, _, rfl, rfl⟩ (by decide) (by decide) ⟨rfl, _, rfl, it_ok_r h⟩
        · have h := it_ok_f h hc6
          rcases Classical.em (x1 = 4) with hc7 | hc7
          · have h := it_ok_t h hc7
            refine ev_table (c1 := 4) (off := 71) (tgt := 72) hc7 d_X5_count_1 (by decide) (by decide) (by decide) (by decide) ?_
            refine ev_aload_n d_X5_count_72 rfl ?_
            refine ev_getRr (r := 9) rfl d_X5_count_73 fl_IcedTooSoon_28 hx.1 rfl ?_
            refine ev_getI d_X5_count_76 fl_IcedTooSoon_92 ((hx).2.2.2.1).1 rfl ?_
            exact ev_ret (v := some (.int _)) ⟨d_X5_count_79, _, rfl, rfl⟩ (by decide) (by decide) ⟨rfl, _, rfl, it_ok_r h⟩
          · have h := it_ok_f h hc7
            rcases Classical.em (x1 = 5) with hc8 | hc8
            · have h := it_ok_t h hc8
              refine ev_table (c1 := 5) (off := 79) (tgt := 80) hc8 d_X5_count_1 (by decide) (by decide) (by decide) (by decide) ?_
              refine ev_aload_n d_X5_count_80 rfl ?_
              refine ev_getRr (r := 5) rfl d_X5_count_81 fl_IcedTooSoon_19 hx.1 rfl ?_
              refine ev_getI d_X5_count_84 fl_IcedTooSoon_95 (hx.2.2.1).1 rfl ?_
              exact ev_ret (v := some (.int _)) ⟨d_X5_count_87, _, rfl, rfl⟩ (by decide) (by decide) ⟨rfl, _, rfl, it_ok_r h⟩
            · have h := it_ok_f h hc8
              refine ev_tableOut (tgt := 88) d_X5_count_1 (it_sw (fun h1 h2 => ?_)) (by decide) ?_
              · rcases (by omega : (x1).toInt = 0 ∨ (x1).toInt = 1 ∨ (x1).toInt = 2 ∨ (x1).toInt = 3 ∨ (x1).toInt = 4 ∨ (x1).toInt = 5) with q | q | q | q | q | q
                · exact hc1 (Int32.toInt_inj.mp (q.trans (by decide)))
                · exact hc2 (Int32.toInt_inj.mp (q.trans (by decide)))
                · exact hc5 (Int32.toInt_inj.mp (q.trans (by decide)))
                · exact hc6 (Int32.toInt_inj.mp (q.trans (by decide)))
                · exact hc7 (Int32.toInt_inj.mp (q.trans (by decide)))
                · exact hc8 (Int32.toInt_inj.mp (q.trans (by decide)))
              · skip
                refine ev_bipush d_X5_count_88 kv_bipush_m2 ?_
                exact ev_ret (v := some (.int _)) ⟨d_X5_count_90, _, rfl, rfl⟩ (by decide) (by decide) ⟨rfl, _, rfl, it_ok_r h⟩
theorem d_X5_dawn_0 : decode prog_1_method_3_code 0 = .ok (.iload_n 1, 1) := by decide +kernel
theorem d_X5_dawn_1 : decode prog_1_method_3_code 1 = .ok (.iconst 0, 1) := by decide +kernel
theorem d_X5_dawn_2 : decode prog_1_method_3_code 2 = .ok (.sipush 999, 3) := by decide +kernel
theorem d_X5_dawn_5 : decode prog_1_method_3_code 5 = .ok (.invokestatic 96, 3) := by decide +kernel
theorem d_X5_dawn_8 : decode prog_1_method_3_code 8 = .ok (.ifCond .eq 6, 3) := by decide +kernel
theorem d_X5_dawn_11 : decode prog_1_method_3_code 11 = .ok (.bipush (-2), 2) := by decide +kernel
theorem d_X5_dawn_13 : decode prog_1_method_3_code 13 = .ok (.ireturn, 1) := by decide +kernel
theorem d_X5_dawn_14 : decode prog_1_method_3_code 14 = .ok (.aload_n 0, 1) := by decide +kernel
theorem d_X5_dawn_15 : decode prog_1_method_3_code 15 = .ok (.getfield 28, 3) := by decide +kernel
theorem d_X5_dawn_18 : decode prog_1_method_3_code 18 = .ok (.getfield 86, 3) := by decide +kernel
theorem d_X5_dawn_21 : decode prog_1_method_3_code 21 = .ok (.istore_n 2, 1) := by decide +kernel
theorem d_X5_dawn_22 : decode prog_1_method_3_code 22 = .ok (.aload_n 0, 1) := by decide +kernel
theorem d_X5_dawn_23 : decode prog_1_method_3_code 23 = .ok (.getfield 28, 3) := by decide +kernel
theorem d_X5_dawn_26 : decode prog_1_method_3_code 26 = .ok (.iload_n 1, 1) := by decide +kernel
theorem d_X5_dawn_27 : decode prog_1_method_3_code 27 = .ok (.putfield 86, 3) := by decide +kernel
theorem d_X5_dawn_30 : decode prog_1_method_3_code 30 = .ok (.iload_n 2, 1) := by decide +kernel
theorem d_X5_dawn_31 : decode prog_1_method_3_code 31 = .ok (.ireturn, 1) := by decide +kernel
def f_X5_dawn (κ : it_KK) (x1 : Int32) (S : it_SS) : Option (Int32 × it_SS) :=
it_bi (f_X5_isOutside κ x1 0 999 S) (fun r2 S1 =>
if r2 = 0 then
some ((S1 9 9), it_up S1 9 9 x1)
else
some ((-2), S1))
set_option maxHeartbeats 4000000 in
set_option maxRecDepth 100000 in
theorem L_X5_dawn {g : it_G} {l : Launch} {κ : it_KK} {x1 : Int32} (hx : it_wx κ) {S : it_SS} {P : Int32 → it_SS → Prop} (h : it_ok (f_X5_dawn κ x1 S) P) : it_Cn g l 2 it_m_X5_dawn [.ref 0, .int x1] κ S (it_pi κ P) := by
  refine it_Cn.of (by decide +kernel) (Nat.le_of_ble_eq_true rfl) ?_
  rw [f_X5_dawn] at h
  show it_Ev g l 2 it_m_X5_dawn 0 0 0 [some (.ref 0), some (.int x1), none] [] κ S (it_pi κ P)
  refine ev_iload_n d_X5_dawn_0 rfl ?_
  refine ev_iconst d_X5_dawn_1 kv_iconst_0 ?_
  refine ev_sipush d_X5_dawn_2 kv_sipush_999 ?_
  refine ev_callS (M' := it_m_X5_isOutside) (d' := 1) (As := [.int x1, .int 0, .int 999]) d_X5_dawn_5 ml_IcedTooSoon_96 rfl rfl (Nat.le_of_ble_eq_true rfl) (by decide) (by decide) (by decide) (L_X5_isOutside  (it_ok_b h)) (fun _ _ _ _ q => by cases q.1; rfl) ?_
  rintro _ _ S1 ⟨rfl, r2, rfl, h⟩
  show it_Ev g l 2 it_m_X5_dawn 0 0 8 [some (.ref 0), some (.int x1), none] [.int r2] κ S1 (it_pi κ P)
  refine ev_if_eq (tgt := 14) d_X5_dawn_8 (by decide) (fun hc3 => ?_) (fun hc3 => ?_)
  · have h := it_ok_t h hc3
    refine ev_aload_n d_X5_dawn_14 rfl ?_
    refine ev_getRr (r := 9) rfl d_X5_dawn_15 fl_IcedTooSoon_28 hx.1 rfl ?_
    refine ev_getI d_X5_dawn_18 fl_IcedTooSoon_86 ((hx).2.2.2.1).1 rfl ?_
    refine ev_istore_n d_X5_dawn_21 (by decide) ?_
    show it_Ev g l 2 it_m_X5_dawn 0 0 22 [some (.ref 0), some (.int x1), some (.int (S1 9 9))] [] κ S1 (it_pi κ P)
    refine ev_aload_n d_X5_dawn_22 rfl ?_
    refine ev_getRr (r := 9) rfl d_X5_dawn_23 fl_IcedTooSoon_28 hx.1 rfl ?_
    refine ev_iload_n d_X5_dawn_26 rfl ?_
    refine ev_putI d_X5_dawn_27 (by decide) fl_IcedTooSoon_86 fw_0_9 ((hx).2.2.2.1).1 rfl ?_
    refine ev_iload_n d_X5_dawn_30 rfl ?_
    exact ev_ret (v := some (.int _)) ⟨d_X5_dawn_31, _, rfl, rfl⟩ (by decide) (by decide) ⟨rfl, _, rfl, it_ok_r h⟩
  · have h := it_ok_f h hc3
    refine ev_bipush d_X5_dawn_11 kv_bipush_m2 ?_
    exact ev_ret (v := some (.int _)) ⟨d_X5_dawn_13, _, rfl, rfl⟩ (by decide) (by decide) ⟨rfl, _, rfl, it_ok_r h⟩
theorem d_X5_feed_0 : decode prog_1_method_4_code 0 = .ok (.iload_n 1, 1) := by decide +kernel
theorem d_X5_feed_1 : decode prog_1_method_4_code 1 = .ok (.iconst 1, 1) := by decide +kernel
theorem d_X5_feed_2 : decode prog_1_method_4_code 2 = .ok (.iconst 5, 1) := by decide +kernel
theorem d_X5_feed_3 : decode prog_1_method_4_code 3 = .ok (.invokestatic 96, 3) := by decide +kernel
theorem d_X5_feed_6 : decode prog_1_method_4_code 6 = .ok (.ifCond .ne 41, 3) := by decide +kernel
theorem d_X5_feed_9 : decode prog_1_method_4_code 9 = .ok (.iload_n 2, 1) := by decide +kernel
theorem d_X5_feed_10 : decode prog_1_method_4_code 10 = .ok (.invokestatic 100, 3) := by decide +kernel
theorem d_X5_feed_13 : decode prog_1_method_4_code 13 = .ok (.ifCond .ne 34, 3) := by decide +kernel
theorem d_X5_feed_16 : decode prog_1_method_4_code 16 = .ok (.iload_n 3, 1) := by decide +kernel
theorem d_X5_feed_17 : decode prog_1_method_4_code 17 = .ok (.invokestatic 100, 3) := by decide +kernel
theorem d_X5_feed_20 : decode prog_1_method_4_code 20 = .ok (.ifCond .ne 27, 3) := by decide +kernel
theorem d_X5_feed_23 : decode prog_1_method_4_code 23 = .ok (.iload 4, 2) := by decide +kernel
theorem d_X5_feed_25 : decode prog_1_method_4_code 25 = .ok (.invokestatic 100, 3) := by decide +kernel
theorem d_X5_feed_28 : decode prog_1_method_4_code 28 = .ok (.ifCond .ne 19, 3) := by decide +kernel
theorem d_X5_feed_31 : decode prog_1_method_4_code 31 = .ok (.iload 5, 2) := by decide +kernel
theorem d_X5_feed_33 : decode prog_1_method_4_code 33 = .ok (.invokestatic 100, 3) := by decide +kernel
theorem d_X5_feed_36 : decode prog_1_method_4_code 36 = .ok (.ifCond .ne 11, 3) := by decide +kernel
theorem d_X5_feed_39 : decode prog_1_method_4_code 39 = .ok (.iload 6, 2) := by decide +kernel
theorem d_X5_feed_41 : decode prog_1_method_4_code 41 = .ok (.invokestatic 100, 3) := by decide +kernel
theorem d_X5_feed_44 : decode prog_1_method_4_code 44 = .ok (.ifCond .eq 6, 3) := by decide +kernel
theorem d_X5_feed_47 : decode prog_1_method_4_code 47 = .ok (.bipush (-2), 2) := by decide +kernel
theorem d_X5_feed_49 : decode prog_1_method_4_code 49 = .ok (.ireturn, 1) := by decide +kernel
theorem d_X5_feed_50 : decode prog_1_method_4_code 50 = .ok (.aload_n 0, 1) := by decide +kernel
theorem d_X5_feed_51 : decode prog_1_method_4_code 51 = .ok (.getfield 19, 3) := by decide +kernel
theorem d_X5_feed_54 : decode prog_1_method_4_code 54 = .ok (.getfield 95, 3) := by decide +kernel
theorem d_X5_feed_57 : decode prog_1_method_4_code 57 = .ok (.iload_n 1, 1) := by decide +kernel
theorem d_X5_feed_58 : decode prog_1_method_4_code 58 = .ok (.iadd, 1) := by decide +kernel
theorem d_X5_feed_59 : decode prog_1_method_4_code 59 = .ok (.sipush 160, 3) := by decide +kernel
theorem d_X5_feed_62 : decode prog_1_method_4_code 62 = .ok (.if_icmp .le 6, 3) := by decide +kernel
theorem d_X5_feed_65 : decode prog_1_method_4_code 65 = .ok (.bipush (-4), 2) := by decide +kernel
theorem d_X5_feed_67 : decode prog_1_method_4_code 67 = .ok (.ireturn, 1) := by decide +kernel
theorem d_X5_feed_68 : decode prog_1_method_4_code 68 = .ok (.iconst 0, 1) := by decide +kernel
theorem d_X5_feed_69 : decode prog_1_method_4_code 69 = .ok (.istore 7, 2) := by decide +kernel
theorem d_X5_feed_71 : decode prog_1_method_4_code 71 = .ok (.iload 7, 2) := by decide +kernel
theorem d_X5_feed_73 : decode prog_1_method_4_code 73 = .ok (.iload_n 1, 1) := by decide +kernel
theorem d_X5_feed_74 : decode prog_1_method_4_code 74 = .ok (.if_icmp .ge 59, 3) := by decide +kernel
theorem d_X5_feed_77 : decode prog_1_method_4_code 77 = .ok (.aload_n 0, 1) := by decide +kernel
theorem d_X5_feed_78 : decode prog_1_method_4_code 78 = .ok (.getfield 19, 3) := by decide +kernel
theorem d_X5_feed_81 : decode prog_1_method_4_code 81 = .ok (.iload 7, 2) := by decide +kernel
theorem d_X5_feed_83 : decode prog_1_method_4_code 83 = .ok (.ifCond .ne 7, 3) := by decide +kernel
theorem d_X5_feed_86 : decode prog_1_method_4_code 86 = .ok (.iload_n 2, 1) := by decide +kernel
theorem d_X5_feed_87 : decode prog_1_method_4_code 87 = .ok (.goto 37, 3) := by decide +kernel
theorem d_X5_feed_90 : decode prog_1_method_4_code 90 = .ok (.iload 7, 2) := by decide +kernel
theorem d_X5_feed_92 : decode prog_1_method_4_code 92 = .ok (.iconst 1, 1) := by decide +kernel
theorem d_X5_feed_93 : decode prog_1_method_4_code 93 = .ok (.if_icmp .ne 7, 3) := by decide +kernel
theorem d_X5_feed_96 : decode prog_1_method_4_code 96 = .ok (.iload_n 3, 1) := by decide +kernel
theorem d_X5_feed_97 : decode prog_1_method_4_code 97 = .ok (.goto 27, 3) := by decide +kernel
theorem d_X5_feed_100 : decode prog_1_method_4_code 100 = .ok (.iload 7, 2) := by decide +kernel
theorem d_X5_feed_102 : decode prog_1_method_4_code 102 = .ok (.iconst 2, 1) := by decide +kernel
theorem d_X5_feed_103 : decode prog_1_method_4_code 103 = .ok (.if_icmp .ne 8, 3) := by decide +kernel
theorem d_X5_feed_106 : decode prog_1_method_4_code 106 = .ok (.iload 4, 2) := by decide +kernel
theorem d_X5_feed_108 : decode prog_1_method_4_code 108 = .ok (.goto 16, 3) := by decide +kernel
theorem d_X5_feed_111 : decode prog_1_method_4_code 111 = .ok (.iload 7, 2) := by decide +kernel
theorem d_X5_feed_113 : decode prog_1_method_4_code 113 = .ok (.iconst 3, 1) := by decide +kernel
theorem d_X5_feed_114 : decode prog_1_method_4_code 114 = .ok (.if_icmp .ne 8, 3) := by decide +kernel
theorem d_X5_feed_117 : decode prog_1_method_4_code 117 = .ok (.iload 5, 2) := by decide +kernel
theorem d_X5_feed_119 : decode prog_1_method_4_code 119 = .ok (.goto 5, 3) := by decide +kernel
theorem d_X5_feed_122 : decode prog_1_method_4_code 122 = .ok (.iload 6, 2) := by decide +kernel
theorem d_X5_feed_124 : decode prog_1_method_4_code 124 = .ok (.invokevirtual 61, 3) := by decide +kernel
theorem d_X5_feed_127 : decode prog_1_method_4_code 127 = .ok (.iinc 7 1, 3) := by decide +kernel
theorem d_X5_feed_130 : decode prog_1_method_4_code 130 = .ok (.goto (-59), 3) := by decide +kernel
theorem d_X5_feed_133 : decode prog_1_method_4_code 133 = .ok (.aload_n 0, 1) := by decide +kernel
theorem d_X5_feed_134 : decode prog_1_method_4_code 134 = .ok (.getfield 19, 3) := by decide +kernel
theorem d_X5_feed_137 : decode prog_1_method_4_code 137 = .ok (.getfield 95, 3) := by decide +kernel
theorem d_X5_feed_140 : decode prog_1_method_4_code 140 = .ok (.ireturn, 1) := by decide +kernel
def lp_X5_feed_71 (κ : it_KK) (x1 : Int32) (x2 : Int32) (x3 : Int32) (x4 : Int32) (x5 : Int32) (x6 : Int32) (k71 : (it_SS → Option (Int32 × it_SS))) : Nat → Int32 → it_SS → Option (Int32 × it_SS)
  | 0, _, _ => none
  | n71 + 1, v7, S => if x1 ≤ v7 then
k71  S
else
if v7 = 0 then
it_bi (f_X3_add κ x2 S) (fun _ S33 =>
lp_X5_feed_71 κ x1 x2 x3 x4 x5 x6 k71 n71 (v7 + 1) S33)
else
if v7 = 1 then
it_bi (f_X3_add κ x3 S) (fun _ S31 =>
lp_X5_feed_71 κ x1 x2 x3 x4 x5 x6 k71 n71 (v7 + 1) S31)
else
if v7 = 2 then
it_bi (f_X3_add κ x4 S) (fun _ S29 =>
lp_X5_feed_71 κ x1 x2 x3 x4 x5 x6 k71 n71 (v7 + 1) S29)
else
if v7 = 3 then
it_bi (f_X3_add κ x5 S) (fun _ S27 =>
lp_X5_feed_71 κ x1 x2 x3 x4 x5 x6 k71 n71 (v7 + 1) S27)
else
it_bi (f_X3_add κ x6 S) (fun _ S25 =>
lp_X5_feed_71 κ x1 x2 x3 x4 x5 x6 k71 n71 (v7 + 1) S25)
def f_X5_feed (κ : it_KK) (x1 : Int32) (x2 : Int32) (x3 : Int32) (x4 : Int32) (x5 : Int32) (x6 : Int32) (S : it_SS) : Option (Int32 × it_SS) :=
it_bi (f_X5_isOutside κ x1 1 5 S) (fun r2 S1 =>
if r2 = 0 then
it_bi (f_X5_isNoByte κ x2 S1) (fun r5 S4 =>
if r5 = 0 then
it_bi (f_X5_isNoByte κ x3 S4) (fun r8 S7 =>
if r8 = 0 then
it_bi (f_X5_isNoByte κ x4 S7) (fun r11 S10 =>
if r11 = 0 then
it_bi (f_X5_isNoByte κ x5 S10) (fun r14 S13 =>
if r14 = 0 then
it_bi (f_X5_isNoByte κ x6 S13) (fun r17 S16 =>
if r17 = 0 then
if ((S16 5 1) + x1) ≤ 160 then
lp_X5_feed_71 κ x1 x2 x3 x4 x5 x6 (fun  S35 =>
some ((S35 5 1), S35)) it_FU 0 S16
else
some ((-4), S16)
else
some ((-2), S16))
else
some ((-2), S13))
else
some ((-2), S10))
else
some ((-2), S7))
else
some ((-2), S4))
else
some ((-2), S1))
set_option maxHeartbeats 4000000 in
set_option maxRecDepth 100000 in
theorem Llp_X5_feed_71 {g : it_G} {l : Launch} {κ : it_KK} {x1 : Int32} {x2 : Int32} {x3 : Int32} {x4 : Int32} {x5 : Int32} {x6 : Int32} (hx : it_wx κ) {P : Int32 → it_SS → Prop} {k71 : (it_SS → Option (Int32 × it_SS))} (hk71 : ∀  (S : it_SS), it_ok (k71  S) P → it_Ev g l 3 it_m_X5_feed 0 0 133 [some (.ref 0), none, none, none, none, none, none, none] [] κ S (it_pi κ P)) : ∀ (n : Nat) (v7 : Int32) (S : it_SS), it_ok (lp_X5_feed_71 κ x1 x2 x3 x4 x5 x6 k71 n v7 S) P → it_Ev g l 3 it_m_X5_feed 0 0 71 [some (.ref 0), some (.int x1), some (.int x2), some (.int x3), some (.int x4), some (.int x5), some (.int x6), some (.int v7)] [] κ S (it_pi κ P) := by
  intro n
  induction n with
  | zero =>
    intro _ _ h
    exact (it_ok_n h).elim
  | succ n71 ih71 =>
    intro v7 S h
    rw [lp_X5_feed_71] at h
    refine ev_iload d_X5_feed_71 rfl ?_
    refine ev_iload_n d_X5_feed_73 rfl ?_
    refine ev_icmp_ge (tgt := 133) d_X5_feed_74 (by decide) (fun hc20 => ?_) (fun hc20 => ?_)
    · have h := it_ok_t h hc20
      refine ev_keep [true, false, false, false, false, false, false, false] ?_
      exact hk71  _ h
    · have h := it_ok_f h hc20
      refine ev_aload_n d_X5_feed_77 rfl ?_
      refine ev_getRr (r := 5) rfl d_X5_feed_78 fl_IcedTooSoon_19 hx.1 rfl ?_
      refine ev_iload d_X5_feed_81 rfl ?_
      refine ev_if_ne (tgt := 90) d_X5_feed_83 (by decide) (fun hc21 => ?_) (fun hc21 => ?_)
      · have h := it_ok_f h hc21
        refine ev_iload d_X5_feed_90 rfl ?_
        refine ev_iconst d_X5_feed_92 kv_iconst_1 ?_
        refine ev_icmp_ne (tgt := 100) d_X5_feed_93 (by decide) (fun hc22 => ?_) (fun hc22 => ?_)
        · have h := it_ok_f h hc22
          refine ev_iload d_X5_feed_100 rfl ?_
          refine ev_iconst d_X5_feed_102 kv_iconst_2 ?_
          refine ev_icmp_ne (tgt := 111) d_X5_feed_103 (by decide) (fun hc23 => ?_) (fun hc23 => ?_)
          · have h := it_ok_f h hc23
            refine ev_iload d_X5_feed_111 rfl ?_
            refine ev_iconst d_X5_feed_113 kv_iconst_3 ?_
            refine ev_icmp_ne (tgt := 122) d_X5_feed_114 (by decide) (fun hc24 => ?_) (fun hc24 => ?_)
            · have h := it_ok_f h hc24
              refine ev_iload d_X5_feed_122 rfl ?_
              refine ev_callV (ci := 3) (b := 5) (M' := it_m_X3_add) (d' := 1) (As := [.int x6]) d_X5_feed_124 ml_IcedTooSoon_61 (hx.2.2.1).1.1 (hx.2.2.1).1.2.1 ⟨_, rfl, rfl⟩ rfl rfl (Nat.le_of_ble_eq_true rfl) (by decide) (by decide) (by decide) (L_X3_add (hx.2.2.1) (it_ok_b h)) (fun _ _ _ _ q => by cases q.1; rfl) ?_
              rintro _ _ S25 ⟨rfl, rfl, h⟩
              show it_Ev g l 3 it_m_X5_feed 0 0 127 [some (.ref 0), some (.int x1), some (.int x2), some (.int x3), some (.int x4), some (.int x5), some (.int x6), some (.int v7)] [] κ S25 (it_pi κ P)
              refine ev_iinc d_X5_feed_127 kv_iconst_1 rfl (by decide) ?_
              show it_Ev g l 3 it_m_X5_feed 0 0 130 [some (.ref 0), some (.int x1), some (.int x2), some (.int x3), some (.int x4), some (.int x5), some (.int x6), some (.int (v7 + 1))] [] κ S25 (it_pi κ P)
              refine ev_goto (tgt := 71) d_X5_feed_130 (by decide) ?_
              refine ev_keep [true, true, true, true, true, true, true, true] ?_
              exact ih71 _ _ h
            · have h := it_ok_t h hc24
              refine ev_iload d_X5_feed_117 rfl ?_
              refine ev_goto (tgt := 124) d_X5_feed_119 (by decide) ?_
              refine ev_callV (ci := 3) (b := 5) (M' := it_m_X3_add) (d' := 1) (As := [.int x5]) d_X5_feed_124 ml_IcedTooSoon_61 (hx.2.2.1).1.1 (hx.2.2.1).1.2.1 ⟨_, rfl, rfl⟩ rfl rfl (Nat.le_of_ble_eq_true rfl) (by decide) (by decide) (by decide) (L_X3_add (hx.2.2.1) (it_ok_b h)) (fun _ _ _ _ q => by cases q.1; rfl) ?_
              rintro _ _ S27 ⟨rfl, rfl, h⟩
              show it_Ev g l 3 it_m_X5_feed 0 0 127 [some (.ref 0), some (.int x1), some (.int x2), some (.int x3), some (.int x4), some (.int x5), some (.int x6), some (.int v7)] [] κ S27 (it_pi κ P)
              refine ev_iinc d_X5_feed_127 kv_iconst_1 rfl (by decide) ?_
              show it_Ev g l 3 it_m_X5_feed 0 0 130 [some (.ref 0), some (.int x1), some (.int x2), some (.int x3), some (.int x4), some (.int x5), some (.int x6), some (.int (v7 + 1))] [] κ S27 (it_pi κ P)
              refine ev_goto (tgt := 71) d_X5_feed_130 (by decide) ?_
              refine ev_keep [true, true, true, true, true, true, true, true] ?_
              exact ih71 _ _ h
          · have h := it_ok_t h hc23
            refine ev_iload d_X5_feed_106 rfl ?_
            refine ev_goto (tgt := 124) d_X5_feed_108 (by decide) ?_
            refine ev_callV (ci := 3) (b := 5) (M' := it_m_X3_add) (d' := 1) (As := [.int x4]) d_X5_feed_124 ml_IcedTooSoon_61 (hx.2.2.1).1.1 (hx.2.2.1).1.2.1 ⟨_, rfl, rfl⟩ rfl rfl (Nat.le_of_ble_eq_true rfl) (by decide) (by decide) (by decide) (L_X3_add (hx.2.2.1) (it_ok_b h)) (fun _ _ _ _ q => by cases q.1; rfl) ?_
            rintro _ _ S29 ⟨rfl, rfl, h⟩
            show it_Ev g l 3 it_m_X5_feed 0 0 127 [some (.ref 0), some (.int x1), some (.int x2), some (.int x3), some (.int x4), some (.int x5), some (.int x6), some (.int v7)] [] κ S29 (it_pi κ P)
            refine ev_iinc d_X5_feed_127 kv_iconst_1 rfl (by decide) ?_
            show it_Ev g l 3 it_m_X5_feed 0 0 130 [some (.ref 0), some (.int x1), some (.int x2), some (.int x3), some (.int x4), some (.int x5), some (.int x6), some (.int (v7 + 1))] [] κ S29 (it_pi κ P)
            refine ev_goto (tgt := 71) d_X5_feed_130 (by decide) ?_
            refine ev_keep [true, true, true, true, true, true, true, true] ?_
            exact ih71 _ _ h
        · have h := it_ok_t h hc22
          refine ev_iload_n d_X5_feed_96 rfl ?_
          refine ev_goto (tgt := 124) d_X5_feed_97 (by decide) ?_
          refine ev_callV (ci := 3) (b := 5) (M' := it_m_X3_add) (d' := 1) (As := [.int x3]) d_X5_feed_124 ml_IcedTooSoon_61 (hx.2.2.1).1.1 (hx.2.2.1).1.2.1 ⟨_, rfl, rfl⟩ rfl rfl (Nat.le_of_ble_eq_true rfl) (by decide) (by decide) (by decide) (L_X3_add (hx.2.2.1) (it_ok_b h)) (fun _ _ _ _ q => by cases q.1; rfl) ?_
          rintro _ _ S31 ⟨rfl, rfl, h⟩
          show it_Ev g l 3 it_m_X5_feed 0 0 127 [some (.ref 0), some (.int x1), some (.int x2), some (.int x3), some (.int x4), some (.int x5), some (.int x6), some (.int v7)] [] κ S31 (it_pi κ P)
          refine ev_iinc d_X5_feed_127 kv_iconst_1 rfl (by decide) ?_
          show it_Ev g l 3 it_m_X5_feed 0 0 130 [some (.ref 0), some (.int x1), some (.int x2), some (.int x3), some (.int x4), some (.int x5), some (.int x6), some (.int (v7 + 1))] [] κ S31 (it_pi κ P)
          refine ev_goto (tgt := 71) d_X5_feed_130 (by decide) ?_
          refine ev_keep [true, true, true, true, true, true, true, true] ?_
          exact ih71 _ _ h
      · have h := it_ok_t h hc21
        refine ev_iload_n d_X5_feed_86 rfl ?_
        refine ev_goto (tgt := 124) d_X5_feed_87 (by decide) ?_
        refine ev_callV (ci := 3) (b := 5) (M' := it_m_X3_add) (d' := 1) (As := [.int x2]) d_X5_feed_124 ml_IcedTooSoon_61 (hx.2.2.1).1.1 (hx.2.2.1).1.2.1 ⟨_, rfl, rfl⟩ rfl rfl (Nat.le_of_ble_eq_true rfl) (by decide) (by decide) (by decide) (L_X3_add (hx.2.2.1) (it_ok_b h)) (fun _ _ _ _ q => by cases q.1; rfl) ?_
        rintro _ _ S33 ⟨rfl, rfl, h⟩
        show it_Ev g l 3 it_m_X5_feed 0 0 127 [some (.ref 0), some (.int x1), some (.int x2), some (.int x3), some (.int x4), some (.int x5), some (.int x6), some (.int v7)] [] κ S33 (it_pi κ P)
        refine ev_iinc d_X5_feed_127 kv_iconst_1 rfl (by decide) ?_
        show it_Ev g l 3 it_m_X5_feed 0 0 130 [some (.ref 0), some (.int x1), some (.int x2), some (.int x3), some (.int x4), some (.int x5), some (.int x6), some (.int (v7 + 1))] [] κ S33 (it_pi κ P)
        refine ev_goto (tgt := 71) d_X5_feed_130 (by decide) ?_
        refine ev_keep [true, true, true, true, true, true, true, true] ?_
        exact ih71 _ _ h
set_option maxHeartbeats 4000000 in
set_option maxRecDepth 100000 in
theorem L_X5_feed {g : it_G} {l : Launch} {κ : it_KK} {x1 : Int32} {x2 : Int32} {x3 : Int32} {x4 : Int32} {x5 : Int32} {x6 : Int32} (hx : it_wx κ) {S : it_SS} {P : Int32 → it_SS → Prop} (h : it_ok (f_X5_feed κ x1 x2 x3 x4 x5 x6 S) P) : it_Cn g l 3 it_m_X5_feed [.ref 0, .int x1, .int x2, .int x3, .int x4, .int x5, .int x6] κ S (it_pi κ P) := by
  refine it_Cn.of (by decide +kernel) (Nat.le_of_ble_eq_true rfl) ?_
  rw [f_X5_feed] at h
  show it_Ev g l 3 it_m_X5_feed 0 0 0 [some (.ref 0), some (.int x1), some (.int x2), some (.int x3), some (.int x4), some (.int x5), some (.int x6), none] [] κ S (it_pi κ P)
  refine ev_iload_n d_X5_feed_0 rfl ?_
  refine ev_iconst d_X5_feed_1 kv_iconst_1 ?_
  refine ev_iconst d_X5_feed_2 kv_iconst_5 ?_
  refine ev_callS (M' := it_m_X5_isOutside) (d' := 1) (As := [.int x1, .int 1, .int 5]) d_X5_feed_3 ml_IcedTooSoon_96 rfl rfl (Nat.le_of_ble_eq_true rfl) (by decide) (by decide) (by decide) (L_X5_isOutside  (it_ok_b h)) (fun _ _ _ _ q => by cases q.1; rfl) ?_
  rintro _ _ S1 ⟨rfl, r2, rfl, h⟩
  show it_Ev g l 3 it_m_X5_feed 0 0 6 [some (.ref 0), some (.int x1), some (.int x2), some (.int x3), some (.int x4), some (.int x5), some (.int x6), none] [.int r2] κ S1 (it_pi κ P)
  refine ev_if_ne (tgt := 47) d_X5_feed_6 (by decide) (fun hc3 => ?_) (fun hc3 => ?_)
  · have h := it_ok_f h hc3
    refine ev_bipush d_X5_feed_47 kv_bipush_m2 ?_
    exact ev_ret (v := some (.int _)) ⟨d_X5_feed_49, _, rfl, rfl⟩ (by decide) (by decide) ⟨rfl, _, rfl, it_ok_r h⟩
  · have h := it_ok_t h hc3
    refine ev_iload_n d_X5_feed_9 rfl ?_
    refine ev_callS (M' := it_m_X5_isNoByte) (d' := 2) (As := [.int x2]) d_X5_feed_10 ml_IcedTooSoon_100 rfl rfl (Nat.le_of_ble_eq_true rfl) (by decide) (by decide) (by decide) (L_X5_isNoByte  (it_ok_b h)) (fun _ _ _ _ q => by cases q.1; rfl) ?_
    rintro _ _ S4 ⟨rfl, r5, rfl, h⟩
    show it_Ev g l 3 it_m_X5_feed 0 0 13 [some (.ref 0), some (.int x1), some (.int x2), some (.int x3), some (.int x4), some (.int x5), some (.int x6), none] [.int r5] κ S4 (it_pi κ P)
    refine ev_if_ne (tgt := 47) d_X5_feed_13 (by decide) (fun hc6 => ?_) (fun hc6 => ?_)
    · have h := it_ok_f h hc6
      refine ev_bipush d_X5_feed_47 kv_bipush_m2 ?_
      exact ev_ret (v := some (.int _)) ⟨d_X5_feed_49, _, rfl, rfl⟩ (by decide) (by decide) ⟨rfl, _, rfl, it_ok_r h⟩
    · have h := it_ok_t h hc6
      refine ev_iload_n d_X5_feed_16 rfl ?_
      refine ev_callS (M' := it_m_X5_isNoByte) (d' := 2) (As := [.int x3]) d_X5_feed_17 ml_IcedTooSoon_100 rfl rfl (Nat.le_of_ble_eq_true rfl) (by decide) (by decide) (by decide) (L_X5_isNoByte  (it_ok_b h)) (fun _ _ _ _ q => by cases q.1; rfl) ?_
      rintro _ _ S7 ⟨rfl, r8, rfl, h⟩
      show it_Ev g l 3 it_m_X5_feed 0 0 20 [some (.ref 0), some (.int x1), some (.int x2), some (.int x3), some (.int x4), some (.int x5), some (.int x6), none] [.int r8] κ S7 (it_pi κ P)
      refine ev_if_ne (tgt := 47) d_X5_feed_20 (by decide) (fun hc9 => ?_) (fun hc9 => ?_)
      · have h := it_ok_f h hc9
        refine ev_bipush d_X5_feed_47 kv_bipush_m2 ?_
        exact ev_ret (v := some (.int _)) ⟨d_X5_feed_49, _, rfl, rfl⟩ (by decide) (by decide) ⟨rfl, _, rfl, it_ok_r h⟩
      · have h := it_ok_t h hc9
        refine ev_iload d_X5_feed_23 rfl ?_
        refine ev_callS (M' := it_m_X5_isNoByte) (d' := 2) (As := [.int x4]) d_X5_feed_25 ml_IcedTooSoon_100 rfl rfl (Nat.le_of_ble_eq_true rfl) (by decide) (by decide) (by decide) (L_X5_isNoByte  (it_ok_b h)) (fun _ _ _ _ q => by cases q.1; rfl) ?_
        rintro _ _ S10 ⟨rfl, r11, rfl, h⟩
        show it_Ev g l 3 it_m_X5_feed 0 0 28 [some (.ref 0), some (.int x1), some (.int x2), some (.int x3), some (.int x4), some (.int x5), some (.int x6), none] [.int r11] κ S10 (it_pi κ P)
        refine ev_if_ne (tgt := 47) d_X5_feed_28 (by decide) (fun hc12 => ?_) (fun hc12 => ?_)
        · have h := it_ok_f h hc12
          refine ev_bipush d_X5_feed_47 kv_bipush_m2 ?_
          exact ev_ret (v := some (.int _)) ⟨d_X5_feed_49, _, rfl, rfl⟩ (by decide) (by decide) ⟨rfl, _, rfl, it_ok_r h⟩
        · have h := it_ok_t h hc12
          refine ev_iload d_X5_feed_31 rfl ?_
          refine ev_callS (M' := it_m_X5_isNoByte) (d' := 2) (As := [.int x5]) d_X5_feed_33 ml_IcedTooSoon_100 rfl rfl (Nat.le_of_ble_eq_true rfl) (by decide) (by decide) (by decide) (L_X5_isNoByte  (it_ok_b h)) (fun _ _ _ _ q => by cases q.1; rfl) ?_
          rintro _ _ S13 ⟨rfl, r14, rfl, h⟩
          show it_Ev g l 3 it_m_X5_feed 0 0 36 [some (.ref 0), some (.int x1), some (.int x2), some (.int x3), some (.int x4), some (.int x5), some (.int x6), none] [.int r14] κ S13 (it_pi κ P)
          refine ev_if_ne (tgt := 47) d_X5_feed_36 (by decide) (fun hc15 => ?_) (fun hc15 => ?_)
          · have h := it_ok_f h hc15
            refine ev_bipush d_X5_feed_47 kv_bipush_m2 ?_
            exact ev_ret (v := some (.int _)) ⟨d_X5_feed_49, _, rfl, rfl⟩ (by decide) (by decide) ⟨rfl, _, rfl, it_ok_r h⟩
          · have h := it_ok_t h hc15
            refine ev_iload d_X5_feed_39 rfl ?_
            refine ev_callS (M' := it_m_X5_isNoByte) (d' := 2) (As := [.int x6]) d_X5_feed_41 ml_IcedTooSoon_100 rfl rfl (Nat.le_of_ble_eq_true rfl) (by decide) (by decide) (by decide) (L_X5_isNoByte  (it_ok_b h)) (fun _ _ _ _ q => by cases q.1; rfl) ?_
            rintro _ _ S16 ⟨rfl, r17, rfl, h⟩
            show it_Ev g l 3 it_m_X5_feed 0 0 44 [some (.ref 0), some (.int x1), some (.int x2), some (.int x3), some (.int x4), some (.int x5), some (.int x6), none] [.int r17] κ S16 (it_pi κ P)
            refine ev_if_eq (tgt := 50) d_X5_feed_44 (by decide) (fun hc18 => ?_) (fun hc18 => ?_)
            · have h := it_ok_t h hc18
              refine ev_aload_n d_X5_feed_50 rfl ?_
              refine ev_getRr (r := 5) rfl d_X5_feed_51 fl_IcedTooSoon_19 hx.1 rfl ?_
              refine ev_getI d_X5_feed_54 fl_IcedTooSoon_95 (hx.2.2.1).1 rfl ?_
              refine ev_iload_n d_X5_feed_57 rfl ?_
              refine ev_iadd d_X5_feed_58 ?_
              refine ev_sipush d_X5_feed_59 kv_sipush_160 ?_
              refine ev_icmp_le (tgt := 68) d_X5_feed_62 (by decide) (fun hc19 => ?_) (fun hc19 => ?_)
              · have h := it_ok_t h hc19
                refine ev_iconst d_X5_feed_68 kv_iconst_0 ?_
                refine ev_istore d_X5_feed_69 (by decide) ?_
                show it_Ev g l 3 it_m_X5_feed 0 0 71 [some (.ref 0), some (.int x1), some (.int x2), some (.int x3), some (.int x4), some (.int x5), some (.int x6), some (.int 0)] [] κ S16 (it_pi κ P)
                refine ev_keep [true, true, true, true, true, true, true, true] ?_
                refine Llp_X5_feed_71 hx (fun  S35 h => ?_) _ _ _ h
                show it_Ev g l 3 it_m_X5_feed 0 0 133 [some (.ref 0), none, none, none, none, none, none, none] [] κ S35 (it_pi κ P)
                refine ev_aload_n d_X5_feed_133 rfl ?_
                refine ev_getRr (r := 5) rfl d_X5_feed_134 fl_IcedTooSoon_19 hx.1 rfl ?_
                refine ev_getI d_X5_feed_137 fl_IcedTooSoon_95 (hx.2.2.1).1 rfl ?_
                exact ev_ret (v := some (.int _)) ⟨d_X5_feed_140, _, rfl, rfl⟩ (by decide) (by decide) ⟨rfl, _, rfl, it_ok_r h⟩
              · have h := it_ok_f h hc19
                refine ev_bipush d_X5_feed_65 kv_bipush_m4 ?_
                exact ev_ret (v := some (.int _)) ⟨d_X5_feed_67, _, rfl, rfl⟩ (by decide) (by decide) ⟨rfl, _, rfl, it_ok_r h⟩
            · have h := it_ok_f h hc18
              refine ev_bipush d_X5_feed_47 kv_bipush_m2 ?_
              exact ev_ret (v := some (.int _)) ⟨d_X5_feed_49, _, rfl, rfl⟩ (by decide) (by decide) ⟨rfl, _, rfl, it_ok_r h⟩
theorem d_X5_force_0 : decode prog_1_method_6_code 0 = .ok (.iload_n 1, 1) := by decide +kernel
theorem d_X5_force_1 : decode prog_1_method_6_code 1 = .ok (.iconst 0, 1) := by decide +kernel
theorem d_X5_force_2 : decode prog_1_method_6_code 2 = .ok (.aload_n 0, 1) := by decide +kernel
theorem d_X5_force_3 : decode prog_1_method_6_code 3 = .ok (.getfield 10, 3) := by decide +kernel
theorem d_X5_force_6 : decode prog_1_method_6_code 6 = .ok (.getfield 89, 3) := by decide +kernel
theorem d_X5_force_9 : decode prog_1_method_6_code 9 = .ok (.iconst 1, 1) := by decide +kernel
theorem d_X5_force_10 : decode prog_1_method_6_code 10 = .ok (.isub, 1) := by decide +kernel
theorem d_X5_force_11 : decode prog_1_method_6_code 11 = .ok (.invokestatic 96, 3) := by decide +kernel
theorem d_X5_force_14 : decode prog_1_method_6_code 14 = .ok (.ifCond .eq 6, 3) := by decide +kernel
theorem d_X5_force_17 : decode prog_1_method_6_code 17 = .ok (.bipush (-2), 2) := by decide +kernel
theorem d_X5_force_19 : decode prog_1_method_6_code 19 = .ok (.ireturn, 1) := by decide +kernel
theorem d_X5_force_20 : decode prog_1_method_6_code 20 = .ok (.aload_n 0, 1) := by decide +kernel
theorem d_X5_force_21 : decode prog_1_method_6_code 21 = .ok (.getfield 28, 3) := by decide +kernel
theorem d_X5_force_24 : decode prog_1_method_6_code 24 = .ok (.getfield 92, 3) := by decide +kernel
theorem d_X5_force_27 : decode prog_1_method_6_code 27 = .ok (.istore_n 2, 1) := by decide +kernel
theorem d_X5_force_28 : decode prog_1_method_6_code 28 = .ok (.aload_n 0, 1) := by decide +kernel
theorem d_X5_force_29 : decode prog_1_method_6_code 29 = .ok (.getfield 28, 3) := by decide +kernel
theorem d_X5_force_32 : decode prog_1_method_6_code 32 = .ok (.iload_n 1, 1) := by decide +kernel
theorem d_X5_force_33 : decode prog_1_method_6_code 33 = .ok (.putfield 92, 3) := by decide +kernel
theorem d_X5_force_36 : decode prog_1_method_6_code 36 = .ok (.iload_n 2, 1) := by decide +kernel
theorem d_X5_force_37 : decode prog_1_method_6_code 37 = .ok (.ireturn, 1) := by decide +kernel
def f_X5_force (κ : it_KK) (x1 : Int32) (S : it_SS) : Option (Int32 × it_SS) :=
it_bi (f_X5_isOutside κ x1 0 ((S 1 3) - 1) S) (fun r2 S1 =>
if r2 = 0 then
some ((S1 9 10), it_up S1 9 10 x1)
else
some ((-2), S1))
set_option maxHeartbeats 4000000 in
set_option maxRecDepth 100000 in
theorem L_X5_force {g : it_G} {l : Launch} {κ : it_KK} {x1 : Int32} (hx : it_wx κ) {S : it_SS} {P : Int32 → it_SS → Prop} (h : it_ok (f_X5_force κ x1 S) P) : it_Cn g l 2 it_m_X5_force [.ref 0, .int x1] κ S (it_pi κ P) := by
  refine it_Cn.of (by decide +kernel) (Nat.le_of_ble_eq_true rfl) ?_
  rw [f_X5_force] at h
  show it_Ev g l 2 it_m_X5_force 0 0 0 [some (.ref 0), some (.int x1), none] [] κ S (it_pi κ P)
  refine ev_iload_n d_X5_force_0 rfl ?_
  refine ev_iconst d_X5_force_1 kv_iconst_0 ?_
  refine ev_aload_n d_X5_force_2 rfl ?_
  refine ev_getRr (r := 1) rfl d_X5_force_3 fl_IcedTooSoon_10 hx.1 rfl ?_
  refine ev_getI d_X5_force_6 fl_IcedTooSoon_89 (hx.2.1).1 rfl ?_
  refine ev_iconst d_X5_force_9 kv_iconst_1 ?_
  refine ev_isub d_X5_force_10 ?_
  refine ev_callS (M' := it_m_X5_isOutside) (d' := 1) (As := [.int x1, .int 0, .int ((S 1 3) - 1)]) d_X5_force_11 ml_IcedTooSoon_96 rfl rfl (Nat.le_of_ble_eq_true rfl) (by decide) (by decide) (by decide) (L_X5_isOutside  (it_ok_b h)) (fun _ _ _ _ q => by cases q.1; rfl) ?_
  rintro _ _ S1 ⟨rfl, r2, rfl, h⟩
  show it_Ev g l 2 it_m_X5_force 0 0 14 [some (.ref 0), some (.int x1), none] [.int r2] κ S1 (it_pi κ P)
  refine ev_if_eq (tgt := 20) d_X5_force_14 (by decide) (fun hc3 => ?_) (fun hc3 => ?_)
  · have h := it_ok_t h hc3
    refine ev_aload_n d_X5_force_20 rfl ?_
    refine ev_getRr (r := 9) rfl d_X5_force_21 fl_IcedTooSoon_28 hx.1 rfl ?_
    refine ev_getI d_X5_force_24 fl_IcedTooSoon_92 ((hx).2.2.2.1).1 rfl ?_
    refine ev_istore_n d_X5_force_27 (by decide) ?_
    show it_Ev g l 2 it_m_X5_force 0 0 28 [some (.ref 0), some (.int x1), some (.int (S1 9 10))] [] κ S1 (it_pi κ P)
    refine ev_aload_n d_X5_force_28 rfl ?_
    refine ev_getRr (r := 9) rfl d_X5_force_29 fl_IcedTooSoon_28 hx.1 rfl ?_
    refine ev_iload_n d_X5_force_32 rfl ?_
    refine ev_putI d_X5_force_33 (by decide) fl_IcedTooSoon_92 fw_0_10 ((hx).2.2.2.1).1 rfl ?_
    refine ev_iload_n d_X5_force_36 rfl ?_
    exact ev_ret (v := some (.int _)) ⟨d_X5_force_37, _, rfl, rfl⟩ (by decide) (by decide) ⟨rfl, _, rfl, it_ok_r h⟩
  · have h := it_ok_f h hc3
    refine ev_bipush d_X5_force_17 kv_bipush_m2 ?_
    exact ev_ret (v := some (.int _)) ⟨d_X5_force_19, _, rfl, rfl⟩ (by decide) (by decide) ⟨rfl, _, rfl, it_ok_r h⟩
theorem d_X5_asks_0 : decode prog_1_method_7_code 0 = .ok (.iload_n 1, 1) := by decide +kernel
theorem d_X5_asks_1 : decode prog_1_method_7_code 1 = .ok (.iconst 0, 1) := by decide +kernel
theorem d_X5_asks_2 : decode prog_1_method_7_code 2 = .ok (.iconst 2, 1) := by decide +kernel
theorem d_X5_asks_3 : decode prog_1_method_7_code 3 = .ok (.invokestatic 96, 3) := by decide +kernel
theorem d_X5_asks_6 : decode prog_1_method_7_code 6 = .ok (.ifCond .ne 14, 3) := by decide +kernel
theorem d_X5_asks_9 : decode prog_1_method_7_code 9 = .ok (.aload_n 0, 1) := by decide +kernel
theorem d_X5_asks_10 : decode prog_1_method_7_code 10 = .ok (.getfield 28, 3) := by decide +kernel
theorem d_X5_asks_13 : decode prog_1_method_7_code 13 = .ok (.iload_n 2, 1) := by decide +kernel
theorem d_X5_asks_14 : decode prog_1_method_7_code 14 = .ok (.invokevirtual 107, 3) := by decide +kernel
theorem d_X5_asks_17 : decode prog_1_method_7_code 17 = .ok (.ifCond .ne 7, 3) := by decide +kernel
theorem d_X5_asks_20 : decode prog_1_method_7_code 20 = .ok (.sipush (-1000), 3) := by decide +kernel
theorem d_X5_asks_23 : decode prog_1_method_7_code 23 = .ok (.ireturn, 1) := by decide +kernel
theorem d_X5_asks_24 : decode prog_1_method_7_code 24 = .ok (.aload_n 0, 1) := by decide +kernel
theorem d_X5_asks_25 : decode prog_1_method_7_code 25 = .ok (.getfield 28, 3) := by decide +kernel
theorem d_X5_asks_28 : decode prog_1_method_7_code 28 = .ok (.iload_n 1, 1) := by decide +kernel
theorem d_X5_asks_29 : decode prog_1_method_7_code 29 = .ok (.iload_n 2, 1) := by decide +kernel
theorem d_X5_asks_30 : decode prog_1_method_7_code 30 = .ok (.invokevirtual 110, 3) := by decide +kernel
theorem d_X5_asks_33 : decode prog_1_method_7_code 33 = .ok (.ireturn, 1) := by decide +kernel
def f_X5_asks (κ : it_KK) (x1 : Int32) (x2 : Int32) (S : it_SS) : Option (Int32 × it_SS) :=
it_bi (f_X5_isOutside κ x1 0 2 S) (fun r2 S1 =>
if r2 = 0 then
it_bi (f_X0_hasGlass κ 9 x2 S1) (fun r5 S4 =>
if r5 = 0 then
some ((-1000), S4)
else
it_bi (f_X0_saying κ 9 x1 x2 S4) (fun r8 S7 =>
some (r8, S7)))
else
some ((-1000), S1))
set_option maxHeartbeats 4000000 in
set_option maxRecDepth 100000 in
theorem L_X5_asks {g : it_G} {l : Launch} {κ : it_KK} {x1 : Int32} {x2 : Int32} (hx : it_wx κ) {S : it_SS} {P : Int32 → it_SS → Prop} (h : it_ok (f_X5_asks κ x1 x2 S) P) : it_Cn g l 4 it_m_X5_asks [.ref 0, .int x1, .int x2] κ S (it_pi κ P) := by
  refine it_Cn.of (by decide +kernel) (Nat.le_of_ble_eq_true rfl) ?_
  rw [f_X5_asks] at h
  show it_Ev g l 4 it_m_X5_asks 0 0 0 [some (.ref 0), some (.int x1), some (.int x2)] [] κ S (it_pi κ P)
  refine ev_iload_n d_X5_asks_0 rfl ?_
  refine ev_iconst d_X5_asks_1 kv_iconst_0 ?_
  refine ev_iconst d_X5_asks_2 kv_iconst_2 ?_
  refine ev_callS (M' := it_m_X5_isOutside) (d' := 1) (As := [.int x1, .int 0, .int 2]) d_X5_asks_3 ml_IcedTooSoon_96 rfl rfl (Nat.le_of_ble_eq_true rfl) (by decide) (by decide) (by decide) (L_X5_isOutside  (it_ok_b h)) (fun _ _ _ _ q => by cases q.1; rfl) ?_
  rintro _ _ S1 ⟨rfl, r2, rfl, h⟩
  show it_Ev g l 4 it_m_X5_asks 0 0 6 [some (.ref 0), some (.int x1), some (.int x2)] [.int r2] κ S1 (it_pi κ P)
  refine ev_if_ne (tgt := 20) d_X5_asks_6 (by decide) (fun hc3 => ?_) (fun hc3 => ?_)
  · have h := it_ok_f h hc3
    refine ev_sipush d_X5_asks_20 kv_sipush_m1000 ?_
    exact ev_ret (v := some (.int _)) ⟨d_X5_asks_23, _, rfl, rfl⟩ (by decide) (by decide) ⟨rfl, _, rfl, it_ok_r h⟩
  · have h := it_ok_t h hc3
    refine ev_aload_n d_X5_asks_9 rfl ?_
    refine ev_getRr (r := 9) rfl d_X5_asks_10 fl_IcedTooSoon_28 hx.1 rfl ?_
    refine ev_iload_n d_X5_asks_13 rfl ?_
    refine ev_callV (ci := 0) (b := 9) (M' := it_m_X0_hasGlass) (d' := 2) (As := [.int x2]) d_X5_asks_14 ml_IcedTooSoon_107 ((hx).2.2.2.1).1.1 ((hx).2.2.2.1).1.2.1 ⟨_, rfl, rfl⟩ rfl rfl (Nat.le_of_ble_eq_true rfl) (by decide) (by decide) (by decide) (L_X0_hasGlass (hx.2.1) (hx).2.2.2.1 (it_ok_b h)) (fun _ _ _ _ q => by cases q.1; rfl) ?_
    rintro _ _ S4 ⟨rfl, r5, rfl, h⟩
    show it_Ev g l 4 it_m_X5_asks 0 0 17 [some (.ref 0), some (.int x1), some (.int x2)] [.int r5] κ S4 (it_pi κ P)
    refine ev_if_ne (tgt := 24) d_X5_asks_17 (by decide) (fun hc6 => ?_) (fun hc6 => ?_)
    · have h := it_ok_f h hc6
      refine ev_aload_n d_X5_asks_24 rfl ?_
      refine ev_getRr (r := 9) rfl d_X5_asks_25 fl_IcedTooSoon_28 hx.1 rfl ?_
      refine ev_iload_n d_X5_asks_28 rfl ?_
      refine ev_iload_n d_X5_asks_29 rfl ?_
      refine ev_callV (ci := 0) (b := 9) (M' := it_m_X0_saying) (d' := 3) (As := [.int x1, .int x2]) d_X5_asks_30 ml_IcedTooSoon_110 ((hx).2.2.2.1).1.1 ((hx).2.2.2.1).1.2.1 ⟨_, rfl, rfl⟩ rfl rfl (Nat.le_of_ble_eq_true rfl) (by decide) (by decide) (by decide) (L_X0_saying (hx.2.1) (hx).2.2.2.1 (it_ok_b h)) (fun _ _ _ _ q => by cases q.1; rfl) ?_
      rintro _ _ S7 ⟨rfl, r8, rfl, h⟩
      show it_Ev g l 4 it_m_X5_asks 0 0 33 [some (.ref 0), some (.int x1), some (.int x2)] [.int r8] κ S7 (it_pi κ P)
      exact ev_ret (v := some (.int _)) ⟨d_X5_asks_33, _, rfl, rfl⟩ (by decide) (by decide) ⟨rfl, _, rfl, it_ok_r h⟩
    · have h := it_ok_t h hc6
      refine ev_sipush d_X5_asks_20 kv_sipush_m1000 ?_
      exact ev_ret (v := some (.int _)) ⟨d_X5_asks_23, _, rfl, rfl⟩ (by decide) (by decide) ⟨rfl, _, rfl, it_ok_r h⟩
theorem d_X5_guest_0 : decode prog_1_method_8_code 0 = .ok (.aload_n 0, 1) := by decide +kernel
theorem d_X5_guest_1 : decode prog_1_method_8_code 1 = .ok (.getfield 28, 3) := by decide +kernel
theorem d_X5_guest_4 : decode prog_1_method_8_code 4 = .ok (.iload_n 1, 1) := by decide +kernel
theorem d_X5_guest_5 : decode prog_1_method_8_code 5 = .ok (.iload_n 2, 1) := by decide +kernel
theorem d_X5_guest_6 : decode prog_1_method_8_code 6 = .ok (.invokevirtual 114, 3) := by decide +kernel
theorem d_X5_guest_9 : decode prog_1_method_8_code 9 = .ok (.ireturn, 1) := by decide +kernel
def f_X5_guest (κ : it_KK) (x1 : Int32) (x2 : Int32) (S : it_SS) : Option (Int32 × it_SS) :=
it_bi (f_X0_admit κ 9 x1 x2 S) (fun r2 S1 =>
some (r2, S1))
set_option maxHeartbeats 4000000 in
set_option maxRecDepth 100000 in
theorem L_X5_guest {g : it_G} {l : Launch} {κ : it_KK} {x1 : Int32} {x2 : Int32} (hx : it_wx κ) {S : it_SS} {P : Int32 → it_SS → Prop} (h : it_ok (f_X5_guest κ x1 x2 S) P) : it_Cn g l 3 it_m_X5_guest [.ref 0, .int x1, .int x2] κ S (it_pi κ P) := by
  refine it_Cn.of (by decide +kernel) (Nat.le_of_ble_eq_true rfl) ?_
  rw [f_X5_guest] at h
  show it_Ev g l 3 it_m_X5_guest 0 0 0 [some (.ref 0), some (.int x1), some (.int x2)] [] κ S (it_pi κ P)
  refine ev_aload_n d_X5_guest_0 rfl ?_
  refine ev_getRr (r := 9) rfl d_X5_guest_1 fl_IcedTooSoon_28 hx.1 rfl ?_
  refine ev_iload_n d_X5_guest_4 rfl ?_
  refine ev_iload_n d_X5_guest_5 rfl ?_
  refine ev_callV (ci := 0) (b := 9) (M' := it_m_X0_admit) (d' := 2) (As := [.int x1, .int x2]) d_X5_guest_6 ml_IcedTooSoon_114 ((hx).2.2.2.1).1.1 ((hx).2.2.2.1).1.2.1 ⟨_, rfl, rfl⟩ rfl rfl (Nat.le_of_ble_eq_true rfl) (by decide) (by decide) (by decide) (L_X0_admit (hx.2.1) (hx).2.2.2.1 (it_ok_b h)) (fun _ _ _ _ q => by cases q.1; rfl) ?_
  rintro _ _ S1 ⟨rfl, r2, rfl, h⟩
  show it_Ev g l 3 it_m_X5_guest 0 0 9 [some (.ref 0), some (.int x1), some (.int x2)] [.int r2] κ S1 (it_pi κ P)
  exact ev_ret (v := some (.int _)) ⟨d_X5_guest_9, _, rfl, rfl⟩ (by decide) (by decide) ⟨rfl, _, rfl, it_ok_r h⟩
theorem d_X5_order_0 : decode prog_1_method_9_code 0 = .ok (.aload_n 0, 1) := by decide +kernel
theorem d_X5_order_1 : decode prog_1_method_9_code 1 = .ok (.getfield 28, 3) := by decide +kernel
theorem d_X5_order_4 : decode prog_1_method_9_code 4 = .ok (.iload_n 1, 1) := by decide +kernel
theorem d_X5_order_5 : decode prog_1_method_9_code 5 = .ok (.invokevirtual 117, 3) := by decide +kernel
theorem d_X5_order_8 : decode prog_1_method_9_code 8 = .ok (.ifCond .ne 6, 3) := by decide +kernel
theorem d_X5_order_11 : decode prog_1_method_9_code 11 = .ok (.bipush (-5), 2) := by decide +kernel
theorem d_X5_order_13 : decode prog_1_method_9_code 13 = .ok (.ireturn, 1) := by decide +kernel
theorem d_X5_order_14 : decode prog_1_method_9_code 14 = .ok (.iload_n 2, 1) := by decide +kernel
theorem d_X5_order_15 : decode prog_1_method_9_code 15 = .ok (.bipush (-99), 2) := by decide +kernel
theorem d_X5_order_17 : decode prog_1_method_9_code 17 = .ok (.bipush 99, 2) := by decide +kernel
theorem d_X5_order_19 : decode prog_1_method_9_code 19 = .ok (.invokestatic 96, 3) := by decide +kernel
theorem d_X5_order_22 : decode prog_1_method_9_code 22 = .ok (.ifCond .ne 13, 3) := by decide +kernel
theorem d_X5_order_25 : decode prog_1_method_9_code 25 = .ok (.iload_n 3, 1) := by decide +kernel
theorem d_X5_order_26 : decode prog_1_method_9_code 26 = .ok (.iconst 1, 1) := by decide +kernel
theorem d_X5_order_27 : decode prog_1_method_9_code 27 = .ok (.bipush 99, 2) := by decide +kernel
theorem d_X5_order_29 : decode prog_1_method_9_code 29 = .ok (.invokestatic 96, 3) := by decide +kernel
theorem d_X5_order_32 : decode prog_1_method_9_code 32 = .ok (.ifCond .eq 6, 3) := by decide +kernel
theorem d_X5_order_35 : decode prog_1_method_9_code 35 = .ok (.bipush (-7), 2) := by decide +kernel
theorem d_X5_order_37 : decode prog_1_method_9_code 37 = .ok (.ireturn, 1) := by decide +kernel
theorem d_X5_order_38 : decode prog_1_method_9_code 38 = .ok (.aload_n 0, 1) := by decide +kernel
theorem d_X5_order_39 : decode prog_1_method_9_code 39 = .ok (.getfield 28, 3) := by decide +kernel
theorem d_X5_order_42 : decode prog_1_method_9_code 42 = .ok (.iload_n 1, 1) := by decide +kernel
theorem d_X5_order_43 : decode prog_1_method_9_code 43 = .ok (.iload_n 2, 1) := by decide +kernel
theorem d_X5_order_44 : decode prog_1_method_9_code 44 = .ok (.iload_n 3, 1) := by decide +kernel
theorem d_X5_order_45 : decode prog_1_method_9_code 45 = .ok (.invokevirtual 120, 3) := by decide +kernel
theorem d_X5_order_48 : decode prog_1_method_9_code 48 = .ok (.ireturn, 1) := by decide +kernel
def f_X5_order (κ : it_KK) (x1 : Int32) (x2 : Int32) (x3 : Int32) (S : it_SS) : Option (Int32 × it_SS) :=
it_bi (f_X0_hasGuest κ 9 x1 S) (fun r2 S1 =>
if r2 = 0 then
some ((-5), S1)
else
it_bi (f_X5_isOutside κ x2 (-99) 99 S1) (fun r5 S4 =>
if r5 = 0 then
it_bi (f_X5_isOutside κ x3 1 99 S4) (fun r8 S7 =>
if r8 = 0 then
it_bi (f_X0_serve κ 9 x1 x2 x3 S7) (fun r11 S10 =>
some (r11, S10))
else
some ((-7), S7))
else
some ((-7), S4)))
set_option maxHeartbeats 4000000 in
set_option maxRecDepth 100000 in
theorem L_X5_order {g : it_G} {l : Launch} {κ : it_KK} {x1 : Int32} {x2 : Int32} {x3 : Int32} (hx : it_wx κ) {S : it_SS} {P : Int32 → it_SS → Prop} (h : it_ok (f_X5_order κ x1 x2 x3 S) P) : it_Cn g l 6 it_m_X5_order [.ref 0, .int x1, .int x2, .int x3] κ S (it_pi κ P) := by
  refine it_Cn.of (by decide +kernel) (Nat.le_of_ble_eq_true rfl) ?_
  rw [f_X5_order] at h
  show it_Ev g l 6 it_m_X5_order 0 0 0 [some (.ref 0), some (.int x1), some (.int x2), some (.int x3)] [] κ S (it_pi κ P)
  refine ev_aload_n d_X5_order_0 rfl ?_
  refine ev_getRr (r := 9) rfl d_X5_order_1 fl_IcedTooSoon_28 hx.1 rfl ?_
  refine ev_iload_n d_X5_order_4 rfl ?_
  refine ev_callV (ci := 0) (b := 9) (M' := it_m_X0_hasGuest) (d' := 1) (As := [.int x1]) d_X5_order_5 ml_IcedTooSoon_117 ((hx).2.2.2.1).1.1 ((hx).2.2.2.1).1.2.1 ⟨_, rfl, rfl⟩ rfl rfl (Nat.le_of_ble_eq_true rfl) (by decide) (by decide) (by decide) (L_X0_hasGuest (hx.2.1) (hx).2.2.2.1 (it_ok_b h)) (fun _ _ _ _ q => by cases q.1; rfl) ?_
  rintro _ _ S1 ⟨rfl, r2, rfl, h⟩
  show it_Ev g l 6 it_m_X5_order 0 0 8 [some (.ref 0), some (.int x1), some (.int x2), some (.int x3)] [.int r2] κ S1 (it_pi κ P)
  refine ev_if_ne (tgt := 14) d_X5_order_8 (by decide) (fun hc3 => ?_) (fun hc3 => ?_)
  · have h := it_ok_f h hc3
    refine ev_iload_n d_X5_order_14 rfl ?_
    refine ev_bipush d_X5_order_15 kv_bipush_m99 ?_
    refine ev_bipush d_X5_order_17 kv_bipush_99 ?_
    refine ev_callS (M' := it_m_X5_isOutside) (d' := 1) (As := [.int x2, .int (-99), .int 99]) d_X5_order_19 ml_IcedTooSoon_96 rfl rfl (Nat.le_of_ble_eq_true rfl) (by decide) (by decide) (by decide) (L_X5_isOutside  (it_ok_b h)) (fun _ _ _ _ q => by cases q.1; rfl) ?_
    rintro _ _ S4 ⟨rfl, r5, rfl, h⟩
    show it_Ev g l 6 it_m_X5_order 0 0 22 [some (.ref 0), some (.int x1), some (.int x2), some (.int x3)] [.int r5] κ S4 (it_pi κ P)
    refine ev_if_ne (tgt := 35) d_X5_order_22 (by decide) (fun hc6 => ?_) (fun hc6 => ?_)
    · have h := it_ok_f h hc6
      refine ev_bipush d_X5_order_35 kv_bipush_m7 ?_
      exact ev_ret (v := some (.int _)) ⟨d_X5_order_37, _, rfl, rfl⟩ (by decide) (by decide) ⟨rfl, _, rfl, it_ok_r h⟩
    · have h := it_ok_t h hc6
      refine ev_iload_n d_X5_order_25 rfl ?_
      refine ev_iconst d_X5_order_26 kv_iconst_1 ?_
      refine ev_bipush d_X5_order_27 kv_bipush_99 ?_
      refine ev_callS (M' := it_m_X5_isOutside) (d' := 1) (As := [.int x3, .int 1, .int 99]) d_X5_order_29 ml_IcedTooSoon_96 rfl rfl (Nat.le_of_ble_eq_true rfl) (by decide) (by decide) (by decide) (L_X5_isOutside  (it_ok_b h)) (fun _ _ _ _ q => by cases q.1; rfl) ?_
      rintro _ _ S7 ⟨rfl, r8, rfl, h⟩
      show it_Ev g l 6 it_m_X5_order 0 0 32 [some (.ref 0), some (.int x1), some (.int x2), some (.int x3)] [.int r8] κ S7 (it_pi κ P)
      refine ev_if_eq (tgt := 38) d_X5_order_32 (by decide) (fun hc9 => ?_) (fun hc9 => ?_)
      · have h := it_ok_t h hc9
        refine ev_aload_n d_X5_order_38 rfl ?_
        refine ev_getRr (r := 9) rfl d_X5_order_39 fl_IcedTooSoon_28 hx.1 rfl ?_
        refine ev_iload_n d_X5_order_42 rfl ?_
        refine ev_iload_n d_X5_order_43 rfl ?_
        refine ev_iload_n d_X5_order_44 rfl ?_
        refine ev_callV (ci := 0) (b := 9) (M' := it_m_X0_serve) (d' := 5) (As := [.int x1, .int x2, .int x3]) d_X5_order_45 ml_IcedTooSoon_120 ((hx).2.2.2.1).1.1 ((hx).2.2.2.1).1.2.1 ⟨_, rfl, rfl⟩ rfl rfl (Nat.le_of_ble_eq_true rfl) (by decide) (by decide) (by decide) (L_X0_serve (hx.2.1) (hx).2.2.2.1 (it_ok_b h)) (fun _ _ _ _ q => by cases q.1; rfl) ?_
        rintro _ _ S10 ⟨rfl, r11, rfl, h⟩
        show it_Ev g l 6 it_m_X5_order 0 0 48 [some (.ref 0), some (.int x1), some (.int x2), some (.int x3)] [.int r11] κ S10 (it_pi κ P)
        exact ev_ret (v := some (.int _)) ⟨d_X5_order_48, _, rfl, rfl⟩ (by decide) (by decide) ⟨rfl, _, rfl, it_ok_r h⟩
      · have h := it_ok_f h hc9
        refine ev_bipush d_X5_order_35 kv_bipush_m7 ?_
        exact ev_ret (v := some (.int _)) ⟨d_X5_order_37, _, rfl, rfl⟩ (by decide) (by decide) ⟨rfl, _, rfl, it_ok_r h⟩
  · have h := it_ok_t h hc3
    refine ev_bipush d_X5_order_11 kv_bipush_m5 ?_
    exact ev_ret (v := some (.int _)) ⟨d_X5_order_13, _, rfl, rfl⟩ (by decide) (by decide) ⟨rfl, _, rfl, it_ok_r h⟩
theorem d_X5_put_0 : decode prog_1_method_10_code 0 = .ok (.aload_n 0, 1) := by decide +kernel
theorem d_X5_put_1 : decode prog_1_method_10_code 1 = .ok (.getfield 28, 3) := by decide +kernel
theorem d_X5_put_4 : decode prog_1_method_10_code 4 = .ok (.iload_n 1, 1) := by decide +kernel
theorem d_X5_put_5 : decode prog_1_method_10_code 5 = .ok (.invokevirtual 117, 3) := by decide +kernel
theorem d_X5_put_8 : decode prog_1_method_10_code 8 = .ok (.ifCond .ne 7, 3) := by decide +kernel
theorem d_X5_put_11 : decode prog_1_method_10_code 11 = .ok (.sipush (-5000), 3) := by decide +kernel
theorem d_X5_put_14 : decode prog_1_method_10_code 14 = .ok (.ireturn, 1) := by decide +kernel
theorem d_X5_put_15 : decode prog_1_method_10_code 15 = .ok (.iload_n 2, 1) := by decide +kernel
theorem d_X5_put_16 : decode prog_1_method_10_code 16 = .ok (.iconst 0, 1) := by decide +kernel
theorem d_X5_put_17 : decode prog_1_method_10_code 17 = .ok (.iconst 1, 1) := by decide +kernel
theorem d_X5_put_18 : decode prog_1_method_10_code 18 = .ok (.invokestatic 96, 3) := by decide +kernel
theorem d_X5_put_21 : decode prog_1_method_10_code 21 = .ok (.ifCond .ne 22, 3) := by decide +kernel
theorem d_X5_put_24 : decode prog_1_method_10_code 24 = .ok (.iload_n 3, 1) := by decide +kernel
theorem d_X5_put_25 : decode prog_1_method_10_code 25 = .ok (.iload_n 2, 1) := by decide +kernel
theorem d_X5_put_26 : decode prog_1_method_10_code 26 = .ok (.ifCond .ne 8, 3) := by decide +kernel
theorem d_X5_put_29 : decode prog_1_method_10_code 29 = .ok (.bipush (-99), 2) := by decide +kernel
theorem d_X5_put_31 : decode prog_1_method_10_code 31 = .ok (.goto 4, 3) := by decide +kernel
theorem d_X5_put_34 : decode prog_1_method_10_code 34 = .ok (.iconst 0, 1) := by decide +kernel
theorem d_X5_put_35 : decode prog_1_method_10_code 35 = .ok (.bipush 99, 2) := by decide +kernel
theorem d_X5_put_37 : decode prog_1_method_10_code 37 = .ok (.invokestatic 96, 3) := by decide +kernel
theorem d_X5_put_40 : decode prog_1_method_10_code 40 = .ok (.ifCond .eq 7, 3) := by decide +kernel
theorem d_X5_put_43 : decode prog_1_method_10_code 43 = .ok (.sipush (-7000), 3) := by decide +kernel
theorem d_X5_put_46 : decode prog_1_method_10_code 46 = .ok (.ireturn, 1) := by decide +kernel
theorem d_X5_put_47 : decode prog_1_method_10_code 47 = .ok (.iload_n 2, 1) := by decide +kernel
theorem d_X5_put_48 : decode prog_1_method_10_code 48 = .ok (.ifCond .ne 15, 3) := by decide +kernel
theorem d_X5_put_51 : decode prog_1_method_10_code 51 = .ok (.aload_n 0, 1) := by decide +kernel
theorem d_X5_put_52 : decode prog_1_method_10_code 52 = .ok (.getfield 28, 3) := by decide +kernel
theorem d_X5_put_55 : decode prog_1_method_10_code 55 = .ok (.getfield 124, 3) := by decide +kernel
theorem d_X5_put_58 : decode prog_1_method_10_code 58 = .ok (.iload_n 1, 1) := by decide +kernel
theorem d_X5_put_59 : decode prog_1_method_10_code 59 = .ok (.iaload, 1) := by decide +kernel
theorem d_X5_put_60 : decode prog_1_method_10_code 60 = .ok (.goto 12, 3) := by decide +kernel
theorem d_X5_put_63 : decode prog_1_method_10_code 63 = .ok (.aload_n 0, 1) := by decide +kernel
theorem d_X5_put_64 : decode prog_1_method_10_code 64 = .ok (.getfield 28, 3) := by decide +kernel
theorem d_X5_put_67 : decode prog_1_method_10_code 67 = .ok (.getfield 128, 3) := by decide +kernel
theorem d_X5_put_70 : decode prog_1_method_10_code 70 = .ok (.iload_n 1, 1) := by decide +kernel
theorem d_X5_put_71 : decode prog_1_method_10_code 71 = .ok (.iaload, 1) := by decide +kernel
theorem d_X5_put_72 : decode prog_1_method_10_code 72 = .ok (.istore 4, 2) := by decide +kernel
theorem d_X5_put_74 : decode prog_1_method_10_code 74 = .ok (.aload_n 0, 1) := by decide +kernel
theorem d_X5_put_75 : decode prog_1_method_10_code 75 = .ok (.getfield 28, 3) := by decide +kernel
theorem d_X5_put_78 : decode prog_1_method_10_code 78 = .ok (.iload_n 1, 1) := by decide +kernel
theorem d_X5_put_79 : decode prog_1_method_10_code 79 = .ok (.iload_n 2, 1) := by decide +kernel
theorem d_X5_put_80 : decode prog_1_method_10_code 80 = .ok (.iload_n 3, 1) := by decide +kernel
theorem d_X5_put_81 : decode prog_1_method_10_code 81 = .ok (.invokevirtual 131, 3) := by decide +kernel
theorem d_X5_put_84 : decode prog_1_method_10_code 84 = .ok (.iload 4, 2) := by decide +kernel
theorem d_X5_put_86 : decode prog_1_method_10_code 86 = .ok (.ireturn, 1) := by decide +kernel
def f_X5_put (κ : it_KK) (x1 : Int32) (x2 : Int32) (x3 : Int32) (S : it_SS) : Option (Int32 × it_SS) :=
it_bi (f_X0_hasGuest κ 9 x1 S) (fun r2 S1 =>
if r2 = 0 then
some ((-5000), S1)
else
it_bi (f_X5_isOutside κ x2 0 1 S1) (fun r5 S4 =>
if r5 = 0 then
if x2 = 0 then
it_bi (f_X5_isOutside κ x3 (-99) 99 S4) (fun r19 S18 =>
if r19 = 0 then
if x2 = 0 then
if it_bd x1 6 = true then
it_bi (f_X0_set κ 9 x1 x2 x3 S18) (fun _ S26 =>
some ((S18 (9 + 3) (x1 : Int32).toNatClampNeg), S26))
else none
else
if it_bd x1 6 = true then
it_bi (f_X0_set κ 9 x1 x2 x3 S18) (fun _ S23 =>
some ((S18 (9 + 4) (x1 : Int32).toNatClampNeg), S23))
else none
else
some ((-7000), S18))
else
it_bi (f_X5_isOutside κ x3 0 99 S4) (fun r9 S8 =>
if r9 = 0 then
if x2 = 0 then
if it_bd x1 6 = true then
it_bi (f_X0_set κ 9 x1 x2 x3 S8) (fun _ S16 =>
some ((S8 (9 + 3) (x1 : Int32).toNatClampNeg), S16))
else none
else
if it_bd x1 6 = true then
it_bi (f_X0_set κ 9 x1 x2 x3 S8) (fun _ S13 =>
some ((S8 (9 + 4) (x1 : Int32).toNatClampNeg), S13))
else none
else
some ((-7000), S8))
else
some ((-7000), S4)))
set_option maxHeartbeats 4000000 in
set_option maxRecDepth 100000 in
theorem L_X5_put {g : it_G} {l : Launch} {κ : it_KK} {x1 : Int32} {x2 : Int32} {x3 : Int32} (hx : it_wx κ) {S : it_SS} {P : Int32 → it_SS → Prop} (h : it_ok (f_X5_put κ x1 x2 x3 S) P) : it_Cn g l 2 it_m_X5_put [.ref 0, .int x1, .int x2, .int x3] κ S (it_pi κ P) := by
  refine it_Cn.of (by decide +kernel) (Nat.le_of_ble_eq_true rfl) ?_
  rw [f_X5_put] at h
  show it_Ev g l 2 it_m_X5_put 0 0 0 [some (.ref 0), some (.int x1), some (.int x2), some (.int x3), none] [] κ S (it_pi κ P)
  refine ev_aload_n d_X5_put_0 rfl ?_
  refine ev_getRr (r := 9) rfl d_X5_put_1 fl_IcedTooSoon_28 hx.1 rfl ?_
  refine ev_iload_n d_X5_put_4 rfl ?_
  refine ev_callV (ci := 0) (b := 9) (M' := it_m_X0_hasGuest) (d' := 1) (As := [.int x1]) d_X5_put_5 ml_IcedTooSoon_117 ((hx).2.2.2.1).1.1 ((hx).2.2.2.1).1.2.1 ⟨_, rfl, rfl⟩ rfl rfl (Nat.le_of_ble_eq_true rfl) (by decide) (by decide) (by decide) (L_X0_hasGuest (hx.2.1) (hx).2.2.2.1 (it_ok_b h)) (fun _ _ _ _ q => by cases q.1; rfl) ?_
  rintro _ _ S1 ⟨rfl, r2, rfl, h⟩
  show it_Ev g l 2 it_m_X5_put 0 0 8 [some (.ref 0), some (.int x1), some (.int x2), some (.int x3), none] [.int r2] κ S1 (it_pi κ P)
  refine ev_if_ne (tgt := 15) d_X5_put_8 (by decide) (fun hc3 => ?_) (fun hc3 => ?_)
  · have h := it_ok_f h hc3
    refine ev_iload_n d_X5_put_15 rfl ?_
    refine ev_iconst d_X5_put_16 kv_iconst_0 ?_
    refine ev_iconst d_X5_put_17 kv_iconst_1 ?_
    refine ev_callS (M' := it_m_X5_isOutside) (d' := 1) (As := [.int x2, .int 0, .int 1]) d_X5_put_18 ml_IcedTooSoon_96 rfl rfl (Nat.le_of_ble_eq_true rfl) (by decide) (by decide) (by decide) (L_X5_isOutside  (it_ok_b h)) (fun _ _ _ _ q => by cases q.1; rfl) ?_
    rintro _ _ S4 ⟨rfl, r5, rfl, h⟩
    show it_Ev g l 2 it_m_X5_put 0 0 21 [some (.ref 0), some (.int x1), some (.int x2), some (.int x3), none] [.int r5] κ S4 (it_pi κ P)
    refine ev_if_ne (tgt := 43) d_X5_put_21 (by decide) (fun hc6 => ?_) (fun hc6 => ?_)
    · have h := it_ok_f h hc6
      refine ev_sipush d_X5_put_43 kv_sipush_m7000 ?_
      exact ev_ret (v := some (.int _)) ⟨d_X5_put_46, _, rfl, rfl⟩ (by decide) (by decide) ⟨rfl, _, rfl, it_ok_r h⟩
    · have h := it_ok_t h hc6
      refine ev_iload_n d_X5_put_24 rfl ?_
      refine ev_iload_n d_X5_put_25 rfl ?_
      refine ev_if_ne (tgt := 34) d_X5_put_26 (by decide) (fun hc7 => ?_) (fun hc7 => ?_)
      · have h := it_ok_f h hc7
        refine ev_iconst d_X5_put_34 kv_iconst_0 ?_
        refine ev_bipush d_X5_put_35 kv_bipush_99 ?_
        refine ev_callS (M' := it_m_X5_isOutside) (d' := 1) (As := [.int x3, .int 0, .int 99]) d_X5_put_37 ml_IcedTooSoon_96 rfl rfl (Nat.le_of_ble_eq_true rfl) (by decide) (by decide) (by decide) (L_X5_isOutside  (it_ok_b h)) (fun _ _ _ _ q => by cases q.1; rfl) ?_
        rintro _ _ S8 ⟨rfl, r9, rfl, h⟩
        show it_Ev g l 2 it_m_X5_put 0 0 40 [some (.ref 0), some (.int x1), some (.int x2), some (.int x3), none] [.int r9] κ S8 (it_pi κ P)
        refine ev_if_eq (tgt := 47) d_X5_put_40 (by decide) (fun hc10 => ?_) (fun hc10 => ?_)
        · have h := it_ok_t h hc10
          refine ev_iload_n d_X5_put_47 rfl ?_
          refine ev_if_ne (tgt := 63) d_X5_put_48 (by decide) (fun hc11 => ?_) (fun hc11 => ?_)
          · have h := it_ok_f h hc11
            refine ev_aload_n d_X5_put_63 rfl ?_
            refine ev_getRr (r := 9) rfl d_X5_put_64 fl_IcedTooSoon_28 hx.1 rfl ?_
            refine ev_getRr (r := (9 + 4)) rfl d_X5_put_67 fl_IcedTooSoon_128 ((hx).2.2.2.1).1 rfl ?_
            refine ev_iload_n d_X5_put_70 rfl ?_
            obtain ⟨hb12, h⟩ := it_ok_g h
            refine ev_iald d_X5_put_71 ((hx).2.2.2.1).2.2.2.2.1 (it_bd_in hb12) ?_
            refine ev_istore d_X5_put_72 (by decide) ?_
            show it_Ev g l 2 it_m_X5_put 0 0 74 [some (.ref 0), some (.int x1), some (.int x2), some (.int x3), some (.int (S8 (9 + 4) (x1 : Int32).toNatClampNeg))] [] κ S8 (it_pi κ P)
            refine ev_aload_n d_X5_put_74 rfl ?_
            refine ev_getRr (r := 9) rfl d_X5_put_75 fl_IcedTooSoon_28 hx.1 rfl ?_
            refine ev_iload_n d_X5_put_78 rfl ?_
            refine ev_iload_n d_X5_put_79 rfl ?_
            refine ev_iload_n d_X5_put_80 rfl ?_
            refine ev_callV (ci := 0) (b := 9) (M' := it_m_X0_set) (d' := 1) (As := [.int x1, .int x2, .int x3]) d_X5_put_81 ml_IcedTooSoon_131 ((hx).2.2.2.1).1.1 ((hx).2.2.2.1).1.2.1 ⟨_, rfl, rfl⟩ rfl rfl (Nat.le_of_ble_eq_true rfl) (by decide) (by decide) (by decide) (L_X0_set (hx.2.1) (hx).2.2.2.1 (it_ok_b h)) (fun _ _ _ _ q => by cases q.1; rfl) ?_
            rintro _ _ S13 ⟨rfl, rfl, h⟩
            show it_Ev g l 2 it_m_X5_put 0 0 84 [some (.ref 0), some (.int x1), some (.int x2), some (.int x3), some (.int (S8 (9 + 4) (x1 : Int32).toNatClampNeg))] [] κ S13 (it_pi κ P)
            refine ev_iload d_X5_put_84 rfl ?_
            exact ev_ret (v := some (.int _)) ⟨d_X5_put_86, _, rfl, rfl⟩ (by decide) (by decide) ⟨rfl, _, rfl, it_ok_r h⟩
          · have h := it_ok_t h hc11
            refine ev_aload_n d_X5_put_51 rfl ?_
            refine ev_getRr (r := 9) rfl d_X5_put_52 fl_IcedTooSoon_28 hx.1 rfl ?_
            refine ev_getRr (r := (9 + 3)) rfl d_X5_put_55 fl_IcedTooSoon_124 ((hx).2.2.2.1).1 rfl ?_
            refine ev_iload_n d_X5_put_58 rfl ?_
            obtain ⟨hb15, h⟩ := it_ok_g h
            refine ev_iald d_X5_put_59 ((hx).2.2.2.1).2.2.2.1 (it_bd_in hb15) ?_
            refine ev_goto (tgt := 72) d_X5_put_60 (by decide) ?_
            refine ev_istore d_X5_put_72 (by decide) ?_
            show it_Ev g l 2 it_m_X5_put 0 0 74 [some (.ref 0), some (.int x1), some (.int x2), some (.int x3), some (.int (S8 (9 + 3) (x1 : Int32).toNatClampNeg))] [] κ S8 (it_pi κ P)
            refine ev_aload_n d_X5_put_74 rfl ?_
            refine ev_getRr (r := 9) rfl d_X5_put_75 fl_IcedTooSoon_28 hx.1 rfl ?_
            refine ev_iload_n d_X5_put_78 rfl ?_
            refine ev_iload_n d_X5_put_79 rfl ?_
            refine ev_iload_n d_X5_put_80 rfl ?_
            refine ev_callV (ci := 0) (b := 9) (M' := it_m_X0_set) (d' := 1) (As := [.int x1, .int x2, .int x3]) d_X5_put_81 ml_IcedTooSoon_131 ((hx).2.2.2.1).1.1 ((hx).2.2.2.1).1.2.1 ⟨_, rfl, rfl⟩ rfl rfl (Nat.le_of_ble_eq_true rfl) (by decide) (by decide) (by decide) (L_X0_set (hx.2.1) (hx).2.2.2.1 (it_ok_b h)) (fun _ _ _ _ q => by cases q.1; rfl) ?_
            rintro _ _ S16 ⟨rfl, rfl, h⟩
            show it_Ev g l 2 it_m_X5_put 0 0 84 [some (.ref 0), some (.int x1), some (.int x2), some (.int x3), some (.int (S8 (9 + 3) (x1 : Int32).toNatClampNeg))] [] κ S16 (it_pi κ P)
            refine ev_iload d_X5_put_84 rfl ?_
            exact ev_ret (v := some (.int _)) ⟨d_X5_put_86, _, rfl, rfl⟩ (by decide) (by decide) ⟨rfl, _, rfl, it_ok_r h⟩
        · have h := it_ok_f h hc10
          refine ev_sipush d_X5_put_43 kv_sipush_m7000 ?_
          exact ev_ret (v := some (.int _)) ⟨d_X5_put_46, _, rfl, rfl⟩ (by decide) (by decide) ⟨rfl, _, rfl, it_ok_r h⟩
      · have h := it_ok_t h hc7
        refine ev_bipush d_X5_put_29 kv_bipush_m99 ?_
        refine ev_goto (tgt := 35) d_X5_put_31 (by decide) ?_
        refine ev_bipush d_X5_put_35 kv_bipush_99 ?_
        refine ev_callS (M' := it_m_X5_isOutside) (d' := 1) (As := [.int x3, .int (-99), .int 99]) d_X5_put_37 ml_IcedTooSoon_96 rfl rfl (Nat.le_of_ble_eq_true rfl) (by decide) (by decide) (by decide) (L_X5_isOutside  (it_ok_b h)) (fun _ _ _ _ q => by cases q.1; rfl) ?_
        rintro _ _ S18 ⟨rfl, r19, rfl, h⟩
        show it_Ev g l 2 it_m_X5_put 0 0 40 [some (.ref 0), some (.int x1), some (.int x2), some (.int x3), none] [.int r19] κ S18 (it_pi κ P)
        refine ev_if_eq (tgt := 47) d_X5_put_40 (by decide) (fun hc20 => ?_) (fun hc20 => ?_)
        · have h := it_ok_t h hc20
          refine ev_iload_n d_X5_put_47 rfl ?_
          refine ev_if_ne (tgt := 63) d_X5_put_48 (by decide) (fun hc21 => ?_) (fun hc21 => ?_)
          · have h := it_ok_f h hc21
            refine ev_aload_n d_X5_put_63 rfl ?_
            refine ev_getRr (r := 9) rfl d_X5_put_64 fl_IcedTooSoon_28 hx.1 rfl ?_
            refine ev_getRr (r := (9 + 4)) rfl d_X5_put_67 fl_IcedTooSoon_128 ((hx).2.2.2.1).1 rfl ?_
            refine ev_iload_n d_X5_put_70 rfl ?_
            obtain ⟨hb22, h⟩ := it_ok_g h
            refine ev_iald d_X5_put_71 ((hx).2.2.2.1).2.2.2.2.1 (it_bd_in hb22) ?_
            refine ev_istore d_X5_put_72 (by decide) ?_
            show it_Ev g l 2 it_m_X5_put 0 0 74 [some (.ref 0), some (.int x1), some (.int x2), some (.int x3), some (.int (S18 (9 + 4) (x1 : Int32).toNatClampNeg))] [] κ S18 (it_pi κ P)
            refine ev_aload_n d_X5_put_74 rfl ?_
            refine ev_getRr (r := 9) rfl d_X5_put_75 fl_IcedTooSoon_28 hx.1 rfl ?_
            refine ev_iload_n d_X5_put_78 rfl ?_
            refine ev_iload_n d_X5_put_79 rfl ?_
            refine ev_iload_n d_X5_put_80 rfl ?_
            refine ev_callV (ci := 0) (b := 9) (M' := it_m_X0_set) (d' := 1) (As := [.int x1, .int x2, .int x3]) d_X5_put_81 ml_IcedTooSoon_131 ((hx).2.2.2.1).1.1 ((hx).2.2.2.1).1.2.1 ⟨_, rfl, rfl⟩ rfl rfl (Nat.le_of_ble_eq_true rfl) (by decide) (by decide) (by decide) (L_X0_set (hx.2.1) (hx).2.2.2.1 (it_ok_b h)) (fun _ _ _ _ q => by cases q.1; rfl) ?_
            rintro _ _ S23 ⟨rfl, rfl, h⟩
            show it_Ev g l 2 it_m_X5_put 0 0 84 [some (.ref 0), some (.int x1), some (.int x2), some (.int x3), some (.int (S18 (9 + 4) (x1 : Int32).toNatClampNeg))] [] κ S23 (it_pi κ P)
            refine ev_iload d_X5_put_84 rfl ?_
            exact ev_ret (v := some (.int _)) ⟨d_X5_put_86, _, rfl, rfl⟩ (by decide) (by decide) ⟨rfl, _, rfl, it_ok_r h⟩
          · have h := it_ok_t h hc21
            refine ev_aload_n d_X5_put_51 rfl ?_
            refine ev_getRr (r := 9) rfl d_X5_put_52 fl_IcedTooSoon_28 hx.1 rfl ?_
            refine ev_getRr (r := (9 + 3)) rfl d_X5_put_55 fl_IcedTooSoon_124 ((hx).2.2.2.1).1 rfl ?_
            refine ev_iload_n d_X5_put_58 rfl ?_
            obtain ⟨hb25, h⟩ := it_ok_g h
            refine ev_iald d_X5_put_59 ((hx).2.2.2.1).2.2.2.1 (it_bd_in hb25) ?_
            refine ev_goto (tgt := 72) d_X5_put_60 (by decide) ?_
            refine ev_istore d_X5_put_72 (by decide) ?_
            show it_Ev g l 2 it_m_X5_put 0 0 74 [some (.ref 0), some (.int x1), some (.int x2), some (.int x3), some (.int (S18 (9 + 3) (x1 : Int32).toNatClampNeg))] [] κ S18 (it_pi κ P)
            refine ev_aload_n d_X5_put_74 rfl ?_
            refine ev_getRr (r := 9) rfl d_X5_put_75 fl_IcedTooSoon_28 hx.1 rfl ?_
            refine ev_iload_n d_X5_put_78 rfl ?_
            refine ev_iload_n d_X5_put_79 rfl ?_
            refine ev_iload_n d_X5_put_80 rfl ?_
            refine ev_callV (ci := 0) (b := 9) (M' := it_m_X0_set) (d' := 1) (As := [.int x1, .int x2, .int x3]) d_X5_put_81 ml_IcedTooSoon_131 ((hx).2.2.2.1).1.1 ((hx).2.2.2.1).1.2.1 ⟨_, rfl, rfl⟩ rfl rfl (Nat.le_of_ble_eq_true rfl) (by decide) (by decide) (by decide) (L_X0_set (hx.2.1) (hx).2.2.2.1 (it_ok_b h)) (fun _ _ _ _ q => by cases q.1; rfl) ?_
            rintro _ _ S26 ⟨rfl, rfl, h⟩
            show it_Ev g l 2 it_m_X5_put 0 0 84 [some (.ref 0), some (.int x1), some (.int x2), some (.int x3), some (.int (S18 (9 + 3) (x1 : Int32).toNatClampNeg))] [] κ S26 (it_pi κ P)
            refine ev_iload d_X5_put_84 rfl ?_
            exact ev_ret (v := some (.int _)) ⟨d_X5_put_86, _, rfl, rfl⟩ (by decide) (by decide) ⟨rfl, _, rfl, it_ok_r h⟩
        · have h := it_ok_f h hc20
          refine ev_sipush d_X5_put_43 kv_sipush_m7000 ?_
          exact ev_ret (v := some (.int _)) ⟨d_X5_put_46, _, rfl, rfl⟩ (by decide) (by decide) ⟨rfl, _, rfl, it_ok_r h⟩
  · have h := it_ok_t h hc3
    refine ev_sipush d_X5_put_11 kv_sipush_m5000 ?_
    exact ev_ret (v := some (.int _)) ⟨d_X5_put_14, _, rfl, rfl⟩ (by decide) (by decide) ⟨rfl, _, rfl, it_ok_r h⟩
theorem d_X5_think_0 : decode prog_1_method_48_code 0 = .ok (.aload_n 0, 1) := by decide +kernel
theorem d_X5_think_1 : decode prog_1_method_48_code 1 = .ok (.getfield 32, 3) := by decide +kernel
theorem d_X5_think_4 : decode prog_1_method_48_code 4 = .ok (.aload_n 0, 1) := by decide +kernel
theorem d_X5_think_5 : decode prog_1_method_48_code 5 = .ok (.getfield 28, 3) := by decide +kernel
theorem d_X5_think_8 : decode prog_1_method_48_code 8 = .ok (.invokevirtual 232, 3) := by decide +kernel
theorem d_X5_think_11 : decode prog_1_method_48_code 11 = .ok (.return_, 1) := by decide +kernel
def f_X5_think (κ : it_KK)  (S : it_SS) : Option (Unit × it_SS) :=
it_bi (f_X0_become κ 17 9 S) (fun _ S1 =>
some ((), S1))
set_option maxHeartbeats 4000000 in
set_option maxRecDepth 100000 in
theorem L_X5_think {g : it_G} {l : Launch} {κ : it_KK} (hx : it_wx κ) {S : it_SS} {P : Unit → it_SS → Prop} (h : it_ok (f_X5_think κ  S) P) : it_Cn g l 3 it_m_X5_think [.ref 0] κ S (it_pv κ P) := by
  refine it_Cn.of (by decide +kernel) (Nat.le_of_ble_eq_true rfl) ?_
  rw [f_X5_think] at h
  show it_Ev g l 3 it_m_X5_think 0 0 0 [some (.ref 0)] [] κ S (it_pv κ P)
  refine ev_aload_n d_X5_think_0 rfl ?_
  refine ev_getRr (r := 17) rfl d_X5_think_1 fl_IcedTooSoon_32 hx.1 rfl ?_
  refine ev_aload_n d_X5_think_4 rfl ?_
  refine ev_getRr (r := 9) rfl d_X5_think_5 fl_IcedTooSoon_28 hx.1 rfl ?_
  refine ev_callV (ci := 0) (b := 17) (M' := it_m_X0_become) (d' := 2) (As := [.ref 9]) d_X5_think_8 ml_IcedTooSoon_232 ((hx).2.2.2.2.1).1.1 ((hx).2.2.2.2.1).1.2.1 ⟨_, rfl, rfl⟩ rfl rfl (Nat.le_of_ble_eq_true rfl) (by decide) (by decide) (by decide) (L_X0_become (hx.2.1) (hx).2.2.2.2.1 ((hx).2.2.2.1) (it_ok_b h)) (fun _ _ _ _ q => by cases q.1; rfl) ?_
  rintro _ _ S1 ⟨rfl, rfl, h⟩
  show it_Ev g l 3 it_m_X5_think 0 0 11 [some (.ref 0)] [] κ S1 (it_pv κ P)
  exact ev_ret (v := none) ⟨d_X5_think_11, rfl⟩ (by decide) (by decide) ⟨rfl, rfl, it_ok_r h⟩
theorem d_X5_nextOff_0 : decode prog_1_method_49_code 0 = .ok (.aload_n 0, 1) := by decide +kernel
theorem d_X5_nextOff_1 : decode prog_1_method_49_code 1 = .ok (.invokevirtual 180, 3) := by decide +kernel
theorem d_X5_nextOff_4 : decode prog_1_method_49_code 4 = .ok (.iconst 0, 1) := by decide +kernel
theorem d_X5_nextOff_5 : decode prog_1_method_49_code 5 = .ok (.istore_n 2, 1) := by decide +kernel
theorem d_X5_nextOff_6 : decode prog_1_method_49_code 6 = .ok (.iload_n 2, 1) := by decide +kernel
theorem d_X5_nextOff_7 : decode prog_1_method_49_code 7 = .ok (.bipush 60, 2) := by decide +kernel
theorem d_X5_nextOff_9 : decode prog_1_method_49_code 9 = .ok (.if_icmp .ge 28, 3) := by decide +kernel
theorem d_X5_nextOff_12 : decode prog_1_method_49_code 12 = .ok (.aload_n 0, 1) := by decide +kernel
theorem d_X5_nextOff_13 : decode prog_1_method_49_code 13 = .ok (.getfield 32, 3) := by decide +kernel
theorem d_X5_nextOff_16 : decode prog_1_method_49_code 16 = .ok (.invokevirtual 166, 3) := by decide +kernel
theorem d_X5_nextOff_19 : decode prog_1_method_49_code 19 = .ok (.iload_n 1, 1) := by decide +kernel
theorem d_X5_nextOff_20 : decode prog_1_method_49_code 20 = .ok (.iand, 1) := by decide +kernel
theorem d_X5_nextOff_21 : decode prog_1_method_49_code 21 = .ok (.istore_n 3, 1) := by decide +kernel
theorem d_X5_nextOff_22 : decode prog_1_method_49_code 22 = .ok (.iload_n 3, 1) := by decide +kernel
theorem d_X5_nextOff_23 : decode prog_1_method_49_code 23 = .ok (.ifCond .eq 8, 3) := by decide +kernel
theorem d_X5_nextOff_26 : decode prog_1_method_49_code 26 = .ok (.iload_n 3, 1) := by decide +kernel
theorem d_X5_nextOff_27 : decode prog_1_method_49_code 27 = .ok (.invokestatic 275, 3) := by decide +kernel
theorem d_X5_nextOff_30 : decode prog_1_method_49_code 30 = .ok (.ireturn, 1) := by decide +kernel
theorem d_X5_nextOff_31 : decode prog_1_method_49_code 31 = .ok (.iinc 2 1, 3) := by decide +kernel
theorem d_X5_nextOff_34 : decode prog_1_method_49_code 34 = .ok (.goto (-28), 3) := by decide +kernel
theorem d_X5_nextOff_37 : decode prog_1_method_49_code 37 = .ok (.iconst (-1), 1) := by decide +kernel
theorem d_X5_nextOff_38 : decode prog_1_method_49_code 38 = .ok (.ireturn, 1) := by decide +kernel
def lp_X5_nextOff_6 (κ : it_KK) (x1 : Int32) (k6 : (it_SS → Option (Int32 × it_SS))) : Nat → Int32 → it_SS → Option (Int32 × it_SS)
  | 0, _, _ => none
  | n6 + 1, v2, S => if 60 ≤ v2 then
k6  S
else
it_bi (f_X0_passDay κ 17 S) (fun r5 S4 =>
if (r5 &&& x1) = 0 then
lp_X5_nextOff_6 κ x1 k6 n6 (v2 + 1) S4
else
it_bi (f_J6_numberOfTrailingZeros_0f7a4 κ (r5 &&& x1) S4) (fun r8 S7 =>
some (r8, S7)))
def f_X5_nextOff (κ : it_KK) (x1 : Int32) (S : it_SS) : Option (Int32 × it_SS) :=
it_bi (f_X5_think κ  S) (fun _ S1 =>
lp_X5_nextOff_6 κ x1 (fun  S9 =>
some ((-1), S9)) it_FU 0 S1)
set_option maxHeartbeats 4000000 in
set_option maxRecDepth 100000 in
theorem Llp_X5_nextOff_6 {g : it_G} {l : Launch} {κ : it_KK} {x1 : Int32} (hx : it_wx κ) {P : Int32 → it_SS → Prop} {k6 : (it_SS → Option (Int32 × it_SS))} (hk6 : ∀  (S : it_SS), it_ok (k6  S) P → it_Ev g l 6 it_m_X5_nextOff 0 0 37 [none, none, none, none] [] κ S (it_pi κ P)) : ∀ (n : Nat) (v2 : Int32) (S : it_SS), it_ok (lp_X5_nextOff_6 κ x1 k6 n v2 S) P → it_Ev g l 6 it_m_X5_nextOff 0 0 6 [some (.ref 0), some (.int x1), some (.int v2), none] [] κ S (it_pi κ P) := by
  intro n
  induction n with
  | zero =>
    intro _ _ h
    exact (it_ok_n h).elim
  | succ n6 ih6 =>
    intro v2 S h
    rw [lp_X5_nextOff_6] at h
    refine ev_iload_n d_X5_nextOff_6 rfl ?_
    refine ev_bipush d_X5_nextOff_7 kv_bipush_60 ?_
    refine ev_icmp_ge (tgt := 37) d_X5_nextOff_9 (by decide) (fun hc3 => ?_) (fun hc3 => ?_)
    · have h := it_ok_t h hc3
      refine ev_keep [false, false, false, false] ?_
      exact hk6  _ h
    · have h := it_ok_f h hc3
      refine ev_aload_n d_X5_nextOff_12 rfl ?_
      refine ev_getRr (r := 17) rfl d_X5_nextOff_13 fl_IcedTooSoon_32 hx.1 rfl ?_
      refine ev_callV (ci := 0) (b := 17) (M' := it_m_X0_passDay) (d' := 5) (As := []) d_X5_nextOff_16 ml_IcedTooSoon_166 ((hx).2.2.2.2.1).1.1 ((hx).2.2.2.2.1).1.2.1 ⟨_, rfl, rfl⟩ rfl rfl (Nat.le_of_ble_eq_true rfl) (by decide) (by decide) (by decide) (L_X0_passDay (hx.2.1) (hx).2.2.2.2.1 (it_ok_b h)) (fun _ _ _ _ q => by cases q.1; rfl) ?_
      rintro _ _ S4 ⟨rfl, r5, rfl, h⟩
      show it_Ev g l 6 it_m_X5_nextOff 0 0 19 [some (.ref 0), some (.int x1), some (.int v2), none] [.int r5] κ S4 (it_pi κ P)
      refine ev_iload_n d_X5_nextOff_19 rfl ?_
      refine ev_iand d_X5_nextOff_20 ?_
      refine ev_istore_n d_X5_nextOff_21 (by decide) ?_
      show it_Ev g l 6 it_m_X5_nextOff 0 0 22 [some (.ref 0), some (.int x1), some (.int v2), some (.int (r5 &&& x1))] [] κ S4 (it_pi κ P)
      refine ev_iload_n d_X5_nextOff_22 rfl ?_
      refine ev_if_eq (tgt := 31) d_X5_nextOff_23 (by decide) (fun hc6 => ?_) (fun hc6 => ?_)
      · have h := it_ok_t h hc6
        refine ev_iinc d_X5_nextOff_31 kv_iconst_1 rfl (by decide) ?_
        show it_Ev g l 6 it_m_X5_nextOff 0 0 34 [some (.ref 0), some (.int x1), some (.int (v2 + 1)), some (.int (r5 &&& x1))] [] κ S4 (it_pi κ P)
        refine ev_goto (tgt := 6) d_X5_nextOff_34 (by decide) ?_
        refine ev_keep [true, true, true, false] ?_
        exact ih6 _ _ h
      · have h := it_ok_f h hc6
        refine ev_iload_n d_X5_nextOff_26 rfl ?_
        refine ev_callS (M' := it_m_J6_numberOfTrailingZeros_0f7a4) (d' := 1) (As := [.int (r5 &&& x1)]) d_X5_nextOff_27 ml_IcedTooSoon_275 rfl rfl (Nat.le_of_ble_eq_true rfl) (by decide) (by decide) (by decide) (L_J6_numberOfTrailingZeros_0f7a4  (it_ok_b h)) (fun _ _ _ _ q => by cases q.1; rfl) ?_
        rintro _ _ S7 ⟨rfl, r8, rfl, h⟩
        show it_Ev g l 6 it_m_X5_nextOff 0 0 30 [some (.ref 0), some (.int x1), some (.int v2), some (.int (r5 &&& x1))] [.int r8] κ S7 (it_pi κ P)
        exact ev_ret (v := some (.int _)) ⟨d_X5_nextOff_30, _, rfl, rfl⟩ (by decide) (by decide) ⟨rfl, _, rfl, it_ok_r h⟩
set_option maxHeartbeats 4000000 in
set_option maxRecDepth 100000 in
theorem L_X5_nextOff {g : it_G} {l : Launch} {κ : it_KK} {x1 : Int32} (hx : it_wx κ) {S : it_SS} {P : Int32 → it_SS → Prop} (h : it_ok (f_X5_nextOff κ x1 S) P) : it_Cn g l 6 it_m_X5_nextOff [.ref 0, .int x1] κ S (it_pi κ P) := by
  refine it_Cn.of (by decide +kernel) (Nat.le_of_ble_eq_true rfl) ?_
  rw [f_X5_nextOff] at h
  show it_Ev g l 6 it_m_X5_nextOff 0 0 0 [some (.ref 0), some (.int x1), none, none] [] κ S (it_pi κ P)
  refine ev_aload_n d_X5_nextOff_0 rfl ?_
  refine ev_callV (ci := 5) (b := 0) (M' := it_m_X5_think) (d' := 3) (As := []) d_X5_nextOff_1 ml_IcedTooSoon_180 hx.1.1 hx.1.2.1 ⟨_, rfl, rfl⟩ rfl rfl (Nat.le_of_ble_eq_true rfl) (by decide) (by decide) (by decide) (L_X5_think hx (it_ok_b h)) (fun _ _ _ _ q => by cases q.1; rfl) ?_
  rintro _ _ S1 ⟨rfl, rfl, h⟩
  show it_Ev g l 6 it_m_X5_nextOff 0 0 4 [some (.ref 0), some (.int x1), none, none] [] κ S1 (it_pi κ P)
  refine ev_iconst d_X5_nextOff_4 kv_iconst_0 ?_
  refine ev_istore_n d_X5_nextOff_5 (by decide) ?_
  show it_Ev g l 6 it_m_X5_nextOff 0 0 6 [some (.ref 0), some (.int x1), some (.int 0), none] [] κ S1 (it_pi κ P)
  refine ev_keep [true, true, true, false] ?_
  refine Llp_X5_nextOff_6 hx (fun  S9 h => ?_) _ _ _ h
  show it_Ev g l 6 it_m_X5_nextOff 0 0 37 [none, none, none, none] [] κ S9 (it_pi κ P)
  refine ev_iconst d_X5_nextOff_37 kv_iconst_m1 ?_
  exact ev_ret (v := some (.int _)) ⟨d_X5_nextOff_38, _, rfl, rfl⟩ (by decide) (by decide) ⟨rfl, _, rfl, it_ok_r h⟩
theorem d_X5_told_0 : decode prog_1_method_11_code 0 = .ok (.aload_n 0, 1) := by decide +kernel
theorem d_X5_told_1 : decode prog_1_method_11_code 1 = .ok (.getfield 28, 3) := by decide +kernel
theorem d_X5_told_4 : decode prog_1_method_11_code 4 = .ok (.iload_n 1, 1) := by decide +kernel
theorem d_X5_told_5 : decode prog_1_method_11_code 5 = .ok (.invokevirtual 117, 3) := by decide +kernel
theorem d_X5_told_8 : decode prog_1_method_11_code 8 = .ok (.ifCond .ne 7, 3) := by decide +kernel
theorem d_X5_told_11 : decode prog_1_method_11_code 11 = .ok (.sipush (-5000), 3) := by decide +kernel
theorem d_X5_told_14 : decode prog_1_method_11_code 14 = .ok (.ireturn, 1) := by decide +kernel
theorem d_X5_told_15 : decode prog_1_method_11_code 15 = .ok (.iload_n 2, 1) := by decide +kernel
theorem d_X5_told_16 : decode prog_1_method_11_code 16 = .ok (.tableswitch 102 0 5 #[40, 50, 60, 70, 80, 89], 40) := by decide +kernel
theorem d_X5_told_56 : decode prog_1_method_11_code 56 = .ok (.aload_n 0, 1) := by decide +kernel
theorem d_X5_told_57 : decode prog_1_method_11_code 57 = .ok (.getfield 28, 3) := by decide +kernel
theorem d_X5_told_60 : decode prog_1_method_11_code 60 = .ok (.getfield 124, 3) := by decide +kernel
theorem d_X5_told_63 : decode prog_1_method_11_code 63 = .ok (.iload_n 1, 1) := by decide +kernel
theorem d_X5_told_64 : decode prog_1_method_11_code 64 = .ok (.iaload, 1) := by decide +kernel
theorem d_X5_told_65 : decode prog_1_method_11_code 65 = .ok (.ireturn, 1) := by decide +kernel
theorem d_X5_told_66 : decode prog_1_method_11_code 66 = .ok (.aload_n 0, 1) := by decide +kernel
theorem d_X5_told_67 : decode prog_1_method_11_code 67 = .ok (.getfield 28, 3) := by decide +kernel
theorem d_X5_told_70 : decode prog_1_method_11_code 70 = .ok (.getfield 128, 3) := by decide +kernel
theorem d_X5_told_73 : decode prog_1_method_11_code 73 = .ok (.iload_n 1, 1) := by decide +kernel
theorem d_X5_told_74 : decode prog_1_method_11_code 74 = .ok (.iaload, 1) := by decide +kernel
theorem d_X5_told_75 : decode prog_1_method_11_code 75 = .ok (.ireturn, 1) := by decide +kernel
theorem d_X5_told_76 : decode prog_1_method_11_code 76 = .ok (.aload_n 0, 1) := by decide +kernel
theorem d_X5_told_77 : decode prog_1_method_11_code 77 = .ok (.getfield 28, 3) := by decide +kernel
theorem d_X5_told_80 : decode prog_1_method_11_code 80 = .ok (.getfield 135, 3) := by decide +kernel
theorem d_X5_told_83 : decode prog_1_method_11_code 83 = .ok (.iload_n 1, 1) := by decide +kernel
theorem d_X5_told_84 : decode prog_1_method_11_code 84 = .ok (.iaload, 1) := by decide +kernel
theorem d_X5_told_85 : decode prog_1_method_11_code 85 = .ok (.ireturn, 1) := by decide +kernel
theorem d_X5_told_86 : decode prog_1_method_11_code 86 = .ok (.aload_n 0, 1) := by decide +kernel
theorem d_X5_told_87 : decode prog_1_method_11_code 87 = .ok (.getfield 28, 3) := by decide +kernel
theorem d_X5_told_90 : decode prog_1_method_11_code 90 = .ok (.getfield 138, 3) := by decide +kernel
theorem d_X5_told_93 : decode prog_1_method_11_code 93 = .ok (.iload_n 1, 1) := by decide +kernel
theorem d_X5_told_94 : decode prog_1_method_11_code 94 = .ok (.iaload, 1) := by decide +kernel
theorem d_X5_told_95 : decode prog_1_method_11_code 95 = .ok (.ireturn, 1) := by decide +kernel
theorem d_X5_told_96 : decode prog_1_method_11_code 96 = .ok (.aload_n 0, 1) := by decide +kernel
theorem d_X5_told_97 : decode prog_1_method_11_code 97 = .ok (.getfield 28, 3) := by decide +kernel
theorem d_X5_told_100 : decode prog_1_method_11_code 100 = .ok (.iload_n 1, 1) := by decide +kernel
theorem d_X5_told_101 : decode prog_1_method_11_code 101 = .ok (.invokevirtual 141, 3) := by decide +kernel
theorem d_X5_told_104 : decode prog_1_method_11_code 104 = .ok (.ireturn, 1) := by decide +kernel
theorem d_X5_told_105 : decode prog_1_method_11_code 105 = .ok (.aload_n 0, 1) := by decide +kernel
theorem d_X5_told_106 : decode prog_1_method_11_code 106 = .ok (.aload_n 0, 1) := by decide +kernel
theorem d_X5_told_107 : decode prog_1_method_11_code 107 = .ok (.getfield 28, 3) := by decide +kernel
theorem d_X5_told_110 : decode prog_1_method_11_code 110 = .ok (.iload_n 1, 1) := by decide +kernel
theorem d_X5_told_111 : decode prog_1_method_11_code 111 = .ok (.invokevirtual 141, 3) := by decide +kernel
theorem d_X5_told_114 : decode prog_1_method_11_code 114 = .ok (.invokevirtual 145, 3) := by decide +kernel
theorem d_X5_told_117 : decode prog_1_method_11_code 117 = .ok (.ireturn, 1) := by decide +kernel
theorem d_X5_told_118 : decode prog_1_method_11_code 118 = .ok (.sipush (-7000), 3) := by decide +kernel
theorem d_X5_told_121 : decode prog_1_method_11_code 121 = .ok (.ireturn, 1) := by decide +kernel
def f_X5_told (κ : it_KK) (x1 : Int32) (x2 : Int32) (S : it_SS) : Option (Int32 × it_SS) :=
it_bi (f_X0_hasGuest κ 9 x1 S) (fun r2 S1 =>
if r2 = 0 then
some ((-5000), S1)
else
if x2 = 0 then
if it_bd x1 6 = true then
some ((S1 (9 + 3) (x1 : Int32).toNatClampNeg), S1)
else none
else if x2 = 1 then
if it_bd x1 6 = true then
some ((S1 (9 + 4) (x1 : Int32).toNatClampNeg), S1)
else none
else if x2 = 2 then
if it_bd x1 6 = true then
some ((S1 (9 + 1) (x1 : Int32).toNatClampNeg), S1)
else none
else if x2 = 3 then
if it_bd x1 6 = true then
some ((S1 (9 + 2) (x1 : Int32).toNatClampNeg), S1)
else none
else if x2 = 4 then
it_bi (f_X0_glassesOf κ 9 x1 S1) (fun r14 S13 =>
some (r14, S13))
else if x2 = 5 then
it_bi (f_X0_glassesOf κ 9 x1 S1) (fun r17 S16 =>
it_bi (f_X5_nextOff κ r17 S16) (fun r19 S18 =>
some (r19, S18)))
else 
some ((-7000), S1))
set_option maxHeartbeats 4000000 in
set_option maxRecDepth 100000 in
theorem L_X5_told {g : it_G} {l : Launch} {κ : it_KK} {x1 : Int32} {x2 : Int32} (hx : it_wx κ) {S : it_SS} {P : Int32 → it_SS → Prop} (h : it_ok (f_X5_told κ x1 x2 S) P) : it_Cn g l 7 it_m_X5_told [.ref 0, .int x1, .int x2] κ S (it_pi κ P) := by
  refine it_Cn.of (by decide +kernel) (Nat.le_of_ble_eq_true rfl) ?_
  rw [f_X5_told] at h
  show it_Ev g l 7 it_m_X5_told 0 0 0 [some (.ref 0), some (.int x1), some (.int x2)] [] κ S (it_pi κ P)
  refine ev_aload_n d_X5_told_0 rfl ?_
  refine ev_getRr (r := 9) rfl d_X5_told_1 fl_IcedTooSoon_28 hx.1 rfl ?_
  refine ev_iload_n d_X5_told_4 rfl ?_
  refine ev_callV (ci := 0) (b := 9) (M' := it_m_X0_hasGuest) (d' := 1) (As := [.int x1]) d_X5_told_5 ml_IcedTooSoon_117 ((hx).2.2.2.1).1.1 ((hx).2.2.2.1).1.2.1 ⟨_, rfl, rfl⟩ rfl rfl (Nat.le_of_ble_eq_true rfl) (by decide) (by decide) (by decide) (L_X0_hasGuest (hx.2.1) (hx).2.2.2.1 (it_ok_b h)) (fun _ _ _ _ q => by cases q.1; rfl) ?_
  rintro _ _ S1 ⟨rfl, r2, rfl, h⟩
  show it_Ev g l 7 it_m_X5_told 0 0 8 [some (.ref 0), some (.int x1), some (.int x2)] [.int r2] κ S1 (it_pi κ P)
  refine ev_if_ne (tgt := 15) d_X5_told_8 (by decide) (fun hc3 => ?_) (fun hc3 => ?_)
  · have h := it_ok_f h hc3
    refine ev_iload_n d_X5_told_15 rfl ?_
    rcases Classical.em (x2 = 0) with hc4 | hc4
    · have h := it_ok_t h hc4
      refine ev_table (c1 := 0) (off := 40) (tgt := 56) hc4 d_X5_told_16 (by decide) (by decide) (by decide) (by decide) ?_
      refine ev_aload_n d_X5_told_56 rfl ?_
      refine ev_getRr (r := 9) rfl d_X5_told_57 fl_IcedTooSoon_28 hx.1 rfl ?_
      refine ev_getRr (r := (9 + 3)) rfl d_X5_told_60 fl_IcedTooSoon_124 ((hx).2.2.2.1).1 rfl ?_
      refine ev_iload_n d_X5_told_63 rfl ?_
      obtain ⟨hb5, h⟩ := it_ok_g h
      refine ev_iald d_X5_told_64 ((hx).2.2.2.1).2.2.2.1 (it_bd_in hb5) ?_
      exact ev_ret (v := some (.int _)) ⟨d_X5_told_65, _, rfl, rfl⟩ (by decide) (by decide) ⟨rfl, _, rfl, it_ok_r h⟩
    · have h := it_ok_f h hc4
      rcases Classical.em (x2 = 1) with hc6 | hc6
      · have h := it_ok_t h hc6
        refine ev_table (c1 := 1) (off := 50) (tgt := 66) hc6 d_X5_told_16 (by decide) (by decide) (by decide) (by decide) ?_
        refine ev_aload_n d_X5_told_66 rfl ?_
        refine ev_getRr (r := 9) rfl d_X5_told_67 fl_IcedTooSoon_28 hx.1 rfl ?_
        refine ev_getRr (r := (9 + 4)) rfl d_X5_told_70 fl_IcedTooSoon_128 ((hx).2.2.2.1).1 rfl ?_
        refine ev_iload_n d_X5_told_73 rfl ?_
        obtain ⟨hb7, h⟩ := it_ok_g h
        refine ev_iald d_X5_told_74 ((hx).2.2.2.1).2.2.2.2.1 (it_bd_in hb7) ?_
        exact ev_ret (v := some (.int _)) ⟨d_X5_told_75, _, rfl, rfl⟩ (by decide) (by decide) ⟨rfl, _, rfl, it_ok_r h⟩
      · have h := it_ok_f h hc6
        rcases Classical.em (x2 = 2) with hc8 | hc8
        · have h := it_ok_t h hc8
          refine ev_table (c1 := 2) (off := 60) (tgt := 76) hc8 d_X5_told_16 (by decide) (by decide) (by decide) (by decide) ?_
          refine ev_aload_n d_X5_told_76 rfl ?_
          refine ev_getRr (r := 9) rfl d_X5_told_77 fl_IcedTooSoon_28 hx.1 rfl ?_
          refine ev_getRr (r := (9 + 1)) rfl d_X5_told_80 fl_IcedTooSoon_135 ((hx).2.2.2.1).1 rfl ?_
          refine ev_iload_n d_X5_told_83 rfl ?_
          obtain ⟨hb9, h⟩ := it_ok_g h
          refine ev_iald d_X5_told_84 ((hx).2.2.2.1).2.1 (it_bd_in hb9) ?_
          exact ev_ret (v := some (.int _)) ⟨d_X5_told_85, _, rfl, rfl⟩ (by decide) (by decide) ⟨rfl, _, rfl, it_ok_r h⟩
        · have h := it_ok_f h hc8
          rcases Classical.em (x2 = 3) with hc10 | hc10
          · have h := it_ok_t h hc10
            refine ev_table (c1 := 3) (off := 70) (tgt := 86) hc10 d_X5_told_16 (by decide) (by decide) (by decide) (by decide) ?_
            refine ev_aload_n d_X5_told_86 rfl ?_
            refine ev_getRr (r := 9) rfl d_X5_told_87 fl_IcedTooSoon_28 hx.1 rfl ?_
            refine ev_getRr (r := (9 + 2)) rfl d_X5_told_90 fl_IcedTooSoon_138 ((hx).2.2.2.1).1 rfl ?_
            refine ev_iload_n d_X5_told_93 rfl ?_
            obtain ⟨hb11, h⟩ := it_ok_g h
            refine ev_iald d_X5_told_94 ((hx).2.2.2.1).2.2.1 (it_bd_in hb11) ?_
            exact ev_ret (v := some (.int _)) ⟨d_X5_told_95, _, rfl, rfl⟩ (by decide) (by decide) ⟨rfl, _, rfl, it_ok_r h⟩
          · have h := it_ok_f h hc10
            rcases Classical.em (x2 = 4) with hc12 | hc12
            · have h := it_ok_t h hc12
              refine ev_table (c1 := 4) (off := 80) (tgt := 96) hc12 d_X5_told_16 (by decide) (by decide) (by decide) (by decide) ?_
              refine ev_aload_n d_X5_told_96 rfl ?_
              refine ev_getRr (r := 9) rfl d_X5_told_97 fl_IcedTooSoon_28 hx.1 rfl ?_
              refine ev_iload_n d_X5_told_100 rfl ?_
              refine ev_callV (ci := 0) (b := 9) (M' := it_m_X0_glassesOf) (d' := 3) (As := [.int x1]) d_X5_told_101 ml_IcedTooSoon_141 ((hx).2.2.2.1).1.1 ((hx).2.2.2.1).1.2.1 ⟨_, rfl, rfl⟩ rfl rfl (Nat.le_of_ble_eq_true rfl) (by decide) (by decide) (by decide) (L_X0_glassesOf (hx.2.1) (hx).2.2.2.1 (it_ok_b h)) (fun _ _ _ _ q => by cases q.1; rfl) ?_
              rintro _ _ S13 ⟨rfl, r14, rfl, h⟩
              show it_Ev g l 7 it_m_X5_told 0 0 104 [some (.ref 0), some (.int x1), some (.int x2)] [.int r14] κ S13 (it_pi κ P)
              exact ev_ret (v := some (.int _)) ⟨d_X5_told_104, _, rfl, rfl⟩ (by decide) (by decide) ⟨rfl, _, rfl, it_ok_r h⟩
            · have h := it_ok_f h hc12
              rcases Classical.em (x2 = 5) with hc15 | hc15
              · have h := it_ok_t h hc15
                refine ev_table (c1 := 5) (off := 89) (tgt := 105) hc15 d_X5_told_16 (by decide) (by decide) (by decide) (by decide) ?_
                refine ev_aload_n d_X5_told_105 rfl ?_
                refine ev_aload_n d_X5_told_106 rfl ?_
                refine ev_getRr (r := 9) rfl d_X5_told_107 fl_IcedTooSoon_28 hx.1 rfl ?_
                refine ev_iload_n d_X5_told_110 rfl ?_
                refine ev_callV (ci := 0) (b := 9) (M' := it_m_X0_glassesOf) (d' := 3) (As := [.int x1]) d_X5_told_111 ml_IcedTooSoon_141 ((hx).2.2.2.1).1.1 ((hx).2.2.2.1).1.2.1 ⟨_, rfl, rfl⟩ rfl rfl (Nat.le_of_ble_eq_true rfl) (by decide) (by decide) (by decide) (L_X0_glassesOf (hx.2.1) (hx).2.2.2.1 (it_ok_b h)) (fun _ _ _ _ q => by cases q.1; rfl) ?_
                rintro _ _ S16 ⟨rfl, r17, rfl, h⟩
                show it_Ev g l 7 it_m_X5_told 0 0 114 [some (.ref 0), some (.int x1), some (.int x2)] [.int r17, .ref 0] κ S16 (it_pi κ P)
                refine ev_callV (ci := 5) (b := 0) (M' := it_m_X5_nextOff) (d' := 6) (As := [.int r17]) d_X5_told_114 ml_IcedTooSoon_145 hx.1.1 hx.1.2.1 ⟨_, rfl, rfl⟩ rfl rfl (Nat.le_of_ble_eq_true rfl) (by decide) (by decide) (by decide) (L_X5_nextOff hx (it_ok_b h)) (fun _ _ _ _ q => by cases q.1; rfl) ?_
                rintro _ _ S18 ⟨rfl, r19, rfl, h⟩
                show it_Ev g l 7 it_m_X5_told 0 0 117 [some (.ref 0), some (.int x1), some (.int x2)] [.int r19] κ S18 (it_pi κ P)
                exact ev_ret (v := some (.int _)) ⟨d_X5_told_117, _, rfl, rfl⟩ (by decide) (by decide) ⟨rfl, _, rfl, it_ok_r h⟩
              · have h := it_ok_f h hc15
                refine ev_tableOut (tgt := 118) d_X5_told_16 (it_sw (fun h1 h2 => ?_)) (by decide) ?_
                · rcases (by omega : (x2).toInt = 0 ∨ (x2).toInt = 1 ∨ (x2).toInt = 2 ∨ (x2).toInt = 3 ∨ (x2).toInt = 4 ∨ (x2).toInt = 5) with q | q | q | q | q | q
                  · exact hc4 (Int32.toInt_inj.mp (q.trans (by decide)))
                  · exact hc6 (Int32.toInt_inj.mp (q.trans (by decide)))
                  · exact hc8 (Int32.toInt_inj.mp (q.trans (by decide)))
                  · exact hc10 (Int32.toInt_inj.mp (q.trans (by decide)))
                  · exact hc12 (Int32.toInt_inj.mp (q.trans (by decide)))
                  · exact hc15 (Int32.toInt_inj.mp (q.trans (by decide)))
                · skip
                  refine ev_sipush d_X5_told_118 kv_sipush_m7000 ?_
                  exact ev_ret (v := some (.int _)) ⟨d_X5_told_121, _, rfl, rfl⟩ (by decide) (by decide) ⟨rfl, _, rfl, it_ok_r h⟩
  · have h := it_ok_t h hc3
    refine ev_sipush d_X5_told_11 kv_sipush_m5000 ?_
    exact ev_ret (v := some (.int _)) ⟨d_X5_told_14, _, rfl, rfl⟩ (by decide) (by decide) ⟨rfl, _, rfl, it_ok_r h⟩
theorem d_X5_glass_0 : decode prog_1_method_12_code 0 = .ok (.aload_n 0, 1) := by decide +kernel
theorem d_X5_glass_1 : decode prog_1_method_12_code 1 = .ok (.getfield 28, 3) := by decide +kernel
theorem d_X5_glass_4 : decode prog_1_method_12_code 4 = .ok (.iload_n 1, 1) := by decide +kernel
theorem d_X5_glass_5 : decode prog_1_method_12_code 5 = .ok (.invokevirtual 107, 3) := by decide +kernel
theorem d_X5_glass_8 : decode prog_1_method_12_code 8 = .ok (.ifCond .ne 7, 3) := by decide +kernel
theorem d_X5_glass_11 : decode prog_1_method_12_code 11 = .ok (.sipush (-6000), 3) := by decide +kernel
theorem d_X5_glass_14 : decode prog_1_method_12_code 14 = .ok (.ireturn, 1) := by decide +kernel
theorem d_X5_glass_15 : decode prog_1_method_12_code 15 = .ok (.iload_n 2, 1) := by decide +kernel
theorem d_X5_glass_16 : decode prog_1_method_12_code 16 = .ok (.tableswitch 97 0 5 #[40, 50, 60, 70, 79, 88], 40) := by decide +kernel
theorem d_X5_glass_56 : decode prog_1_method_12_code 56 = .ok (.aload_n 0, 1) := by decide +kernel
theorem d_X5_glass_57 : decode prog_1_method_12_code 57 = .ok (.getfield 28, 3) := by decide +kernel
theorem d_X5_glass_60 : decode prog_1_method_12_code 60 = .ok (.getfield 148, 3) := by decide +kernel
theorem d_X5_glass_63 : decode prog_1_method_12_code 63 = .ok (.iload_n 1, 1) := by decide +kernel
theorem d_X5_glass_64 : decode prog_1_method_12_code 64 = .ok (.iaload, 1) := by decide +kernel
theorem d_X5_glass_65 : decode prog_1_method_12_code 65 = .ok (.ireturn, 1) := by decide +kernel
theorem d_X5_glass_66 : decode prog_1_method_12_code 66 = .ok (.aload_n 0, 1) := by decide +kernel
theorem d_X5_glass_67 : decode prog_1_method_12_code 67 = .ok (.getfield 28, 3) := by decide +kernel
theorem d_X5_glass_70 : decode prog_1_method_12_code 70 = .ok (.getfield 151, 3) := by decide +kernel
theorem d_X5_glass_73 : decode prog_1_method_12_code 73 = .ok (.iload_n 1, 1) := by decide +kernel
theorem d_X5_glass_74 : decode prog_1_method_12_code 74 = .ok (.iaload, 1) := by decide +kernel
theorem d_X5_glass_75 : decode prog_1_method_12_code 75 = .ok (.ireturn, 1) := by decide +kernel
theorem d_X5_glass_76 : decode prog_1_method_12_code 76 = .ok (.aload_n 0, 1) := by decide +kernel
theorem d_X5_glass_77 : decode prog_1_method_12_code 77 = .ok (.getfield 28, 3) := by decide +kernel
theorem d_X5_glass_80 : decode prog_1_method_12_code 80 = .ok (.getfield 154, 3) := by decide +kernel
theorem d_X5_glass_83 : decode prog_1_method_12_code 83 = .ok (.iload_n 1, 1) := by decide +kernel
theorem d_X5_glass_84 : decode prog_1_method_12_code 84 = .ok (.iaload, 1) := by decide +kernel
theorem d_X5_glass_85 : decode prog_1_method_12_code 85 = .ok (.ireturn, 1) := by decide +kernel
theorem d_X5_glass_86 : decode prog_1_method_12_code 86 = .ok (.aload_n 0, 1) := by decide +kernel
theorem d_X5_glass_87 : decode prog_1_method_12_code 87 = .ok (.getfield 28, 3) := by decide +kernel
theorem d_X5_glass_90 : decode prog_1_method_12_code 90 = .ok (.iload_n 1, 1) := by decide +kernel
theorem d_X5_glass_91 : decode prog_1_method_12_code 91 = .ok (.invokevirtual 157, 3) := by decide +kernel
theorem d_X5_glass_94 : decode prog_1_method_12_code 94 = .ok (.ireturn, 1) := by decide +kernel
theorem d_X5_glass_95 : decode prog_1_method_12_code 95 = .ok (.aload_n 0, 1) := by decide +kernel
theorem d_X5_glass_96 : decode prog_1_method_12_code 96 = .ok (.getfield 28, 3) := by decide +kernel
theorem d_X5_glass_99 : decode prog_1_method_12_code 99 = .ok (.iload_n 1, 1) := by decide +kernel
theorem d_X5_glass_100 : decode prog_1_method_12_code 100 = .ok (.invokevirtual 160, 3) := by decide +kernel
theorem d_X5_glass_103 : decode prog_1_method_12_code 103 = .ok (.ireturn, 1) := by decide +kernel
theorem d_X5_glass_104 : decode prog_1_method_12_code 104 = .ok (.aload_n 0, 1) := by decide +kernel
theorem d_X5_glass_105 : decode prog_1_method_12_code 105 = .ok (.getfield 28, 3) := by decide +kernel
theorem d_X5_glass_108 : decode prog_1_method_12_code 108 = .ok (.iload_n 1, 1) := by decide +kernel
theorem d_X5_glass_109 : decode prog_1_method_12_code 109 = .ok (.invokevirtual 163, 3) := by decide +kernel
theorem d_X5_glass_112 : decode prog_1_method_12_code 112 = .ok (.ireturn, 1) := by decide +kernel
theorem d_X5_glass_113 : decode prog_1_method_12_code 113 = .ok (.sipush (-7000), 3) := by decide +kernel
theorem d_X5_glass_116 : decode prog_1_method_12_code 116 = .ok (.ireturn, 1) := by decide +kernel
def f_X5_glass (κ : it_KK) (x1 : Int32) (x2 : Int32) (S : it_SS) : Option (Int32 × it_SS) :=
it_bi (f_X0_hasGlass κ 9 x1 S) (fun r2 S1 =>
if r2 = 0 then
some ((-6000), S1)
else
if x2 = 0 then
if it_bd x1 10 = true then
some ((S1 (9 + 5) (x1 : Int32).toNatClampNeg), S1)
else none
else if x2 = 1 then
if it_bd x1 10 = true then
some ((S1 (9 + 6) (x1 : Int32).toNatClampNeg), S1)
else none
else if x2 = 2 then
if it_bd x1 10 = true then
some ((S1 (9 + 7) (x1 : Int32).toNatClampNeg), S1)
else none
else if x2 = 3 then
it_bi (f_X0_melting κ 9 x1 S1) (fun r12 S11 =>
some (r12, S11))
else if x2 = 4 then
it_bi (f_X0_feeling κ 9 x1 S1) (fun r15 S14 =>
some (r15, S14))
else if x2 = 5 then
it_bi (f_X0_chilling κ 9 x1 S1) (fun r18 S17 =>
some (r18, S17))
else 
some ((-7000), S1))
set_option maxHeartbeats 4000000 in
set_option maxRecDepth 100000 in
theorem L_X5_glass {g : it_G} {l : Launch} {κ : it_KK} {x1 : Int32} {x2 : Int32} (hx : it_wx κ) {S : it_SS} {P : Int32 → it_SS → Prop} (h : it_ok (f_X5_glass κ x1 x2 S) P) : it_Cn g l 5 it_m_X5_glass [.ref 0, .int x1, .int x2] κ S (it_pi κ P) := by
  refine it_Cn.of (by decide +kernel) (Nat.le_of_ble_eq_true rfl) ?_
  rw [f_X5_glass] at h
  show it_Ev g l 5 it_m_X5_glass 0 0 0 [some (.ref 0), some (.int x1), some (.int x2)] [] κ S (it_pi κ P)
  refine ev_aload_n d_X5_glass_0 rfl ?_
  refine ev_getRr (r := 9) rfl d_X5_glass_1 fl_IcedTooSoon_28 hx.1 rfl ?_
  refine ev_iload_n d_X5_glass_4 rfl ?_
  refine ev_callV (ci := 0) (b := 9) (M' := it_m_X0_hasGlass) (d' := 2) (As := [.int x1]) d_X5_glass_5 ml_IcedTooSoon_107 ((hx).2.2.2.1).1.1 ((hx).2.2.2.1).1.2.1 ⟨_, rfl, rfl⟩ rfl rfl (Nat.le_of_ble_eq_true rfl) (by decide) (by decide) (by decide) (L_X0_hasGlass (hx.2.1) (hx).2.2.2.1 (it_ok_b h)) (fun _ _ _ _ q => by cases q.1; rfl) ?_
  rintro _ _ S1 ⟨rfl, r2, rfl, h⟩
  show it_Ev g l 5 it_m_X5_glass 0 0 8 [some (.ref 0), some (.int x1), some (.int x2)] [.int r2] κ S1 (it_pi κ P)
  refine ev_if_ne (tgt := 15) d_X5_glass_8 (by decide) (fun hc3 => ?_) (fun hc3 => ?_)
  · have h := it_ok_f h hc3
    refine ev_iload_n d_X5_glass_15 rfl ?_
    rcases Classical.em (x2 = 0) with hc4 | hc4
    · have h := it_ok_t h hc4
      refine ev_table (c1 := 0) (off := 40) (tgt := 56) hc4 d_X5_glass_16 (by decide) (by decide) (by decide) (by decide) ?_
      refine ev_aload_n d_X5_glass_56 rfl ?_
      refine ev_getRr (r := 9) rfl d_X5_glass_57 fl_IcedTooSoon_28 hx.1 rfl ?_
      refine ev_getRr (r := (9 + 5)) rfl d_X5_glass_60 fl_IcedTooSoon_148 ((hx).2.2.2.1).1 rfl ?_
      refine ev_iload_n d_X5_glass_63 rfl ?_
      obtain ⟨hb5, h⟩ := it_ok_g h
      refine ev_iald d_X5_glass_64 ((hx).2.2.2.1).2.2.2.2.2.1 (it_bd_in hb5) ?_
      exact ev_ret (v := some (.int _)) ⟨d_X5_glass_65, _, rfl, rfl⟩ (by decide) (by decide) ⟨rfl, _, rfl, it_ok_r h⟩
    · have h := it_ok_f h hc4
      rcases Classical.em (x2 = 1) with hc6 | hc6
      · have h := it_ok_t h hc6
        refine ev_table (c1 := 1) (off := 50) (tgt := 66) hc6 d_X5_glass_16 (by decide) (by decide) (by decide) (by decide) ?_
        refine ev_aload_n d_X5_glass_66 rfl ?_
        refine ev_getRr (r := 9) rfl d_X5_glass_67 fl_IcedTooSoon_28 hx.1 rfl ?_
        refine ev_getRr (r := (9 + 6)) rfl d_X5_glass_70 fl_IcedTooSoon_151 ((hx).2.2.2.1).1 rfl ?_
        refine ev_iload_n d_X5_glass_73 rfl ?_
        obtain ⟨hb7, h⟩ := it_ok_g h
        refine ev_iald d_X5_glass_74 ((hx).2.2.2.1).2.2.2.2.2.2.1 (it_bd_in hb7) ?_
        exact ev_ret (v := some (.int _)) ⟨d_X5_glass_75, _, rfl, rfl⟩ (by decide) (by decide) ⟨rfl, _, rfl, it_ok_r h⟩
      · have h := it_ok_f h hc6
        rcases Classical.em (x2 = 2) with hc8 | hc8
        · have h := it_ok_t h hc8
          refine ev_table (c1 := 2) (off := 60) (tgt := 76) hc8 d_X5_glass_16 (by decide) (by decide) (by decide) (by decide) ?_
          refine ev_aload_n d_X5_glass_76 rfl ?_
          refine ev_getRr (r := 9) rfl d_X5_glass_77 fl_IcedTooSoon_28 hx.1 rfl ?_
          refine ev_getRr (r := (9 + 7)) rfl d_X5_glass_80 fl_IcedTooSoon_154 ((hx).2.2.2.1).1 rfl ?_
          refine ev_iload_n d_X5_glass_83 rfl ?_
          obtain ⟨hb9, h⟩ := it_ok_g h
          refine ev_iald d_X5_glass_84 ((hx).2.2.2.1).2.2.2.2.2.2.2 (it_bd_in hb9) ?_
          exact ev_ret (v := some (.int _)) ⟨d_X5_glass_85, _, rfl, rfl⟩ (by decide) (by decide) ⟨rfl, _, rfl, it_ok_r h⟩
        · have h := it_ok_f h hc8
          rcases Classical.em (x2 = 3) with hc10 | hc10
          · have h := it_ok_t h hc10
            refine ev_table (c1 := 3) (off := 70) (tgt := 86) hc10 d_X5_glass_16 (by decide) (by decide) (by decide) (by decide) ?_
            refine ev_aload_n d_X5_glass_86 rfl ?_
            refine ev_getRr (r := 9) rfl d_X5_glass_87 fl_IcedTooSoon_28 hx.1 rfl ?_
            refine ev_iload_n d_X5_glass_90 rfl ?_
            refine ev_callV (ci := 0) (b := 9) (M' := it_m_X0_melting) (d' := 4) (As := [.int x1]) d_X5_glass_91 ml_IcedTooSoon_157 ((hx).2.2.2.1).1.1 ((hx).2.2.2.1).1.2.1 ⟨_, rfl, rfl⟩ rfl rfl (Nat.le_of_ble_eq_true rfl) (by decide) (by decide) (by decide) (L_X0_melting (hx.2.1) (hx).2.2.2.1 (it_ok_b h)) (fun _ _ _ _ q => by cases q.1; rfl) ?_
            rintro _ _ S11 ⟨rfl, r12, rfl, h⟩
            show it_Ev g l 5 it_m_X5_glass 0 0 94 [some (.ref 0), some (.int x1), some (.int x2)] [.int r12] κ S11 (it_pi κ P)
            exact ev_ret (v := some (.int _)) ⟨d_X5_glass_94, _, rfl, rfl⟩ (by decide) (by decide) ⟨rfl, _, rfl, it_ok_r h⟩
          · have h := it_ok_f h hc10
            rcases Classical.em (x2 = 4) with hc13 | hc13
            · have h := it_ok_t h hc13
              refine ev_table (c1 := 4) (off := 79) (tgt := 95) hc13 d_X5_glass_16 (by decide) (by decide) (by decide) (by decide) ?_
              refine ev_aload_n d_X5_glass_95 rfl ?_
              refine ev_getRr (r := 9) rfl d_X5_glass_96 fl_IcedTooSoon_28 hx.1 rfl ?_
              refine ev_iload_n d_X5_glass_99 rfl ?_
              refine ev_callV (ci := 0) (b := 9) (M' := it_m_X0_feeling) (d' := 4) (As := [.int x1]) d_X5_glass_100 ml_IcedTooSoon_160 ((hx).2.2.2.1).1.1 ((hx).2.2.2.1).1.2.1 ⟨_, rfl, rfl⟩ rfl rfl (Nat.le_of_ble_eq_true rfl) (by decide) (by decide) (by decide) (L_X0_feeling (hx.2.1) (hx).2.2.2.1 (it_ok_b h)) (fun _ _ _ _ q => by cases q.1; rfl) ?_
              rintro _ _ S14 ⟨rfl, r15, rfl, h⟩
              show it_Ev g l 5 it_m_X5_glass 0 0 103 [some (.ref 0), some (.int x1), some (.int x2)] [.int r15] κ S14 (it_pi κ P)
              exact ev_ret (v := some (.int _)) ⟨d_X5_glass_103, _, rfl, rfl⟩ (by decide) (by decide) ⟨rfl, _, rfl, it_ok_r h⟩
            · have h := it_ok_f h hc13
              rcases Classical.em (x2 = 5) with hc16 | hc16
              · have h := it_ok_t h hc16
                refine ev_table (c1 := 5) (off := 88) (tgt := 104) hc16 d_X5_glass_16 (by decide) (by decide) (by decide) (by decide) ?_
                refine ev_aload_n d_X5_glass_104 rfl ?_
                refine ev_getRr (r := 9) rfl d_X5_glass_105 fl_IcedTooSoon_28 hx.1 rfl ?_
                refine ev_iload_n d_X5_glass_108 rfl ?_
                refine ev_callV (ci := 0) (b := 9) (M' := it_m_X0_chilling) (d' := 4) (As := [.int x1]) d_X5_glass_109 ml_IcedTooSoon_163 ((hx).2.2.2.1).1.1 ((hx).2.2.2.1).1.2.1 ⟨_, rfl, rfl⟩ rfl rfl (Nat.le_of_ble_eq_true rfl) (by decide) (by decide) (by decide) (L_X0_chilling (hx.2.1) (hx).2.2.2.1 (it_ok_b h)) (fun _ _ _ _ q => by cases q.1; rfl) ?_
                rintro _ _ S17 ⟨rfl, r18, rfl, h⟩
                show it_Ev g l 5 it_m_X5_glass 0 0 112 [some (.ref 0), some (.int x1), some (.int x2)] [.int r18] κ S17 (it_pi κ P)
                exact ev_ret (v := some (.int _)) ⟨d_X5_glass_112, _, rfl, rfl⟩ (by decide) (by decide) ⟨rfl, _, rfl, it_ok_r h⟩
              · have h := it_ok_f h hc16
                refine ev_tableOut (tgt := 113) d_X5_glass_16 (it_sw (fun h1 h2 => ?_)) (by decide) ?_
                · rcases (by omega : (x2).toInt = 0 ∨ (x2).toInt = 1 ∨ (x2).toInt = 2 ∨ (x2).toInt = 3 ∨ (x2).toInt = 4 ∨ (x2).toInt = 5) with q | q | q | q | q | q
                  · exact hc4 (Int32.toInt_inj.mp (q.trans (by decide)))
                  · exact hc6 (Int32.toInt_inj.mp (q.trans (by decide)))
                  · exact hc8 (Int32.toInt_inj.mp (q.trans (by decide)))
                  · exact hc10 (Int32.toInt_inj.mp (q.trans (by decide)))
                  · exact hc13 (Int32.toInt_inj.mp (q.trans (by decide)))
                  · exact hc16 (Int32.toInt_inj.mp (q.trans (by decide)))
                · skip
                  refine ev_sipush d_X5_glass_113 kv_sipush_m7000 ?_
                  exact ev_ret (v := some (.int _)) ⟨d_X5_glass_116, _, rfl, rfl⟩ (by decide) (by decide) ⟨rfl, _, rfl, it_ok_r h⟩
  · have h := it_ok_t h hc3
    refine ev_sipush d_X5_glass_11 kv_sipush_m6000 ?_
    exact ev_ret (v := some (.int _)) ⟨d_X5_glass_14, _, rfl, rfl⟩ (by decide) (by decide) ⟨rfl, _, rfl, it_ok_r h⟩
theorem d_X5_day_0 : decode prog_1_method_13_code 0 = .ok (.aload_n 0, 1) := by decide +kernel
theorem d_X5_day_1 : decode prog_1_method_13_code 1 = .ok (.getfield 28, 3) := by decide +kernel
theorem d_X5_day_4 : decode prog_1_method_13_code 4 = .ok (.getfield 86, 3) := by decide +kernel
theorem d_X5_day_7 : decode prog_1_method_13_code 7 = .ok (.sipush 999, 3) := by decide +kernel
theorem d_X5_day_10 : decode prog_1_method_13_code 10 = .ok (.if_icmp .lt 6, 3) := by decide +kernel
theorem d_X5_day_13 : decode prog_1_method_13_code 13 = .ok (.bipush (-3), 2) := by decide +kernel
theorem d_X5_day_15 : decode prog_1_method_13_code 15 = .ok (.ireturn, 1) := by decide +kernel
theorem d_X5_day_16 : decode prog_1_method_13_code 16 = .ok (.aload_n 0, 1) := by decide +kernel
theorem d_X5_day_17 : decode prog_1_method_13_code 17 = .ok (.getfield 28, 3) := by decide +kernel
theorem d_X5_day_20 : decode prog_1_method_13_code 20 = .ok (.invokevirtual 166, 3) := by decide +kernel
theorem d_X5_day_23 : decode prog_1_method_13_code 23 = .ok (.ireturn, 1) := by decide +kernel
def f_X5_day (κ : it_KK)  (S : it_SS) : Option (Int32 × it_SS) :=
if (S 9 9) < 999 then
it_bi (f_X0_passDay κ 9 S) (fun r3 S2 =>
some (r3, S2))
else
some ((-3), S)
set_option maxHeartbeats 4000000 in
set_option maxRecDepth 100000 in
theorem L_X5_day {g : it_G} {l : Launch} {κ : it_KK} (hx : it_wx κ) {S : it_SS} {P : Int32 → it_SS → Prop} (h : it_ok (f_X5_day κ  S) P) : it_Cn g l 6 it_m_X5_day [.ref 0] κ S (it_pi κ P) := by
  refine it_Cn.of (by decide +kernel) (Nat.le_of_ble_eq_true rfl) ?_
  rw [f_X5_day] at h
  show it_Ev g l 6 it_m_X5_day 0 0 0 [some (.ref 0)] [] κ S (it_pi κ P)
  refine ev_aload_n d_X5_day_0 rfl ?_
  refine ev_getRr (r := 9) rfl d_X5_day_1 fl_IcedTooSoon_28 hx.1 rfl ?_
  refine ev_getI d_X5_day_4 fl_IcedTooSoon_86 ((hx).2.2.2.1).1 rfl ?_
  refine ev_sipush d_X5_day_7 kv_sipush_999 ?_
  refine ev_icmp_lt (tgt := 16) d_X5_day_10 (by decide) (fun hc1 => ?_) (fun hc1 => ?_)
  · have h := it_ok_t h hc1
    refine ev_aload_n d_X5_day_16 rfl ?_
    refine ev_getRr (r := 9) rfl d_X5_day_17 fl_IcedTooSoon_28 hx.1 rfl ?_
    refine ev_callV (ci := 0) (b := 9) (M' := it_m_X0_passDay) (d' := 5) (As := []) d_X5_day_20 ml_IcedTooSoon_166 ((hx).2.2.2.1).1.1 ((hx).2.2.2.1).1.2.1 ⟨_, rfl, rfl⟩ rfl rfl (Nat.le_of_ble_eq_true rfl) (by decide) (by decide) (by decide) (L_X0_passDay (hx.2.1) (hx).2.2.2.1 (it_ok_b h)) (fun _ _ _ _ q => by cases q.1; rfl) ?_
    rintro _ _ S2 ⟨rfl, r3, rfl, h⟩
    show it_Ev g l 6 it_m_X5_day 0 0 23 [some (.ref 0)] [.int r3] κ S2 (it_pi κ P)
    exact ev_ret (v := some (.int _)) ⟨d_X5_day_23, _, rfl, rfl⟩ (by decide) (by decide) ⟨rfl, _, rfl, it_ok_r h⟩
  · have h := it_ok_f h hc1
    refine ev_bipush d_X5_day_13 kv_bipush_m3 ?_
    exact ev_ret (v := some (.int _)) ⟨d_X5_day_15, _, rfl, rfl⟩ (by decide) (by decide) ⟨rfl, _, rfl, it_ok_r h⟩
theorem d_X5_iced_0 : decode prog_1_method_14_code 0 = .ok (.aload_n 0, 1) := by decide +kernel
theorem d_X5_iced_1 : decode prog_1_method_14_code 1 = .ok (.getfield 28, 3) := by decide +kernel
theorem d_X5_iced_4 : decode prog_1_method_14_code 4 = .ok (.iload_n 1, 1) := by decide +kernel
theorem d_X5_iced_5 : decode prog_1_method_14_code 5 = .ok (.invokevirtual 107, 3) := by decide +kernel
theorem d_X5_iced_8 : decode prog_1_method_14_code 8 = .ok (.ifCond .ne 6, 3) := by decide +kernel
theorem d_X5_iced_11 : decode prog_1_method_14_code 11 = .ok (.bipush (-6), 2) := by decide +kernel
theorem d_X5_iced_13 : decode prog_1_method_14_code 13 = .ok (.ireturn, 1) := by decide +kernel
theorem d_X5_iced_14 : decode prog_1_method_14_code 14 = .ok (.iload_n 2, 1) := by decide +kernel
theorem d_X5_iced_15 : decode prog_1_method_14_code 15 = .ok (.iconst 0, 1) := by decide +kernel
theorem d_X5_iced_16 : decode prog_1_method_14_code 16 = .ok (.bipush 99, 2) := by decide +kernel
theorem d_X5_iced_18 : decode prog_1_method_14_code 18 = .ok (.invokestatic 96, 3) := by decide +kernel
theorem d_X5_iced_21 : decode prog_1_method_14_code 21 = .ok (.ifCond .eq 6, 3) := by decide +kernel
theorem d_X5_iced_24 : decode prog_1_method_14_code 24 = .ok (.bipush (-7), 2) := by decide +kernel
theorem d_X5_iced_26 : decode prog_1_method_14_code 26 = .ok (.ireturn, 1) := by decide +kernel
theorem d_X5_iced_27 : decode prog_1_method_14_code 27 = .ok (.aload_n 0, 1) := by decide +kernel
theorem d_X5_iced_28 : decode prog_1_method_14_code 28 = .ok (.getfield 28, 3) := by decide +kernel
theorem d_X5_iced_31 : decode prog_1_method_14_code 31 = .ok (.iload_n 1, 1) := by decide +kernel
theorem d_X5_iced_32 : decode prog_1_method_14_code 32 = .ok (.iload_n 2, 1) := by decide +kernel
theorem d_X5_iced_33 : decode prog_1_method_14_code 33 = .ok (.invokevirtual 169, 3) := by decide +kernel
theorem d_X5_iced_36 : decode prog_1_method_14_code 36 = .ok (.aload_n 0, 1) := by decide +kernel
theorem d_X5_iced_37 : decode prog_1_method_14_code 37 = .ok (.getfield 28, 3) := by decide +kernel
theorem d_X5_iced_40 : decode prog_1_method_14_code 40 = .ok (.getfield 154, 3) := by decide +kernel
theorem d_X5_iced_43 : decode prog_1_method_14_code 43 = .ok (.iload_n 1, 1) := by decide +kernel
theorem d_X5_iced_44 : decode prog_1_method_14_code 44 = .ok (.iaload, 1) := by decide +kernel
theorem d_X5_iced_45 : decode prog_1_method_14_code 45 = .ok (.ireturn, 1) := by decide +kernel
def f_X5_iced (κ : it_KK) (x1 : Int32) (x2 : Int32) (S : it_SS) : Option (Int32 × it_SS) :=
it_bi (f_X0_hasGlass κ 9 x1 S) (fun r2 S1 =>
if r2 = 0 then
some ((-6), S1)
else
it_bi (f_X5_isOutside κ x2 0 99 S1) (fun r5 S4 =>
if r5 = 0 then
it_bi (f_X0_addIce κ 9 x1 x2 S4) (fun _ S7 =>
if it_bd x1 10 = true then
some ((S7 (9 + 7) (x1 : Int32).toNatClampNeg), S7)
else none)
else
some ((-7), S4)))
set_option maxHeartbeats 4000000 in
set_option maxRecDepth 100000 in
theorem L_X5_iced {g : it_G} {l : Launch} {κ : it_KK} {x1 : Int32} {x2 : Int32} (hx : it_wx κ) {S : it_SS} {P : Int32 → it_SS → Prop} (h : it_ok (f_X5_iced κ x1 x2 S) P) : it_Cn g l 3 it_m_X5_iced [.ref 0, .int x1, .int x2] κ S (it_pi κ P) := by
  refine it_Cn.of (by decide +kernel) (Nat.le_of_ble_eq_true rfl) ?_
  rw [f_X5_iced] at h
  show it_Ev g l 3 it_m_X5_iced 0 0 0 [some (.ref 0), some (.int x1), some (.int x2)] [] κ S (it_pi κ P)
  refine ev_aload_n d_X5_iced_0 rfl ?_
  refine ev_getRr (r := 9) rfl d_X5_iced_1 fl_IcedTooSoon_28 hx.1 rfl ?_
  refine ev_iload_n d_X5_iced_4 rfl ?_
  refine ev_callV (ci := 0) (b := 9) (M' := it_m_X0_hasGlass) (d' := 2) (As := [.int x1]) d_X5_iced_5 ml_IcedTooSoon_107 ((hx).2.2.2.1).1.1 ((hx).2.2.2.1).1.2.1 ⟨_, rfl, rfl⟩ rfl rfl (Nat.le_of_ble_eq_true rfl) (by decide) (by decide) (by decide) (L_X0_hasGlass (hx.2.1) (hx).2.2.2.1 (it_ok_b h)) (fun _ _ _ _ q => by cases q.1; rfl) ?_
  rintro _ _ S1 ⟨rfl, r2, rfl, h⟩
  show it_Ev g l 3 it_m_X5_iced 0 0 8 [some (.ref 0), some (.int x1), some (.int x2)] [.int r2] κ S1 (it_pi κ P)
  refine ev_if_ne (tgt := 14) d_X5_iced_8 (by decide) (fun hc3 => ?_) (fun hc3 => ?_)
  · have h := it_ok_f h hc3
    refine ev_iload_n d_X5_iced_14 rfl ?_
    refine ev_iconst d_X5_iced_15 kv_iconst_0 ?_
    refine ev_bipush d_X5_iced_16 kv_bipush_99 ?_
    refine ev_callS (M' := it_m_X5_isOutside) (d' := 1) (As := [.int x2, .int 0, .int 99]) d_X5_iced_18 ml_IcedTooSoon_96 rfl rfl (Nat.le_of_ble_eq_true rfl) (by decide) (by decide) (by decide) (L_X5_isOutside  (it_ok_b h)) (fun _ _ _ _ q => by cases q.1; rfl) ?_
    rintro _ _ S4 ⟨rfl, r5, rfl, h⟩
    show it_Ev g l 3 it_m_X5_iced 0 0 21 [some (.ref 0), some (.int x1), some (.int x2)] [.int r5] κ S4 (it_pi κ P)
    refine ev_if_eq (tgt := 27) d_X5_iced_21 (by decide) (fun hc6 => ?_) (fun hc6 => ?_)
    · have h := it_ok_t h hc6
      refine ev_aload_n d_X5_iced_27 rfl ?_
      refine ev_getRr (r := 9) rfl d_X5_iced_28 fl_IcedTooSoon_28 hx.1 rfl ?_
      refine ev_iload_n d_X5_iced_31 rfl ?_
      refine ev_iload_n d_X5_iced_32 rfl ?_
      refine ev_callV (ci := 0) (b := 9) (M' := it_m_X0_addIce) (d' := 2) (As := [.int x1, .int x2]) d_X5_iced_33 ml_IcedTooSoon_169 ((hx).2.2.2.1).1.1 ((hx).2.2.2.1).1.2.1 ⟨_, rfl, rfl⟩ rfl rfl (Nat.le_of_ble_eq_true rfl) (by decide) (by decide) (by decide) (L_X0_addIce (hx.2.1) (hx).2.2.2.1 (it_ok_b h)) (fun _ _ _ _ q => by cases q.1; rfl) ?_
      rintro _ _ S7 ⟨rfl, rfl, h⟩
      show it_Ev g l 3 it_m_X5_iced 0 0 36 [some (.ref 0), some (.int x1), some (.int x2)] [] κ S7 (it_pi κ P)
      refine ev_aload_n d_X5_iced_36 rfl ?_
      refine ev_getRr (r := 9) rfl d_X5_iced_37 fl_IcedTooSoon_28 hx.1 rfl ?_
      refine ev_getRr (r := (9 + 7)) rfl d_X5_iced_40 fl_IcedTooSoon_154 ((hx).2.2.2.1).1 rfl ?_
      refine ev_iload_n d_X5_iced_43 rfl ?_
      obtain ⟨hb9, h⟩ := it_ok_g h
      refine ev_iald d_X5_iced_44 ((hx).2.2.2.1).2.2.2.2.2.2.2 (it_bd_in hb9) ?_
      exact ev_ret (v := some (.int _)) ⟨d_X5_iced_45, _, rfl, rfl⟩ (by decide) (by decide) ⟨rfl, _, rfl, it_ok_r h⟩
    · have h := it_ok_f h hc6
      refine ev_bipush d_X5_iced_24 kv_bipush_m7 ?_
      exact ev_ret (v := some (.int _)) ⟨d_X5_iced_26, _, rfl, rfl⟩ (by decide) (by decide) ⟨rfl, _, rfl, it_ok_r h⟩
  · have h := it_ok_t h hc3
    refine ev_bipush d_X5_iced_11 kv_bipush_m6 ?_
    exact ev_ret (v := some (.int _)) ⟨d_X5_iced_13, _, rfl, rfl⟩ (by decide) (by decide) ⟨rfl, _, rfl, it_ok_r h⟩
theorem d_X5_spill_0 : decode prog_1_method_15_code 0 = .ok (.aload_n 0, 1) := by decide +kernel
theorem d_X5_spill_1 : decode prog_1_method_15_code 1 = .ok (.getfield 28, 3) := by decide +kernel
theorem d_X5_spill_4 : decode prog_1_method_15_code 4 = .ok (.iload_n 1, 1) := by decide +kernel
theorem d_X5_spill_5 : decode prog_1_method_15_code 5 = .ok (.invokevirtual 107, 3) := by decide +kernel
theorem d_X5_spill_8 : decode prog_1_method_15_code 8 = .ok (.ifCond .ne 7, 3) := by decide +kernel
theorem d_X5_spill_11 : decode prog_1_method_15_code 11 = .ok (.sipush (-6000), 3) := by decide +kernel
theorem d_X5_spill_14 : decode prog_1_method_15_code 14 = .ok (.ireturn, 1) := by decide +kernel
theorem d_X5_spill_15 : decode prog_1_method_15_code 15 = .ok (.aload_n 0, 1) := by decide +kernel
theorem d_X5_spill_16 : decode prog_1_method_15_code 16 = .ok (.getfield 28, 3) := by decide +kernel
theorem d_X5_spill_19 : decode prog_1_method_15_code 19 = .ok (.iload_n 1, 1) := by decide +kernel
theorem d_X5_spill_20 : decode prog_1_method_15_code 20 = .ok (.invokevirtual 173, 3) := by decide +kernel
theorem d_X5_spill_23 : decode prog_1_method_15_code 23 = .ok (.aload_n 0, 1) := by decide +kernel
theorem d_X5_spill_24 : decode prog_1_method_15_code 24 = .ok (.getfield 28, 3) := by decide +kernel
theorem d_X5_spill_27 : decode prog_1_method_15_code 27 = .ok (.getfield 151, 3) := by decide +kernel
theorem d_X5_spill_30 : decode prog_1_method_15_code 30 = .ok (.iload_n 1, 1) := by decide +kernel
theorem d_X5_spill_31 : decode prog_1_method_15_code 31 = .ok (.iaload, 1) := by decide +kernel
theorem d_X5_spill_32 : decode prog_1_method_15_code 32 = .ok (.ireturn, 1) := by decide +kernel
def f_X5_spill (κ : it_KK) (x1 : Int32) (S : it_SS) : Option (Int32 × it_SS) :=
it_bi (f_X0_hasGlass κ 9 x1 S) (fun r2 S1 =>
if r2 = 0 then
some ((-6000), S1)
else
it_bi (f_X0_take κ 9 x1 S1) (fun _ S4 =>
if it_bd x1 10 = true then
some ((S4 (9 + 6) (x1 : Int32).toNatClampNeg), S4)
else none))
set_option maxHeartbeats 4000000 in
set_option maxRecDepth 100000 in
theorem L_X5_spill {g : it_G} {l : Launch} {κ : it_KK} {x1 : Int32} (hx : it_wx κ) {S : it_SS} {P : Int32 → it_SS → Prop} (h : it_ok (f_X5_spill κ x1 S) P) : it_Cn g l 3 it_m_X5_spill [.ref 0, .int x1] κ S (it_pi κ P) := by
  refine it_Cn.of (by decide +kernel) (Nat.le_of_ble_eq_true rfl) ?_
  rw [f_X5_spill] at h
  show it_Ev g l 3 it_m_X5_spill 0 0 0 [some (.ref 0), some (.int x1)] [] κ S (it_pi κ P)
  refine ev_aload_n d_X5_spill_0 rfl ?_
  refine ev_getRr (r := 9) rfl d_X5_spill_1 fl_IcedTooSoon_28 hx.1 rfl ?_
  refine ev_iload_n d_X5_spill_4 rfl ?_
  refine ev_callV (ci := 0) (b := 9) (M' := it_m_X0_hasGlass) (d' := 2) (As := [.int x1]) d_X5_spill_5 ml_IcedTooSoon_107 ((hx).2.2.2.1).1.1 ((hx).2.2.2.1).1.2.1 ⟨_, rfl, rfl⟩ rfl rfl (Nat.le_of_ble_eq_true rfl) (by decide) (by decide) (by decide) (L_X0_hasGlass (hx.2.1) (hx).2.2.2.1 (it_ok_b h)) (fun _ _ _ _ q => by cases q.1; rfl) ?_
  rintro _ _ S1 ⟨rfl, r2, rfl, h⟩
  show it_Ev g l 3 it_m_X5_spill 0 0 8 [some (.ref 0), some (.int x1)] [.int r2] κ S1 (it_pi κ P)
  refine ev_if_ne (tgt := 15) d_X5_spill_8 (by decide) (fun hc3 => ?_) (fun hc3 => ?_)
  · have h := it_ok_f h hc3
    refine ev_aload_n d_X5_spill_15 rfl ?_
    refine ev_getRr (r := 9) rfl d_X5_spill_16 fl_IcedTooSoon_28 hx.1 rfl ?_
    refine ev_iload_n d_X5_spill_19 rfl ?_
    refine ev_callV (ci := 0) (b := 9) (M' := it_m_X0_take) (d' := 1) (As := [.int x1]) d_X5_spill_20 ml_IcedTooSoon_173 ((hx).2.2.2.1).1.1 ((hx).2.2.2.1).1.2.1 ⟨_, rfl, rfl⟩ rfl rfl (Nat.le_of_ble_eq_true rfl) (by decide) (by decide) (by decide) (L_X0_take (hx.2.1) (hx).2.2.2.1 (it_ok_b h)) (fun _ _ _ _ q => by cases q.1; rfl) ?_
    rintro _ _ S4 ⟨rfl, rfl, h⟩
    show it_Ev g l 3 it_m_X5_spill 0 0 23 [some (.ref 0), some (.int x1)] [] κ S4 (it_pi κ P)
    refine ev_aload_n d_X5_spill_23 rfl ?_
    refine ev_getRr (r := 9) rfl d_X5_spill_24 fl_IcedTooSoon_28 hx.1 rfl ?_
    refine ev_getRr (r := (9 + 6)) rfl d_X5_spill_27 fl_IcedTooSoon_151 ((hx).2.2.2.1).1 rfl ?_
    refine ev_iload_n d_X5_spill_30 rfl ?_
    obtain ⟨hb6, h⟩ := it_ok_g h
    refine ev_iald d_X5_spill_31 ((hx).2.2.2.1).2.2.2.2.2.2.1 (it_bd_in hb6) ?_
    exact ev_ret (v := some (.int _)) ⟨d_X5_spill_32, _, rfl, rfl⟩ (by decide) (by decide) ⟨rfl, _, rfl, it_ok_r h⟩
  · have h := it_ok_t h hc3
    refine ev_sipush d_X5_spill_11 kv_sipush_m6000 ?_
    exact ev_ret (v := some (.int _)) ⟨d_X5_spill_14, _, rfl, rfl⟩ (by decide) (by decide) ⟨rfl, _, rfl, it_ok_r h⟩
theorem d_X5_run_0 : decode prog_1_method_16_code 0 = .ok (.iload_n 2, 1) := by decide +kernel
theorem d_X5_run_1 : decode prog_1_method_16_code 1 = .ok (.invokestatic 176, 3) := by decide +kernel
theorem d_X5_run_4 : decode prog_1_method_16_code 4 = .ok (.istore_n 3, 1) := by decide +kernel
theorem d_X5_run_5 : decode prog_1_method_16_code 5 = .ok (.iload_n 1, 1) := by decide +kernel
theorem d_X5_run_6 : decode prog_1_method_16_code 6 = .ok (.iconst 0, 1) := by decide +kernel
theorem d_X5_run_7 : decode prog_1_method_16_code 7 = .ok (.bipush 40, 2) := by decide +kernel
theorem d_X5_run_9 : decode prog_1_method_16_code 9 = .ok (.invokestatic 96, 3) := by decide +kernel
theorem d_X5_run_12 : decode prog_1_method_16_code 12 = .ok (.ifCond .ne 23, 3) := by decide +kernel
theorem d_X5_run_15 : decode prog_1_method_16_code 15 = .ok (.iload_n 2, 1) := by decide +kernel
theorem d_X5_run_16 : decode prog_1_method_16_code 16 = .ok (.iconst 0, 1) := by decide +kernel
theorem d_X5_run_17 : decode prog_1_method_16_code 17 = .ok (.iconst 1, 1) := by decide +kernel
theorem d_X5_run_18 : decode prog_1_method_16_code 18 = .ok (.invokestatic 96, 3) := by decide +kernel
theorem d_X5_run_21 : decode prog_1_method_16_code 21 = .ok (.ifCond .eq 17, 3) := by decide +kernel
theorem d_X5_run_24 : decode prog_1_method_16_code 24 = .ok (.aload_n 0, 1) := by decide +kernel
theorem d_X5_run_25 : decode prog_1_method_16_code 25 = .ok (.getfield 28, 3) := by decide +kernel
theorem d_X5_run_28 : decode prog_1_method_16_code 28 = .ok (.iload_n 3, 1) := by decide +kernel
theorem d_X5_run_29 : decode prog_1_method_16_code 29 = .ok (.invokevirtual 117, 3) := by decide +kernel
theorem d_X5_run_32 : decode prog_1_method_16_code 32 = .ok (.ifCond .ne 6, 3) := by decide +kernel
theorem d_X5_run_35 : decode prog_1_method_16_code 35 = .ok (.ldc 179, 2) := by decide +kernel
theorem d_X5_run_37 : decode prog_1_method_16_code 37 = .ok (.ireturn, 1) := by decide +kernel
theorem d_X5_run_38 : decode prog_1_method_16_code 38 = .ok (.aload_n 0, 1) := by decide +kernel
theorem d_X5_run_39 : decode prog_1_method_16_code 39 = .ok (.invokevirtual 180, 3) := by decide +kernel
theorem d_X5_run_42 : decode prog_1_method_16_code 42 = .ok (.iconst 0, 1) := by decide +kernel
theorem d_X5_run_43 : decode prog_1_method_16_code 43 = .ok (.istore 4, 2) := by decide +kernel
theorem d_X5_run_45 : decode prog_1_method_16_code 45 = .ok (.iload 4, 2) := by decide +kernel
theorem d_X5_run_47 : decode prog_1_method_16_code 47 = .ok (.iload_n 1, 1) := by decide +kernel
theorem d_X5_run_48 : decode prog_1_method_16_code 48 = .ok (.if_icmp .ge 17, 3) := by decide +kernel
theorem d_X5_run_51 : decode prog_1_method_16_code 51 = .ok (.aload_n 0, 1) := by decide +kernel
theorem d_X5_run_52 : decode prog_1_method_16_code 52 = .ok (.getfield 32, 3) := by decide +kernel
theorem d_X5_run_55 : decode prog_1_method_16_code 55 = .ok (.invokevirtual 166, 3) := by decide +kernel
theorem d_X5_run_58 : decode prog_1_method_16_code 58 = .ok (.pop, 1) := by decide +kernel
theorem d_X5_run_59 : decode prog_1_method_16_code 59 = .ok (.iinc 4 1, 3) := by decide +kernel
theorem d_X5_run_62 : decode prog_1_method_16_code 62 = .ok (.goto (-17), 3) := by decide +kernel
theorem d_X5_run_65 : decode prog_1_method_16_code 65 = .ok (.aload_n 0, 1) := by decide +kernel
theorem d_X5_run_66 : decode prog_1_method_16_code 66 = .ok (.getfield 28, 3) := by decide +kernel
theorem d_X5_run_69 : decode prog_1_method_16_code 69 = .ok (.iload_n 3, 1) := by decide +kernel
theorem d_X5_run_70 : decode prog_1_method_16_code 70 = .ok (.invokevirtual 117, 3) := by decide +kernel
theorem d_X5_run_73 : decode prog_1_method_16_code 73 = .ok (.ifCond .eq 31, 3) := by decide +kernel
theorem d_X5_run_76 : decode prog_1_method_16_code 76 = .ok (.iload_n 2, 1) := by decide +kernel
theorem d_X5_run_77 : decode prog_1_method_16_code 77 = .ok (.bipush 20, 2) := by decide +kernel
theorem d_X5_run_79 : decode prog_1_method_16_code 79 = .ok (.if_icmp .ge 15, 3) := by decide +kernel
theorem d_X5_run_82 : decode prog_1_method_16_code 82 = .ok (.aload_n 0, 1) := by decide +kernel
theorem d_X5_run_83 : decode prog_1_method_16_code 83 = .ok (.getfield 32, 3) := by decide +kernel
theorem d_X5_run_86 : decode prog_1_method_16_code 86 = .ok (.getfield 124, 3) := by decide +kernel
theorem d_X5_run_89 : decode prog_1_method_16_code 89 = .ok (.iload_n 3, 1) := by decide +kernel
theorem d_X5_run_90 : decode prog_1_method_16_code 90 = .ok (.iaload, 1) := by decide +kernel
theorem d_X5_run_91 : decode prog_1_method_16_code 91 = .ok (.goto 12, 3) := by decide +kernel
theorem d_X5_run_94 : decode prog_1_method_16_code 94 = .ok (.aload_n 0, 1) := by decide +kernel
theorem d_X5_run_95 : decode prog_1_method_16_code 95 = .ok (.getfield 32, 3) := by decide +kernel
theorem d_X5_run_98 : decode prog_1_method_16_code 98 = .ok (.getfield 128, 3) := by decide +kernel
theorem d_X5_run_101 : decode prog_1_method_16_code 101 = .ok (.iload_n 3, 1) := by decide +kernel
theorem d_X5_run_102 : decode prog_1_method_16_code 102 = .ok (.iaload, 1) := by decide +kernel
theorem d_X5_run_103 : decode prog_1_method_16_code 103 = .ok (.ireturn, 1) := by decide +kernel
theorem d_X5_run_104 : decode prog_1_method_16_code 104 = .ok (.iload_n 2, 1) := by decide +kernel
theorem d_X5_run_105 : decode prog_1_method_16_code 105 = .ok (.ifCond .ne 13, 3) := by decide +kernel
theorem d_X5_run_108 : decode prog_1_method_16_code 108 = .ok (.aload_n 0, 1) := by decide +kernel
theorem d_X5_run_109 : decode prog_1_method_16_code 109 = .ok (.getfield 32, 3) := by decide +kernel
theorem d_X5_run_112 : decode prog_1_method_16_code 112 = .ok (.invokevirtual 83, 3) := by decide +kernel
theorem d_X5_run_115 : decode prog_1_method_16_code 115 = .ok (.goto 10, 3) := by decide +kernel
theorem d_X5_run_118 : decode prog_1_method_16_code 118 = .ok (.aload_n 0, 1) := by decide +kernel
theorem d_X5_run_119 : decode prog_1_method_16_code 119 = .ok (.getfield 32, 3) := by decide +kernel
theorem d_X5_run_122 : decode prog_1_method_16_code 122 = .ok (.invokevirtual 183, 3) := by decide +kernel
theorem d_X5_run_125 : decode prog_1_method_16_code 125 = .ok (.ireturn, 1) := by decide +kernel
def lp_X5_run_45 (κ : it_KK) (x1 : Int32) (x2 : Int32) (k45 : (Int32 → it_SS → Option (Int32 × it_SS))) : Nat → Int32 → Int32 → it_SS → Option (Int32 × it_SS)
  | 0, _, _, _ => none
  | n45 + 1, v3, v4, S => if x1 ≤ v4 then
k45 v3 S
else
it_bi (f_X0_passDay κ 17 S) (fun r13 S12 =>
lp_X5_run_45 κ x1 x2 k45 n45 v3 (v4 + 1) S12)
def f_X5_run (κ : it_KK) (x1 : Int32) (x2 : Int32) (S : it_SS) : Option (Int32 × it_SS) :=
it_bi (f_X5_oneOf κ x2 S) (fun r2 S1 =>
it_bi (f_X5_isOutside κ x1 0 40 S1) (fun r4 S3 =>
if r4 = 0 then
it_bi (f_X5_isOutside κ x2 0 1 S3) (fun r7 S6 =>
if r7 = 0 then
it_bi (f_X5_think κ  S6) (fun _ S9 =>
lp_X5_run_45 κ x1 x2 (fun v14 S15 =>
it_bi (f_X0_hasGuest κ 9 v14 S15) (fun r17 S16 =>
if r17 = 0 then
if x2 = 0 then
it_bi (f_X0_glassesThere κ 17 S16) (fun r23 S22 =>
some (r23, S22))
else
it_bi (f_X0_moodOfAll κ 17 S16) (fun r21 S20 =>
some (r21, S20))
else
if 20 ≤ x2 then
if it_bd v14 6 = true then
some ((S16 (17 + 4) (v14 : Int32).toNatClampNeg), S16)
else none
else
if it_bd v14 6 = true then
some ((S16 (17 + 3) (v14 : Int32).toNatClampNeg), S16)
else none)) it_FU r2 0 S9)
else
it_bi (f_X0_hasGuest κ 9 r2 S6) (fun r28 S27 =>
if r28 = 0 then
some ((-100000), S27)
else
it_bi (f_X5_think κ  S27) (fun _ S30 =>
lp_X5_run_45 κ x1 x2 (fun v32 S33 =>
it_bi (f_X0_hasGuest κ 9 v32 S33) (fun r35 S34 =>
if r35 = 0 then
if x2 = 0 then
it_bi (f_X0_glassesThere κ 17 S34) (fun r41 S40 =>
some (r41, S40))
else
it_bi (f_X0_moodOfAll κ 17 S34) (fun r39 S38 =>
some (r39, S38))
else
if 20 ≤ x2 then
if it_bd v32 6 = true then
some ((S34 (17 + 4) (v32 : Int32).toNatClampNeg), S34)
else none
else
if it_bd v32 6 = true then
some ((S34 (17 + 3) (v32 : Int32).toNatClampNeg), S34)
else none)) it_FU r2 0 S30)))
else
some ((-100000), S3)))
set_option maxHeartbeats 4000000 in
set_option maxRecDepth 100000 in
theorem Llp_X5_run_45 {g : it_G} {l : Launch} {κ : it_KK} {x1 : Int32} {x2 : Int32} (hx : it_wx κ) {P : Int32 → it_SS → Prop} {k45 : (Int32 → it_SS → Option (Int32 × it_SS))} (hk45 : ∀ (v3 : Int32) (S : it_SS), it_ok (k45 v3 S) P → it_Ev g l 6 it_m_X5_run 0 0 65 [some (.ref 0), none, some (.int x2), some (.int v3), none] [] κ S (it_pi κ P)) : ∀ (n : Nat) (v3 : Int32) (v4 : Int32) (S : it_SS), it_ok (lp_X5_run_45 κ x1 x2 k45 n v3 v4 S) P → it_Ev g l 6 it_m_X5_run 0 0 45 [some (.ref 0), some (.int x1), some (.int x2), some (.int v3), some (.int v4)] [] κ S (it_pi κ P) := by
  intro n
  induction n with
  | zero =>
    intro _ _ _ h
    exact (it_ok_n h).elim
  | succ n45 ih45 =>
    intro v3 v4 S h
    rw [lp_X5_run_45] at h
    refine ev_iload d_X5_run_45 rfl ?_
    refine ev_iload_n d_X5_run_47 rfl ?_
    refine ev_icmp_ge (tgt := 65) d_X5_run_48 (by decide) (fun hc11 => ?_) (fun hc11 => ?_)
    · have h := it_ok_t h hc11
      refine ev_keep [true, false, true, true, false] ?_
      exact hk45 _ _ h
    · have h := it_ok_f h hc11
      refine ev_aload_n d_X5_run_51 rfl ?_
      refine ev_getRr (r := 17) rfl d_X5_run_52 fl_IcedTooSoon_32 hx.1 rfl ?_
      refine ev_callV (ci := 0) (b := 17) (M' := it_m_X0_passDay) (d' := 5) (As := []) d_X5_run_55 ml_IcedTooSoon_166 ((hx).2.2.2.2.1).1.1 ((hx).2.2.2.2.1).1.2.1 ⟨_, rfl, rfl⟩ rfl rfl (Nat.le_of_ble_eq_true rfl) (by decide) (by decide) (by decide) (L_X0_passDay (hx.2.1) (hx).2.2.2.2.1 (it_ok_b h)) (fun _ _ _ _ q => by cases q.1; rfl) ?_
      rintro _ _ S12 ⟨rfl, r13, rfl, h⟩
      show it_Ev g l 6 it_m_X5_run 0 0 58 [some (.ref 0), some (.int x1), some (.int x2), some (.int v3), some (.int v4)] [.int r13] κ S12 (it_pi κ P)
      refine ev_pop d_X5_run_58 rfl ?_
      refine ev_iinc d_X5_run_59 kv_iconst_1 rfl (by decide) ?_
      show it_Ev g l 6 it_m_X5_run 0 0 62 [some (.ref 0), some (.int x1), some (.int x2), some (.int v3), some (.int (v4 + 1))] [] κ S12 (it_pi κ P)
      refine ev_goto (tgt := 45) d_X5_run_62 (by decide) ?_
      refine ev_keep [true, true, true, true, true] ?_
      exact ih45 _ _ _ h
set_option maxHeartbeats 4000000 in
set_option maxRecDepth 100000 in
theorem L_X5_run {g : it_G} {l : Launch} {κ : it_KK} {x1 : Int32} {x2 : Int32} (hx : it_wx κ) {S : it_SS} {P : Int32 → it_SS → Prop} (h : it_ok (f_X5_run κ x1 x2 S) P) : it_Cn g l 6 it_m_X5_run [.ref 0, .int x1, .int x2] κ S (it_pi κ P) := by
  refine it_Cn.of (by decide +kernel) (Nat.le_of_ble_eq_true rfl) ?_
  rw [f_X5_run] at h
  show it_Ev g l 6 it_m_X5_run 0 0 0 [some (.ref 0), some (.int x1), some (.int x2), none, none] [] κ S (it_pi κ P)
  refine ev_iload_n d_X5_run_0 rfl ?_
  refine ev_callS (M' := it_m_X5_oneOf) (d' := 2) (As := [.int x2]) d_X5_run_1 ml_IcedTooSoon_176 rfl rfl (Nat.le_of_ble_eq_true rfl) (by decide) (by decide) (by decide) (L_X5_oneOf  (it_ok_b h)) (fun _ _ _ _ q => by cases q.1; rfl) ?_
  rintro _ _ S1 ⟨rfl, r2, rfl, h⟩
  show it_Ev g l 6 it_m_X5_run 0 0 4 [some (.ref 0), some (.int x1), some (.int x2), none, none] [.int r2] κ S1 (it_pi κ P)
  refine ev_istore_n d_X5_run_4 (by decide) ?_
  show it_Ev g l 6 it_m_X5_run 0 0 5 [some (.ref 0), some (.int x1), some (.int x2), some (.int r2), none] [] κ S1 (it_pi κ P)
  refine ev_iload_n d_X5_run_5 rfl ?_
  refine ev_iconst d_X5_run_6 kv_iconst_0 ?_
  refine ev_bipush d_X5_run_7 kv_bipush_40 ?_
  refine ev_callS (M' := it_m_X5_isOutside) (d' := 1) (As := [.int x1, .int 0, .int 40]) d_X5_run_9 ml_IcedTooSoon_96 rfl rfl (Nat.le_of_ble_eq_true rfl) (by decide) (by decide) (by decide) (L_X5_isOutside  (it_ok_b h)) (fun _ _ _ _ q => by cases q.1; rfl) ?_
  rintro _ _ S3 ⟨rfl, r4, rfl, h⟩
  show it_Ev g l 6 it_m_X5_run 0 0 12 [some (.ref 0), some (.int x1), some (.int x2), some (.int r2), none] [.int r4] κ S3 (it_pi κ P)
  refine ev_if_ne (tgt := 35) d_X5_run_12 (by decide) (fun hc5 => ?_) (fun hc5 => ?_)
  · have h := it_ok_f h hc5
    refine ev_ldc d_X5_run_35 kn_IcedTooSoon_179 ?_
    exact ev_ret (v := some (.int _)) ⟨d_X5_run_37, _, rfl, rfl⟩ (by decide) (by decide) ⟨rfl, _, rfl, it_ok_r h⟩
  · have h := it_ok_t h hc5
    refine ev_iload_n d_X5_run_15 rfl ?_
    refine ev_iconst d_X5_run_16 kv_iconst_0 ?_
    refine ev_iconst d_X5_run_17 kv_iconst_1 ?_
    refine ev_callS (M' := it_m_X5_isOutside) (d' := 1) (As := [.int x2, .int 0, .int 1]) d_X5_run_18 ml_IcedTooSoon_96 rfl rfl (Nat.le_of_ble_eq_true rfl) (by decide) (by decide) (by decide) (L_X5_isOutside  (it_ok_b h)) (fun _ _ _ _ q => by cases q.1; rfl) ?_
    rintro _ _ S6 ⟨rfl, r7, rfl, h⟩
    show it_Ev g l 6 it_m_X5_run 0 0 21 [some (.ref 0), some (.int x1), some (.int x2), some (.int r2), none] [.int r7] κ S6 (it_pi κ P)
    refine ev_if_eq (tgt := 38) d_X5_run_21 (by decide) (fun hc8 => ?_) (fun hc8 => ?_)
    · have h := it_ok_t h hc8
      refine ev_aload_n d_X5_run_38 rfl ?_
      refine ev_callV (ci := 5) (b := 0) (M' := it_m_X5_think) (d' := 3) (As := []) d_X5_run_39 ml_IcedTooSoon_180 hx.1.1 hx.1.2.1 ⟨_, rfl, rfl⟩ rfl rfl (Nat.le_of_ble_eq_true rfl) (by decide) (by decide) (by decide) (L_X5_think hx (it_ok_b h)) (fun _ _ _ _ q => by cases q.1; rfl) ?_
      rintro _ _ S9 ⟨rfl, rfl, h⟩
      show it_Ev g l 6 it_m_X5_run 0 0 42 [some (.ref 0), some (.int x1), some (.int x2), some (.int r2), none] [] κ S9 (it_pi κ P)
      refine ev_iconst d_X5_run_42 kv_iconst_0 ?_
      refine ev_istore d_X5_run_43 (by decide) ?_
      show it_Ev g l 6 it_m_X5_run 0 0 45 [some (.ref 0), some (.int x1), some (.int x2), some (.int r2), some (.int 0)] [] κ S9 (it_pi κ P)
      refine ev_keep [true, true, true, true, true] ?_
      refine Llp_X5_run_45 hx (fun v14 S15 h => ?_) _ _ _ _ h
      show it_Ev g l 6 it_m_X5_run 0 0 65 [some (.ref 0), none, some (.int x2), some (.int v14), none] [] κ S15 (it_pi κ P)
      refine ev_aload_n d_X5_run_65 rfl ?_
      refine ev_getRr (r := 9) rfl d_X5_run_66 fl_IcedTooSoon_28 hx.1 rfl ?_
      refine ev_iload_n d_X5_run_69 rfl ?_
      refine ev_callV (ci := 0) (b := 9) (M' := it_m_X0_hasGuest) (d' := 1) (As := [.int v14]) d_X5_run_70 ml_IcedTooSoon_117 ((hx).2.2.2.1).1.1 ((hx).2.2.2.1).1.2.1 ⟨_, rfl, rfl⟩ rfl rfl (Nat.le_of_ble_eq_true rfl) (by decide) (by decide) (by decide) (L_X0_hasGuest (hx.2.1) (hx).2.2.2.1 (it_ok_b h)) (fun _ _ _ _ q => by cases q.1; rfl) ?_
      rintro _ _ S16 ⟨rfl, r17, rfl, h⟩
      show it_Ev g l 6 it_m_X5_run 0 0 73 [some (.ref 0), none, some (.int x2), some (.int v14), none] [.int r17] κ S16 (it_pi κ P)
      refine ev_if_eq (tgt := 104) d_X5_run_73 (by decide) (fun hc18 => ?_) (fun hc18 => ?_)
      · have h := it_ok_t h hc18
        refine ev_iload_n d_X5_run_104 rfl ?_
        refine ev_if_ne (tgt := 118) d_X5_run_105 (by decide) (fun hc19 => ?_) (fun hc19 => ?_)
        · have h := it_ok_f h hc19
          refine ev_aload_n d_X5_run_118 rfl ?_
          refine ev_getRr (r := 17) rfl d_X5_run_119 fl_IcedTooSoon_32 hx.1 rfl ?_
          refine ev_callV (ci := 0) (b := 17) (M' := it_m_X0_moodOfAll) (d' := 1) (As := []) d_X5_run_122 ml_IcedTooSoon_183 ((hx).2.2.2.2.1).1.1 ((hx).2.2.2.2.1).1.2.1 ⟨_, rfl, rfl⟩ rfl rfl (Nat.le_of_ble_eq_true rfl) (by decide) (by decide) (by decide) (L_X0_moodOfAll (hx.2.1) (hx).2.2.2.2.1 (it_ok_b h)) (fun _ _ _ _ q => by cases q.1; rfl) ?_
          rintro _ _ S20 ⟨rfl, r21, rfl, h⟩
          show it_Ev g l 6 it_m_X5_run 0 0 125 [some (.ref 0), none, some (.int x2), some (.int v14), none] [.int r21] κ S20 (it_pi κ P)
          exact ev_ret (v := some (.int _)) ⟨d_X5_run_125, _, rfl, rfl⟩ (by decide) (by decide) ⟨rfl, _, rfl, it_ok_r h⟩
        · have h := it_ok_t h hc19
          refine ev_aload_n d_X5_run_108 rfl ?_
          refine ev_getRr (r := 17) rfl d_X5_run_109 fl_IcedTooSoon_32 hx.1 rfl ?_
          refine ev_callV (ci := 0) (b := 17) (M' := it_m_X0_glassesThere) (d' := 3) (As := []) d_X5_run_112 ml_IcedTooSoon_83 ((hx).2.2.2.2.1).1.1 ((hx).2.2.2.2.1).1.2.1 ⟨_, rfl, rfl⟩ rfl rfl (Nat.le_of_ble_eq_true rfl) (by decide) (by decide) (by decide) (L_X0_glassesThere (hx.2.1) (hx).2.2.2.2.1 (it_ok_b h)) (fun _ _ _ _ q => by cases q.1; rfl) ?_
          rintro _ _ S22 ⟨rfl, r23, rfl, h⟩
          show it_Ev g l 6 it_m_X5_run 0 0 115 [some (.ref 0), none, some (.int x2), some (.int v14), none] [.int r23] κ S22 (it_pi κ P)
          refine ev_goto (tgt := 125) d_X5_run_115 (by decide) ?_
          exact ev_ret (v := some (.int _)) ⟨d_X5_run_125, _, rfl, rfl⟩ (by decide) (by decide) ⟨rfl, _, rfl, it_ok_r h⟩
      · have h := it_ok_f h hc18
        refine ev_iload_n d_X5_run_76 rfl ?_
        refine ev_bipush d_X5_run_77 kv_bipush_20 ?_
        refine ev_icmp_ge (tgt := 94) d_X5_run_79 (by decide) (fun hc24 => ?_) (fun hc24 => ?_)
        · have h := it_ok_t h hc24
          refine ev_aload_n d_X5_run_94 rfl ?_
          refine ev_getRr (r := 17) rfl d_X5_run_95 fl_IcedTooSoon_32 hx.1 rfl ?_
          refine ev_getRr (r := (17 + 4)) rfl d_X5_run_98 fl_IcedTooSoon_128 ((hx).2.2.2.2.1).1 rfl ?_
          refine ev_iload_n d_X5_run_101 rfl ?_
          obtain ⟨hb25, h⟩ := it_ok_g h
          refine ev_iald d_X5_run_102 ((hx).2.2.2.2.1).2.2.2.2.1 (it_bd_in hb25) ?_
          exact ev_ret (v := some (.int _)) ⟨d_X5_run_103, _, rfl, rfl⟩ (by decide) (by decide) ⟨rfl, _, rfl, it_ok_r h⟩
        · have h := it_ok_f h hc24
          refine ev_aload_n d_X5_run_82 rfl ?_
          refine ev_getRr (r := 17) rfl d_X5_run_83 fl_IcedTooSoon_32 hx.1 rfl ?_
          refine ev_getRr (r := (17 + 3)) rfl d_X5_run_86 fl_IcedTooSoon_124 ((hx).2.2.2.2.1).1 rfl ?_
          refine ev_iload_n d_X5_run_89 rfl ?_
          obtain ⟨hb26, h⟩ := it_ok_g h
          refine ev_iald d_X5_run_90 ((hx).2.2.2.2.1).2.2.2.1 (it_bd_in hb26) ?_
          refine ev_goto (tgt := 103) d_X5_run_91 (by decide) ?_
          exact ev_ret (v := some (.int _)) ⟨d_X5_run_103, _, rfl, rfl⟩ (by decide) (by decide) ⟨rfl, _, rfl, it_ok_r h⟩
    · have h := it_ok_f h hc8
      refine ev_aload_n d_X5_run_24 rfl ?_
      refine ev_getRr (r := 9) rfl d_X5_run_25 fl_IcedTooSoon_28 hx.1 rfl ?_
      refine ev_iload_n d_X5_run_28 rfl ?_
      refine ev_callV (ci := 0) (b := 9) (M' := it_m_X0_hasGuest) (d' := 1) (As := [.int r2]) d_X5_run_29 ml_IcedTooSoon_117 ((hx).2.2.2.1).1.1 ((hx).2.2.2.1).1.2.1 ⟨_, rfl, rfl⟩ rfl rfl (Nat.le_of_ble_eq_true rfl) (by decide) (by decide) (by decide) (L_X0_hasGuest (hx.2.1) (hx).2.2.2.1 (it_ok_b h)) (fun _ _ _ _ q => by cases q.1; rfl) ?_
      rintro _ _ S27 ⟨rfl, r28, rfl, h⟩
      show it_Ev g l 6 it_m_X5_run 0 0 32 [some (.ref 0), some (.int x1), some (.int x2), some (.int r2), none] [.int r28] κ S27 (it_pi κ P)
      refine ev_if_ne (tgt := 38) d_X5_run_32 (by decide) (fun hc29 => ?_) (fun hc29 => ?_)
      · have h := it_ok_f h hc29
        refine ev_aload_n d_X5_run_38 rfl ?_
        refine ev_callV (ci := 5) (b := 0) (M' := it_m_X5_think) (d' := 3) (As := []) d_X5_run_39 ml_IcedTooSoon_180 hx.1.1 hx.1.2.1 ⟨_, rfl, rfl⟩ rfl rfl (Nat.le_of_ble_eq_true rfl) (by decide) (by decide) (by decide) (L_X5_think hx (it_ok_b h)) (fun _ _ _ _ q => by cases q.1; rfl) ?_
        rintro _ _ S30 ⟨rfl, rfl, h⟩
        show it_Ev g l 6 it_m_X5_run 0 0 42 [some (.ref 0), some (.int x1), some (.int x2), some (.int r2), none] [] κ S30 (it_pi κ P)
        refine ev_iconst d_X5_run_42 kv_iconst_0 ?_
        refine ev_istore d_X5_run_43 (by decide) ?_
        show it_Ev g l 6 it_m_X5_run 0 0 45 [some (.ref 0), some (.int x1), some (.int x2), some (.int r2), some (.int 0)] [] κ S30 (it_pi κ P)
        refine ev_keep [true, true, true, true, true] ?_
        refine Llp_X5_run_45 hx (fun v32 S33 h => ?_) _ _ _ _ h
        show it_Ev g l 6 it_m_X5_run 0 0 65 [some (.ref 0), none, some (.int x2), some (.int v32), none] [] κ S33 (it_pi κ P)
        refine ev_aload_n d_X5_run_65 rfl ?_
        refine ev_getRr (r := 9) rfl d_X5_run_66 fl_IcedTooSoon_28 hx.1 rfl ?_
        refine ev_iload_n d_X5_run_69 rfl ?_
        refine ev_callV (ci := 0) (b := 9) (M' := it_m_X0_hasGuest) (d' := 1) (As := [.int v32]) d_X5_run_70 ml_IcedTooSoon_117 ((hx).2.2.2.1).1.1 ((hx).2.2.2.1).1.2.1 ⟨_, rfl, rfl⟩ rfl rfl (Nat.le_of_ble_eq_true rfl) (by decide) (by decide) (by decide) (L_X0_hasGuest (hx.2.1) (hx).2.2.2.1 (it_ok_b h)) (fun _ _ _ _ q => by cases q.1; rfl) ?_
        rintro _ _ S34 ⟨rfl, r35, rfl, h⟩
        show it_Ev g l 6 it_m_X5_run 0 0 73 [some (.ref 0), none, some (.int x2), some (.int v32), none] [.int r35] κ S34 (it_pi κ P)
        refine ev_if_eq (tgt := 104) d_X5_run_73 (by decide) (fun hc36 => ?_) (fun hc36 => ?_)
        · have h := it_ok_t h hc36
          refine ev_iload_n d_X5_run_104 rfl ?_
          refine ev_if_ne (tgt := 118) d_X5_run_105 (by decide) (fun hc37 => ?_) (fun hc37 => ?_)
          · have h := it_ok_f h hc37
            refine ev_aload_n d_X5_run_118 rfl ?_
            refine ev_getRr (r := 17) rfl d_X5_run_119 fl_IcedTooSoon_32 hx.1 rfl ?_
            refine ev_callV (ci := 0) (b := 17) (M' := it_m_X0_moodOfAll) (d' := 1) (As := []) d_X5_run_122 ml_IcedTooSoon_183 ((hx).2.2.2.2.1).1.1 ((hx).2.2.2.2.1).1.2.1 ⟨_, rfl, rfl⟩ rfl rfl (Nat.le_of_ble_eq_true rfl) (by decide) (by decide) (by decide) (L_X0_moodOfAll (hx.2.1) (hx).2.2.2.2.1 (it_ok_b h)) (fun _ _ _ _ q => by cases q.1; rfl) ?_
            rintro _ _ S38 ⟨rfl, r39, rfl, h⟩
            show it_Ev g l 6 it_m_X5_run 0 0 125 [some (.ref 0), none, some (.int x2), some (.int v32), none] [.int r39] κ S38 (it_pi κ P)
            exact ev_ret (v := some (.int _)) ⟨d_X5_run_125, _, rfl, rfl⟩ (by decide) (by decide) ⟨rfl, _, rfl, it_ok_r h⟩
          · have h := it_ok_t h hc37
            refine ev_aload_n d_X5_run_108 rfl ?_
            refine ev_getRr (r := 17) rfl d_X5_run_109 fl_IcedTooSoon_32 hx.1 rfl ?_
            refine ev_callV (ci := 0) (b := 17) (M' := it_m_X0_glassesThere) (d' := 3) (As := []) d_X5_run_112 ml_IcedTooSoon_83 ((hx).2.2.2.2.1).1.1 ((hx).2.2.2.2.1).1.2.1 ⟨_, rfl, rfl⟩ rfl rfl (Nat.le_of_ble_eq_true rfl) (by decide) (by decide) (by decide) (L_X0_glassesThere (hx.2.1) (hx).2.2.2.2.1 (it_ok_b h)) (fun _ _ _ _ q => by cases q.1; rfl) ?_
            rintro _ _ S40 ⟨rfl, r41, rfl, h⟩
            show it_Ev g l 6 it_m_X5_run 0 0 115 [some (.ref 0), none, some (.int x2), some (.int v32), none] [.int r41] κ S40 (it_pi κ P)
            refine ev_goto (tgt := 125) d_X5_run_115 (by decide) ?_
            exact ev_ret (v := some (.int _)) ⟨d_X5_run_125, _, rfl, rfl⟩ (by decide) (by decide) ⟨rfl, _, rfl, it_ok_r h⟩
        · have h := it_ok_f h hc36
          refine ev_iload_n d_X5_run_76 rfl ?_
          refine ev_bipush d_X5_run_77 kv_bipush_20 ?_
          refine ev_icmp_ge (tgt := 94) d_X5_run_79 (by decide) (fun hc42 => ?_) (fun hc42 => ?_)
          · have h := it_ok_t h hc42
            refine ev_aload_n d_X5_run_94 rfl ?_
            refine ev_getRr (r := 17) rfl d_X5_run_95 fl_IcedTooSoon_32 hx.1 rfl ?_
            refine ev_getRr (r := (17 + 4)) rfl d_X5_run_98 fl_IcedTooSoon_128 ((hx).2.2.2.2.1).1 rfl ?_
            refine ev_iload_n d_X5_run_101 rfl ?_
            obtain ⟨hb43, h⟩ := it_ok_g h
            refine ev_iald d_X5_run_102 ((hx).2.2.2.2.1).2.2.2.2.1 (it_bd_in hb43) ?_
            exact ev_ret (v := some (.int _)) ⟨d_X5_run_103, _, rfl, rfl⟩ (by decide) (by decide) ⟨rfl, _, rfl, it_ok_r h⟩
          · have h := it_ok_f h hc42
            refine ev_aload_n d_X5_run_82 rfl ?_
            refine ev_getRr (r := 17) rfl d_X5_run_83 fl_IcedTooSoon_32 hx.1 rfl ?_
            refine ev_getRr (r := (17 + 3)) rfl d_X5_run_86 fl_IcedTooSoon_124 ((hx).2.2.2.2.1).1 rfl ?_
            refine ev_iload_n d_X5_run_89 rfl ?_
            obtain ⟨hb44, h⟩ := it_ok_g h
            refine ev_iald d_X5_run_90 ((hx).2.2.2.2.1).2.2.2.1 (it_bd_in hb44) ?_
            refine ev_goto (tgt := 103) d_X5_run_91 (by decide) ?_
            exact ev_ret (v := some (.int _)) ⟨d_X5_run_103, _, rfl, rfl⟩ (by decide) (by decide) ⟨rfl, _, rfl, it_ok_r h⟩
      · have h := it_ok_t h hc29
        refine ev_ldc d_X5_run_35 kn_IcedTooSoon_179 ?_
        exact ev_ret (v := some (.int _)) ⟨d_X5_run_37, _, rfl, rfl⟩ (by decide) (by decide) ⟨rfl, _, rfl, it_ok_r h⟩
theorem d_X5_goesOff_0 : decode prog_1_method_17_code 0 = .ok (.aload_n 0, 1) := by decide +kernel
theorem d_X5_goesOff_1 : decode prog_1_method_17_code 1 = .ok (.getfield 28, 3) := by decide +kernel
theorem d_X5_goesOff_4 : decode prog_1_method_17_code 4 = .ok (.iload_n 1, 1) := by decide +kernel
theorem d_X5_goesOff_5 : decode prog_1_method_17_code 5 = .ok (.invokevirtual 107, 3) := by decide +kernel
theorem d_X5_goesOff_8 : decode prog_1_method_17_code 8 = .ok (.ifCond .ne 6, 3) := by decide +kernel
theorem d_X5_goesOff_11 : decode prog_1_method_17_code 11 = .ok (.bipush (-6), 2) := by decide +kernel
theorem d_X5_goesOff_13 : decode prog_1_method_17_code 13 = .ok (.ireturn, 1) := by decide +kernel
theorem d_X5_goesOff_14 : decode prog_1_method_17_code 14 = .ok (.aload_n 0, 1) := by decide +kernel
theorem d_X5_goesOff_15 : decode prog_1_method_17_code 15 = .ok (.invokevirtual 180, 3) := by decide +kernel
theorem d_X5_goesOff_18 : decode prog_1_method_17_code 18 = .ok (.iconst 1, 1) := by decide +kernel
theorem d_X5_goesOff_19 : decode prog_1_method_17_code 19 = .ok (.istore_n 2, 1) := by decide +kernel
theorem d_X5_goesOff_20 : decode prog_1_method_17_code 20 = .ok (.iload_n 2, 1) := by decide +kernel
theorem d_X5_goesOff_21 : decode prog_1_method_17_code 21 = .ok (.bipush 60, 2) := by decide +kernel
theorem d_X5_goesOff_23 : decode prog_1_method_17_code 23 = .ok (.if_icmp .gt 30, 3) := by decide +kernel
theorem d_X5_goesOff_26 : decode prog_1_method_17_code 26 = .ok (.aload_n 0, 1) := by decide +kernel
theorem d_X5_goesOff_27 : decode prog_1_method_17_code 27 = .ok (.getfield 32, 3) := by decide +kernel
theorem d_X5_goesOff_30 : decode prog_1_method_17_code 30 = .ok (.invokevirtual 166, 3) := by decide +kernel
theorem d_X5_goesOff_33 : decode prog_1_method_17_code 33 = .ok (.pop, 1) := by decide +kernel
theorem d_X5_goesOff_34 : decode prog_1_method_17_code 34 = .ok (.aload_n 0, 1) := by decide +kernel
theorem d_X5_goesOff_35 : decode prog_1_method_17_code 35 = .ok (.getfield 32, 3) := by decide +kernel
theorem d_X5_goesOff_38 : decode prog_1_method_17_code 38 = .ok (.iload_n 1, 1) := by decide +kernel
theorem d_X5_goesOff_39 : decode prog_1_method_17_code 39 = .ok (.invokevirtual 107, 3) := by decide +kernel
theorem d_X5_goesOff_42 : decode prog_1_method_17_code 42 = .ok (.ifCond .ne 5, 3) := by decide +kernel
theorem d_X5_goesOff_45 : decode prog_1_method_17_code 45 = .ok (.iload_n 2, 1) := by decide +kernel
theorem d_X5_goesOff_46 : decode prog_1_method_17_code 46 = .ok (.ireturn, 1) := by decide +kernel
theorem d_X5_goesOff_47 : decode prog_1_method_17_code 47 = .ok (.iinc 2 1, 3) := by decide +kernel
theorem d_X5_goesOff_50 : decode prog_1_method_17_code 50 = .ok (.goto (-30), 3) := by decide +kernel
theorem d_X5_goesOff_53 : decode prog_1_method_17_code 53 = .ok (.iconst (-1), 1) := by decide +kernel
theorem d_X5_goesOff_54 : decode prog_1_method_17_code 54 = .ok (.ireturn, 1) := by decide +kernel
def lp_X5_goesOff_20 (κ : it_KK) (x1 : Int32) (k20 : (it_SS → Option (Int32 × it_SS))) : Nat → Int32 → it_SS → Option (Int32 × it_SS)
  | 0, _, _ => none
  | n20 + 1, v2, S => if 60 < v2 then
k20  S
else
it_bi (f_X0_passDay κ 17 S) (fun r8 S7 =>
it_bi (f_X0_hasGlass κ 17 x1 S7) (fun r10 S9 =>
if r10 = 0 then
some (v2, S9)
else
lp_X5_goesOff_20 κ x1 k20 n20 (v2 + 1) S9))
def f_X5_goesOff (κ : it_KK) (x1 : Int32) (S : it_SS) : Option (Int32 × it_SS) :=
it_bi (f_X0_hasGlass κ 9 x1 S) (fun r2 S1 =>
if r2 = 0 then
some ((-6), S1)
else
it_bi (f_X5_think κ  S1) (fun _ S4 =>
lp_X5_goesOff_20 κ x1 (fun  S12 =>
some ((-1), S12)) it_FU 1 S4))
set_option maxHeartbeats 4000000 in
set_option maxRecDepth 100000 in
theorem Llp_X5_goesOff_20 {g : it_G} {l : Launch} {κ : it_KK} {x1 : Int32} (hx : it_wx κ) {P : Int32 → it_SS → Prop} {k20 : (it_SS → Option (Int32 × it_SS))} (hk20 : ∀  (S : it_SS), it_ok (k20  S) P → it_Ev g l 6 it_m_X5_goesOff 0 0 53 [none, none, none] [] κ S (it_pi κ P)) : ∀ (n : Nat) (v2 : Int32) (S : it_SS), it_ok (lp_X5_goesOff_20 κ x1 k20 n v2 S) P → it_Ev g l 6 it_m_X5_goesOff 0 0 20 [some (.ref 0), some (.int x1), some (.int v2)] [] κ S (it_pi κ P) := by
  intro n
  induction n with
  | zero =>
    intro _ _ h
    exact (it_ok_n h).elim
  | succ n20 ih20 =>
    intro v2 S h
    rw [lp_X5_goesOff_20] at h
    refine ev_iload_n d_X5_goesOff_20 rfl ?_
    refine ev_bipush d_X5_goesOff_21 kv_bipush_60 ?_
    refine ev_icmp_gt (tgt := 53) d_X5_goesOff_23 (by decide) (fun hc6 => ?_) (fun hc6 => ?_)
    · have h := it_ok_t h hc6
      refine ev_keep [false, false, false] ?_
      exact hk20  _ h
    · have h := it_ok_f h hc6
      refine ev_aload_n d_X5_goesOff_26 rfl ?_
      refine ev_getRr (r := 17) rfl d_X5_goesOff_27 fl_IcedTooSoon_32 hx.1 rfl ?_
      refine ev_callV (ci := 0) (b := 17) (M' := it_m_X0_passDay) (d' := 5) (As := []) d_X5_goesOff_30 ml_IcedTooSoon_166 ((hx).2.2.2.2.1).1.1 ((hx).2.2.2.2.1).1.2.1 ⟨_, rfl, rfl⟩ rfl rfl (Nat.le_of_ble_eq_true rfl) (by decide) (by decide) (by decide) (L_X0_passDay (hx.2.1) (hx).2.2.2.2.1 (it_ok_b h)) (fun _ _ _ _ q => by cases q.1; rfl) ?_
      rintro _ _ S7 ⟨rfl, r8, rfl, h⟩
      show it_Ev g l 6 it_m_X5_goesOff 0 0 33 [some (.ref 0), some (.int x1), some (.int v2)] [.int r8] κ S7 (it_pi κ P)
      refine ev_pop d_X5_goesOff_33 rfl ?_
      refine ev_aload_n d_X5_goesOff_34 rfl ?_
      refine ev_getRr (r := 17) rfl d_X5_goesOff_35 fl_IcedTooSoon_32 hx.1 rfl ?_
      refine ev_iload_n d_X5_goesOff_38 rfl ?_
      refine ev_callV (ci := 0) (b := 17) (M' := it_m_X0_hasGlass) (d' := 2) (As := [.int x1]) d_X5_goesOff_39 ml_IcedTooSoon_107 ((hx).2.2.2.2.1).1.1 ((hx).2.2.2.2.1).1.2.1 ⟨_, rfl, rfl⟩ rfl rfl (Nat.le_of_ble_eq_true rfl) (by decide) (by decide) (by decide) (L_X0_hasGlass (hx.2.1) (hx).2.2.2.2.1 (it_ok_b h)) (fun _ _ _ _ q => by cases q.1; rfl) ?_
      rintro _ _ S9 ⟨rfl, r10, rfl, h⟩
      show it_Ev g l 6 it_m_X5_goesOff 0 0 42 [some (.ref 0), some (.int x1), some (.int v2)] [.int r10] κ S9 (it_pi κ P)
      refine ev_if_ne (tgt := 47) d_X5_goesOff_42 (by decide) (fun hc11 => ?_) (fun hc11 => ?_)
      · have h := it_ok_f h hc11
        refine ev_iinc d_X5_goesOff_47 kv_iconst_1 rfl (by decide) ?_
        show it_Ev g l 6 it_m_X5_goesOff 0 0 50 [some (.ref 0), some (.int x1), some (.int (v2 + 1))] [] κ S9 (it_pi κ P)
        refine ev_goto (tgt := 20) d_X5_goesOff_50 (by decide) ?_
        refine ev_keep [true, true, true] ?_
        exact ih20 _ _ h
      · have h := it_ok_t h hc11
        refine ev_iload_n d_X5_goesOff_45 rfl ?_
        exact ev_ret (v := some (.int _)) ⟨d_X5_goesOff_46, _, rfl, rfl⟩ (by decide) (by decide) ⟨rfl, _, rfl, it_ok_r h⟩
set_option maxHeartbeats 4000000 in
set_option maxRecDepth 100000 in
theorem L_X5_goesOff {g : it_G} {l : Launch} {κ : it_KK} {x1 : Int32} (hx : it_wx κ) {S : it_SS} {P : Int32 → it_SS → Prop} (h : it_ok (f_X5_goesOff κ x1 S) P) : it_Cn g l 6 it_m_X5_goesOff [.ref 0, .int x1] κ S (it_pi κ P) := by
  refine it_Cn.of (by decide +kernel) (Nat.le_of_ble_eq_true rfl) ?_
  rw [f_X5_goesOff] at h
  show it_Ev g l 6 it_m_X5_goesOff 0 0 0 [some (.ref 0), some (.int x1), none] [] κ S (it_pi κ P)
  refine ev_aload_n d_X5_goesOff_0 rfl ?_
  refine ev_getRr (r := 9) rfl d_X5_goesOff_1 fl_IcedTooSoon_28 hx.1 rfl ?_
  refine ev_iload_n d_X5_goesOff_4 rfl ?_
  refine ev_callV (ci := 0) (b := 9) (M' := it_m_X0_hasGlass) (d' := 2) (As := [.int x1]) d_X5_goesOff_5 ml_IcedTooSoon_107 ((hx).2.2.2.1).1.1 ((hx).2.2.2.1).1.2.1 ⟨_, rfl, rfl⟩ rfl rfl (Nat.le_of_ble_eq_true rfl) (by decide) (by decide) (by decide) (L_X0_hasGlass (hx.2.1) (hx).2.2.2.1 (it_ok_b h)) (fun _ _ _ _ q => by cases q.1; rfl) ?_
  rintro _ _ S1 ⟨rfl, r2, rfl, h⟩
  show it_Ev g l 6 it_m_X5_goesOff 0 0 8 [some (.ref 0), some (.int x1), none] [.int r2] κ S1 (it_pi κ P)
  refine ev_if_ne (tgt := 14) d_X5_goesOff_8 (by decide) (fun hc3 => ?_) (fun hc3 => ?_)
  · have h := it_ok_f h hc3
    refine ev_aload_n d_X5_goesOff_14 rfl ?_
    refine ev_callV (ci := 5) (b := 0) (M' := it_m_X5_think) (d' := 3) (As := []) d_X5_goesOff_15 ml_IcedTooSoon_180 hx.1.1 hx.1.2.1 ⟨_, rfl, rfl⟩ rfl rfl (Nat.le_of_ble_eq_true rfl) (by decide) (by decide) (by decide) (L_X5_think hx (it_ok_b h)) (fun _ _ _ _ q => by cases q.1; rfl) ?_
    rintro _ _ S4 ⟨rfl, rfl, h⟩
    show it_Ev g l 6 it_m_X5_goesOff 0 0 18 [some (.ref 0), some (.int x1), none] [] κ S4 (it_pi κ P)
    refine ev_iconst d_X5_goesOff_18 kv_iconst_1 ?_
    refine ev_istore_n d_X5_goesOff_19 (by decide) ?_
    show it_Ev g l 6 it_m_X5_goesOff 0 0 20 [some (.ref 0), some (.int x1), some (.int 1)] [] κ S4 (it_pi κ P)
    refine ev_keep [true, true, true] ?_
    refine Llp_X5_goesOff_20 hx (fun  S12 h => ?_) _ _ _ h
    show it_Ev g l 6 it_m_X5_goesOff 0 0 53 [none, none, none] [] κ S12 (it_pi κ P)
    refine ev_iconst d_X5_goesOff_53 kv_iconst_m1 ?_
    exact ev_ret (v := some (.int _)) ⟨d_X5_goesOff_54, _, rfl, rfl⟩ (by decide) (by decide) ⟨rfl, _, rfl, it_ok_r h⟩
  · have h := it_ok_t h hc3
    refine ev_bipush d_X5_goesOff_11 kv_bipush_m6 ?_
    exact ev_ret (v := some (.int _)) ⟨d_X5_goesOff_13, _, rfl, rfl⟩ (by decide) (by decide) ⟨rfl, _, rfl, it_ok_r h⟩
theorem d_X5_worst_0 : decode prog_1_method_18_code 0 = .ok (.aload_n 0, 1) := by decide +kernel
theorem d_X5_worst_1 : decode prog_1_method_18_code 1 = .ok (.getfield 28, 3) := by decide +kernel
theorem d_X5_worst_4 : decode prog_1_method_18_code 4 = .ok (.iload_n 1, 1) := by decide +kernel
theorem d_X5_worst_5 : decode prog_1_method_18_code 5 = .ok (.invokevirtual 117, 3) := by decide +kernel
theorem d_X5_worst_8 : decode prog_1_method_18_code 8 = .ok (.ifCond .ne 6, 3) := by decide +kernel
theorem d_X5_worst_11 : decode prog_1_method_18_code 11 = .ok (.bipush (-5), 2) := by decide +kernel
theorem d_X5_worst_13 : decode prog_1_method_18_code 13 = .ok (.ireturn, 1) := by decide +kernel
theorem d_X5_worst_14 : decode prog_1_method_18_code 14 = .ok (.iload_n 2, 1) := by decide +kernel
theorem d_X5_worst_15 : decode prog_1_method_18_code 15 = .ok (.iconst 1, 1) := by decide +kernel
theorem d_X5_worst_16 : decode prog_1_method_18_code 16 = .ok (.bipush 40, 2) := by decide +kernel
theorem d_X5_worst_18 : decode prog_1_method_18_code 18 = .ok (.invokestatic 96, 3) := by decide +kernel
theorem d_X5_worst_21 : decode prog_1_method_18_code 21 = .ok (.ifCond .ne 12, 3) := by decide +kernel
theorem d_X5_worst_24 : decode prog_1_method_18_code 24 = .ok (.iload_n 3, 1) := by decide +kernel
theorem d_X5_worst_25 : decode prog_1_method_18_code 25 = .ok (.iconst 0, 1) := by decide +kernel
theorem d_X5_worst_26 : decode prog_1_method_18_code 26 = .ok (.iconst 1, 1) := by decide +kernel
theorem d_X5_worst_27 : decode prog_1_method_18_code 27 = .ok (.invokestatic 96, 3) := by decide +kernel
theorem d_X5_worst_30 : decode prog_1_method_18_code 30 = .ok (.ifCond .eq 6, 3) := by decide +kernel
theorem d_X5_worst_33 : decode prog_1_method_18_code 33 = .ok (.bipush (-7), 2) := by decide +kernel
theorem d_X5_worst_35 : decode prog_1_method_18_code 35 = .ok (.ireturn, 1) := by decide +kernel
theorem d_X5_worst_36 : decode prog_1_method_18_code 36 = .ok (.iconst 0, 1) := by decide +kernel
theorem d_X5_worst_37 : decode prog_1_method_18_code 37 = .ok (.istore 4, 2) := by decide +kernel
theorem d_X5_worst_39 : decode prog_1_method_18_code 39 = .ok (.iconst (-1), 1) := by decide +kernel
theorem d_X5_worst_40 : decode prog_1_method_18_code 40 = .ok (.istore 5, 2) := by decide +kernel
theorem d_X5_worst_42 : decode prog_1_method_18_code 42 = .ok (.aload_n 0, 1) := by decide +kernel
theorem d_X5_worst_43 : decode prog_1_method_18_code 43 = .ok (.invokevirtual 180, 3) := by decide +kernel
theorem d_X5_worst_46 : decode prog_1_method_18_code 46 = .ok (.iconst 1, 1) := by decide +kernel
theorem d_X5_worst_47 : decode prog_1_method_18_code 47 = .ok (.istore 6, 2) := by decide +kernel
theorem d_X5_worst_49 : decode prog_1_method_18_code 49 = .ok (.iload 6, 2) := by decide +kernel
theorem d_X5_worst_51 : decode prog_1_method_18_code 51 = .ok (.iload_n 2, 1) := by decide +kernel
theorem d_X5_worst_52 : decode prog_1_method_18_code 52 = .ok (.if_icmp .gt 57, 3) := by decide +kernel
theorem d_X5_worst_55 : decode prog_1_method_18_code 55 = .ok (.aload_n 0, 1) := by decide +kernel
theorem d_X5_worst_56 : decode prog_1_method_18_code 56 = .ok (.getfield 32, 3) := by decide +kernel
theorem d_X5_worst_59 : decode prog_1_method_18_code 59 = .ok (.getfield 124, 3) := by decide +kernel
theorem d_X5_worst_62 : decode prog_1_method_18_code 62 = .ok (.iload_n 1, 1) := by decide +kernel
theorem d_X5_worst_63 : decode prog_1_method_18_code 63 = .ok (.iaload, 1) := by decide +kernel
theorem d_X5_worst_64 : decode prog_1_method_18_code 64 = .ok (.istore 7, 2) := by decide +kernel
theorem d_X5_worst_66 : decode prog_1_method_18_code 66 = .ok (.aload_n 0, 1) := by decide +kernel
theorem d_X5_worst_67 : decode prog_1_method_18_code 67 = .ok (.getfield 32, 3) := by decide +kernel
theorem d_X5_worst_70 : decode prog_1_method_18_code 70 = .ok (.invokevirtual 166, 3) := by decide +kernel
theorem d_X5_worst_73 : decode prog_1_method_18_code 73 = .ok (.pop, 1) := by decide +kernel
theorem d_X5_worst_74 : decode prog_1_method_18_code 74 = .ok (.iload 7, 2) := by decide +kernel
theorem d_X5_worst_76 : decode prog_1_method_18_code 76 = .ok (.aload_n 0, 1) := by decide +kernel
theorem d_X5_worst_77 : decode prog_1_method_18_code 77 = .ok (.getfield 32, 3) := by decide +kernel
theorem d_X5_worst_80 : decode prog_1_method_18_code 80 = .ok (.getfield 124, 3) := by decide +kernel
theorem d_X5_worst_83 : decode prog_1_method_18_code 83 = .ok (.iload_n 1, 1) := by decide +kernel
theorem d_X5_worst_84 : decode prog_1_method_18_code 84 = .ok (.iaload, 1) := by decide +kernel
theorem d_X5_worst_85 : decode prog_1_method_18_code 85 = .ok (.isub, 1) := by decide +kernel
theorem d_X5_worst_86 : decode prog_1_method_18_code 86 = .ok (.istore 8, 2) := by decide +kernel
theorem d_X5_worst_88 : decode prog_1_method_18_code 88 = .ok (.iload 8, 2) := by decide +kernel
theorem d_X5_worst_90 : decode prog_1_method_18_code 90 = .ok (.iload 4, 2) := by decide +kernel
theorem d_X5_worst_92 : decode prog_1_method_18_code 92 = .ok (.if_icmp .le 11, 3) := by decide +kernel
theorem d_X5_worst_95 : decode prog_1_method_18_code 95 = .ok (.iload 8, 2) := by decide +kernel
theorem d_X5_worst_97 : decode prog_1_method_18_code 97 = .ok (.istore 4, 2) := by decide +kernel
theorem d_X5_worst_99 : decode prog_1_method_18_code 99 = .ok (.iload 6, 2) := by decide +kernel
theorem d_X5_worst_101 : decode prog_1_method_18_code 101 = .ok (.istore 5, 2) := by decide +kernel
theorem d_X5_worst_103 : decode prog_1_method_18_code 103 = .ok (.iinc 6 1, 3) := by decide +kernel
theorem d_X5_worst_106 : decode prog_1_method_18_code 106 = .ok (.goto (-57), 3) := by decide +kernel
theorem d_X5_worst_109 : decode prog_1_method_18_code 109 = .ok (.iload_n 3, 1) := by decide +kernel
theorem d_X5_worst_110 : decode prog_1_method_18_code 110 = .ok (.ifCond .ne 8, 3) := by decide +kernel
theorem d_X5_worst_113 : decode prog_1_method_18_code 113 = .ok (.iload 5, 2) := by decide +kernel
theorem d_X5_worst_115 : decode prog_1_method_18_code 115 = .ok (.goto 5, 3) := by decide +kernel
theorem d_X5_worst_118 : decode prog_1_method_18_code 118 = .ok (.iload 4, 2) := by decide +kernel
theorem d_X5_worst_120 : decode prog_1_method_18_code 120 = .ok (.ireturn, 1) := by decide +kernel
def lp_X5_worst_49 (κ : it_KK) (x1 : Int32) (x2 : Int32) (x3 : Int32) (k49 : (Int32 → Int32 → it_SS → Option (Int32 × it_SS))) : Nat → Int32 → Int32 → Int32 → it_SS → Option (Int32 × it_SS)
  | 0, _, _, _, _ => none
  | n49 + 1, v4, v5, v6, S => if x2 < v6 then
k49 v4 v5 S
else
if it_bd x1 6 = true then
it_bi (f_X0_passDay κ 17 S) (fun r15 S14 =>
if ((S (17 + 3) (x1 : Int32).toNatClampNeg) - (S14 (17 + 3) (x1 : Int32).toNatClampNeg)) ≤ v4 then
lp_X5_worst_49 κ x1 x2 x3 k49 n49 v4 v5 (v6 + 1) S14
else
lp_X5_worst_49 κ x1 x2 x3 k49 n49 ((S (17 + 3) (x1 : Int32).toNatClampNeg) - (S14 (17 + 3) (x1 : Int32).toNatClampNeg)) v6 (v6 + 1) S14)
else none
def f_X5_worst (κ : it_KK) (x1 : Int32) (x2 : Int32) (x3 : Int32) (S : it_SS) : Option (Int32 × it_SS) :=
it_bi (f_X0_hasGuest κ 9 x1 S) (fun r2 S1 =>
if r2 = 0 then
some ((-5), S1)
else
it_bi (f_X5_isOutside κ x2 1 40 S1) (fun r5 S4 =>
if r5 = 0 then
it_bi (f_X5_isOutside κ x3 0 1 S4) (fun r8 S7 =>
if r8 = 0 then
it_bi (f_X5_think κ  S7) (fun _ S10 =>
lp_X5_worst_49 κ x1 x2 x3 (fun v17 v18 S19 =>
if x3 = 0 then
some (v18, S19)
else
some (v17, S19)) it_FU 0 (-1) 1 S10)
else
some ((-7), S7))
else
some ((-7), S4)))
set_option maxHeartbeats 4000000 in
set_option maxRecDepth 100000 in
theorem Llp_X5_worst_49 {g : it_G} {l : Launch} {κ : it_KK} {x1 : Int32} {x2 : Int32} {x3 : Int32} (hx : it_wx κ) {P : Int32 → it_SS → Prop} {k49 : (Int32 → Int32 → it_SS → Option (Int32 × it_SS))} (hk49 : ∀ (v4 : Int32) (v5 : Int32) (S : it_SS), it_ok (k49 v4 v5 S) P → it_Ev g l 6 it_m_X5_worst 0 0 109 [none, none, none, some (.int x3), some (.int v4), some (.int v5), none, none, none] [] κ S (it_pi κ P)) : ∀ (n : Nat) (v4 : Int32) (v5 : Int32) (v6 : Int32) (S : it_SS), it_ok (lp_X5_worst_49 κ x1 x2 x3 k49 n v4 v5 v6 S) P → it_Ev g l 6 it_m_X5_worst 0 0 49 [some (.ref 0), some (.int x1), some (.int x2), some (.int x3), some (.int v4), some (.int v5), some (.int v6), none, none] [] κ S (it_pi κ P) := by
  intro n
  induction n with
  | zero =>
    intro _ _ _ _ h
    exact (it_ok_n h).elim
  | succ n49 ih49 =>
    intro v4 v5 v6 S h
    rw [lp_X5_worst_49] at h
    refine ev_iload d_X5_worst_49 rfl ?_
    refine ev_iload_n d_X5_worst_51 rfl ?_
    refine ev_icmp_gt (tgt := 109) d_X5_worst_52 (by decide) (fun hc12 => ?_) (fun hc12 => ?_)
    · have h := it_ok_t h hc12
      refine ev_keep [false, false, false, true, true, true, false, false, false] ?_
      exact hk49 _ _ _ h
    · have h := it_ok_f h hc12
      refine ev_aload_n d_X5_worst_55 rfl ?_
      refine ev_getRr (r := 17) rfl d_X5_worst_56 fl_IcedTooSoon_32 hx.1 rfl ?_
      refine ev_getRr (r := (17 + 3)) rfl d_X5_worst_59 fl_IcedTooSoon_124 ((hx).2.2.2.2.1).1 rfl ?_
      refine ev_iload_n d_X5_worst_62 rfl ?_
      obtain ⟨hb13, h⟩ := it_ok_g h
      refine ev_iald d_X5_worst_63 ((hx).2.2.2.2.1).2.2.2.1 (it_bd_in hb13) ?_
      refine ev_istore d_X5_worst_64 (by decide) ?_
      show it_Ev g l 6 it_m_X5_worst 0 0 66 [some (.ref 0), some (.int x1), some (.int x2), some (.int x3), some (.int v4), some (.int v5), some (.int v6), some (.int (S (17 + 3) (x1 : Int32).toNatClampNeg)), none] [] κ S (it_pi κ P)
      refine ev_aload_n d_X5_worst_66 rfl ?_
      refine ev_getRr (r := 17) rfl d_X5_worst_67 fl_IcedTooSoon_32 hx.1 rfl ?_
      refine ev_callV (ci := 0) (b := 17) (M' := it_m_X0_passDay) (d' := 5) (As := []) d_X5_worst_70 ml_IcedTooSoon_166 ((hx).2.2.2.2.1).1.1 ((hx).2.2.2.2.1).1.2.1 ⟨_, rfl, rfl⟩ rfl rfl (Nat.le_of_ble_eq_true rfl) (by decide) (by decide) (by decide) (L_X0_passDay (hx.2.1) (hx).2.2.2.2.1 (it_ok_b h)) (fun _ _ _ _ q => by cases q.1; rfl) ?_
      rintro _ _ S14 ⟨rfl, r15, rfl, h⟩
      show it_Ev g l 6 it_m_X5_worst 0 0 73 [some (.ref 0), some (.int x1), some (.int x2), some (.int x3), some (.int v4), some (.int v5), some (.int v6), some (.int (S (17 + 3) (x1 : Int32).toNatClampNeg)), none] [.int r15] κ S14 (it_pi κ P)
      refine ev_pop d_X5_worst_73 rfl ?_
      refine ev_iload d_X5_worst_74 rfl ?_
      refine ev_aload_n d_X5_worst_76 rfl ?_
      refine ev_getRr (r := 17) rfl d_X5_worst_77 fl_IcedTooSoon_32 hx.1 rfl ?_
      refine ev_getRr (r := (17 + 3)) rfl d_X5_worst_80 fl_IcedTooSoon_124 ((hx).2.2.2.2.1).1 rfl ?_
      refine ev_iload_n d_X5_worst_83 rfl ?_
      refine ev_iald d_X5_worst_84 ((hx).2.2.2.2.1).2.2.2.1 (it_bd_in hb13) ?_
      refine ev_isub d_X5_worst_85 ?_
      refine ev_istore d_X5_worst_86 (by decide) ?_
      show it_Ev g l 6 it_m_X5_worst 0 0 88 [some (.ref 0), some (.int x1), some (.int x2), some (.int x3), some (.int v4), some (.int v5), some (.int v6), some (.int (S (17 + 3) (x1 : Int32).toNatClampNeg)), some (.int ((S (17 + 3) (x1 : Int32).toNatClampNeg) - (S14 (17 + 3) (x1 : Int32).toNatClampNeg)))] [] κ S14 (it_pi κ P)
      refine ev_iload d_X5_worst_88 rfl ?_
      refine ev_iload d_X5_worst_90 rfl ?_
      refine ev_icmp_le (tgt := 103) d_X5_worst_92 (by decide) (fun hc16 => ?_) (fun hc16 => ?_)
      · have h := it_ok_t h hc16
        refine ev_iinc d_X5_worst_103 kv_iconst_1 rfl (by decide) ?_
        show it_Ev g l 6 it_m_X5_worst 0 0 106 [some (.ref 0), some (.int x1), some (.int x2), some (.int x3), some (.int v4), some (.int v5), some (.int (v6 + 1)), some (.int (S (17 + 3) (x1 : Int32).toNatClampNeg)), some (.int ((S (17 + 3) (x1 : Int32).toNatClampNeg) - (S14 (17 + 3) (x1 : Int32).toNatClampNeg)))] [] κ S14 (it_pi κ P)
        refine ev_goto (tgt := 49) d_X5_worst_106 (by decide) ?_
        refine ev_keep [true, true, true, true, true, true, true, false, false] ?_
        exact ih49 _ _ _ _ h
      · have h := it_ok_f h hc16
        refine ev_iload d_X5_worst_95 rfl ?_
        refine ev_istore d_X5_worst_97 (by decide) ?_
        show it_Ev g l 6 it_m_X5_worst 0 0 99 [some (.ref 0), some (.int x1), some (.int x2), some (.int x3), some (.int ((S (17 + 3) (x1 : Int32).toNatClampNeg) - (S14 (17 + 3) (x1 : Int32).toNatClampNeg))), some (.int v5), some (.int v6), some (.int (S (17 + 3) (x1 : Int32).toNatClampNeg)), some (.int ((S (17 + 3) (x1 : Int32).toNatClampNeg) - (S14 (17 + 3) (x1 : Int32).toNatClampNeg)))] [] κ S14 (it_pi κ P)
        refine ev_iload d_X5_worst_99 rfl ?_
        refine ev_istore d_X5_worst_101 (by decide) ?_
        show it_Ev g l 6 it_m_X5_worst 0 0 103 [some (.ref 0), some (.int x1), some (.int x2), some (.int x3), some (.int ((S (17 + 3) (x1 : Int32).toNatClampNeg) - (S14 (17 + 3) (x1 : Int32).toNatClampNeg))), some (.int v6), some (.int v6), some (.int (S (17 + 3) (x1 : Int32).toNatClampNeg)), some (.int ((S (17 + 3) (x1 : Int32).toNatClampNeg) - (S14 (17 + 3) (x1 : Int32).toNatClampNeg)))] [] κ S14 (it_pi κ P)
        refine ev_iinc d_X5_worst_103 kv_iconst_1 rfl (by decide) ?_
        show it_Ev g l 6 it_m_X5_worst 0 0 106 [some (.ref 0), some (.int x1), some (.int x2), some (.int x3), some (.int ((S (17 + 3) (x1 : Int32).toNatClampNeg) - (S14 (17 + 3) (x1 : Int32).toNatClampNeg))), some (.int v6), some (.int (v6 + 1)), some (.int (S (17 + 3) (x1 : Int32).toNatClampNeg)), some (.int ((S (17 + 3) (x1 : Int32).toNatClampNeg) - (S14 (17 + 3) (x1 : Int32).toNatClampNeg)))] [] κ S14 (it_pi κ P)
        refine ev_goto (tgt := 49) d_X5_worst_106 (by decide) ?_
        refine ev_keep [true, true, true, true, true, true, true, false, false] ?_
        exact ih49 _ _ _ _ h
set_option maxHeartbeats 4000000 in
set_option maxRecDepth 100000 in
theorem L_X5_worst {g : it_G} {l : Launch} {κ : it_KK} {x1 : Int32} {x2 : Int32} {x3 : Int32} (hx : it_wx κ) {S : it_SS} {P : Int32 → it_SS → Prop} (h : it_ok (f_X5_worst κ x1 x2 x3 S) P) : it_Cn g l 6 it_m_X5_worst [.ref 0, .int x1, .int x2, .int x3] κ S (it_pi κ P) := by
  refine it_Cn.of (by decide +kernel) (Nat.le_of_ble_eq_true rfl) ?_
  rw [f_X5_worst] at h
  show it_Ev g l 6 it_m_X5_worst 0 0 0 [some (.ref 0), some (.int x1), some (.int x2), some (.int x3), none, none, none, none, none] [] κ S (it_pi κ P)
  refine ev_aload_n d_X5_worst_0 rfl ?_
  refine ev_getRr (r := 9) rfl d_X5_worst_1 fl_IcedTooSoon_28 hx.1 rfl ?_
  refine ev_iload_n d_X5_worst_4 rfl ?_
  refine ev_callV (ci := 0) (b := 9) (M' := it_m_X0_hasGuest) (d' := 1) (As := [.int x1]) d_X5_worst_5 ml_IcedTooSoon_117 ((hx).2.2.2.1).1.1 ((hx).2.2.2.1).1.2.1 ⟨_, rfl, rfl⟩ rfl rfl (Nat.le_of_ble_eq_true rfl) (by decide) (by decide) (by decide) (L_X0_hasGuest (hx.2.1) (hx).2.2.2.1 (it_ok_b h)) (fun _ _ _ _ q => by cases q.1; rfl) ?_
  rintro _ _ S1 ⟨rfl, r2, rfl, h⟩
  show it_Ev g l 6 it_m_X5_worst 0 0 8 [some (.ref 0), some (.int x1), some (.int x2), some (.int x3), none, none, none, none, none] [.int r2] κ S1 (it_pi κ P)
  refine ev_if_ne (tgt := 14) d_X5_worst_8 (by decide) (fun hc3 => ?_) (fun hc3 => ?_)
  · have h := it_ok_f h hc3
    refine ev_iload_n d_X5_worst_14 rfl ?_
    refine ev_iconst d_X5_worst_15 kv_iconst_1 ?_
    refine ev_bipush d_X5_worst_16 kv_bipush_40 ?_
    refine ev_callS (M' := it_m_X5_isOutside) (d' := 1) (As := [.int x2, .int 1, .int 40]) d_X5_worst_18 ml_IcedTooSoon_96 rfl rfl (Nat.le_of_ble_eq_true rfl) (by decide) (by decide) (by decide) (L_X5_isOutside  (it_ok_b h)) (fun _ _ _ _ q => by cases q.1; rfl) ?_
    rintro _ _ S4 ⟨rfl, r5, rfl, h⟩
    show it_Ev g l 6 it_m_X5_worst 0 0 21 [some (.ref 0), some (.int x1), some (.int x2), some (.int x3), none, none, none, none, none] [.int r5] κ S4 (it_pi κ P)
    refine ev_if_ne (tgt := 33) d_X5_worst_21 (by decide) (fun hc6 => ?_) (fun hc6 => ?_)
    · have h := it_ok_f h hc6
      refine ev_bipush d_X5_worst_33 kv_bipush_m7 ?_
      exact ev_ret (v := some (.int _)) ⟨d_X5_worst_35, _, rfl, rfl⟩ (by decide) (by decide) ⟨rfl, _, rfl, it_ok_r h⟩
    · have h := it_ok_t h hc6
      refine ev_iload_n d_X5_worst_24 rfl ?_
      refine ev_iconst d_X5_worst_25 kv_iconst_0 ?_
      refine ev_iconst d_X5_worst_26 kv_iconst_1 ?_
      refine ev_callS (M' := it_m_X5_isOutside) (d' := 1) (As := [.int x3, .int 0, .int 1]) d_X5_worst_27 ml_IcedTooSoon_96 rfl rfl (Nat.le_of_ble_eq_true rfl) (by decide) (by decide) (by decide) (L_X5_isOutside  (it_ok_b h)) (fun _ _ _ _ q => by cases q.1; rfl) ?_
      rintro _ _ S7 ⟨rfl, r8, rfl, h⟩
      show it_Ev g l 6 it_m_X5_worst 0 0 30 [some (.ref 0), some (.int x1), some (.int x2), some (.int x3), none, none, none, none, none] [.int r8] κ S7 (it_pi κ P)
      refine ev_if_eq (tgt := 36) d_X5_worst_30 (by decide) (fun hc9 => ?_) (fun hc9 => ?_)
      · have h := it_ok_t h hc9
        refine ev_iconst d_X5_worst_36 kv_iconst_0 ?_
        refine ev_istore d_X5_worst_37 (by decide) ?_
        show it_Ev g l 6 it_m_X5_worst 0 0 39 [some (.ref 0), some (.int x1), some (.int x2), some (.int x3), some (.int 0), none, none, none, none] [] κ S7 (it_pi κ P)
        refine ev_iconst d_X5_worst_39 kv_iconst_m1 ?_
        refine ev_istore d_X5_worst_40 (by decide) ?_
        show it_Ev g l 6 it_m_X5_worst 0 0 42 [some (.ref 0), some (.int x1), some (.int x2), some (.int x3), some (.int 0), some (.int (-1)), none, none, none] [] κ S7 (it_pi κ P)
        refine ev_aload_n d_X5_worst_42 rfl ?_
        refine ev_callV (ci := 5) (b := 0) (M' := it_m_X5_think) (d' := 3) (As := []) d_X5_worst_43 ml_IcedTooSoon_180 hx.1.1 hx.1.2.1 ⟨_, rfl, rfl⟩ rfl rfl (Nat.le_of_ble_eq_true rfl) (by decide) (by decide) (by decide) (L_X5_think hx (it_ok_b h)) (fun _ _ _ _ q => by cases q.1; rfl) ?_
        rintro _ _ S10 ⟨rfl, rfl, h⟩
        show it_Ev g l 6 it_m_X5_worst 0 0 46 [some (.ref 0), some (.int x1), some (.int x2), some (.int x3), some (.int 0), some (.int (-1)), none, none, none] [] κ S10 (it_pi κ P)
        refine ev_iconst d_X5_worst_46 kv_iconst_1 ?_
        refine ev_istore d_X5_worst_47 (by decide) ?_
        show it_Ev g l 6 it_m_X5_worst 0 0 49 [some (.ref 0), some (.int x1), some (.int x2), some (.int x3), some (.int 0), some (.int (-1)), some (.int 1), none, none] [] κ S10 (it_pi κ P)
        refine ev_keep [true, true, true, true, true, true, true, false, false] ?_
        refine Llp_X5_worst_49 hx (fun v17 v18 S19 h => ?_) _ _ _ _ _ h
        show it_Ev g l 6 it_m_X5_worst 0 0 109 [none, none, none, some (.int x3), some (.int v17), some (.int v18), none, none, none] [] κ S19 (it_pi κ P)
        refine ev_iload_n d_X5_worst_109 rfl ?_
        refine ev_if_ne (tgt := 118) d_X5_worst_110 (by decide) (fun hc20 => ?_) (fun hc20 => ?_)
        · have h := it_ok_f h hc20
          refine ev_iload d_X5_worst_118 rfl ?_
          exact ev_ret (v := some (.int _)) ⟨d_X5_worst_120, _, rfl, rfl⟩ (by decide) (by decide) ⟨rfl, _, rfl, it_ok_r h⟩
        · have h := it_ok_t h hc20
          refine ev_iload d_X5_worst_113 rfl ?_
          refine ev_goto (tgt := 120) d_X5_worst_115 (by decide) ?_
          exact ev_ret (v := some (.int _)) ⟨d_X5_worst_120, _, rfl, rfl⟩ (by decide) (by decide) ⟨rfl, _, rfl, it_ok_r h⟩
      · have h := it_ok_f h hc9
        refine ev_bipush d_X5_worst_33 kv_bipush_m7 ?_
        exact ev_ret (v := some (.int _)) ⟨d_X5_worst_35, _, rfl, rfl⟩ (by decide) (by decide) ⟨rfl, _, rfl, it_ok_r h⟩
  · have h := it_ok_t h hc3
    refine ev_bipush d_X5_worst_11 kv_bipush_m5 ?_
    exact ev_ret (v := some (.int _)) ⟨d_X5_worst_13, _, rfl, rfl⟩ (by decide) (by decide) ⟨rfl, _, rfl, it_ok_r h⟩
theorem d_X5_falls_0 : decode prog_1_method_19_code 0 = .ok (.iload_n 1, 1) := by decide +kernel
theorem d_X5_falls_1 : decode prog_1_method_19_code 1 = .ok (.iconst 0, 1) := by decide +kernel
theorem d_X5_falls_2 : decode prog_1_method_19_code 2 = .ok (.bipush 40, 2) := by decide +kernel
theorem d_X5_falls_4 : decode prog_1_method_19_code 4 = .ok (.invokestatic 96, 3) := by decide +kernel
theorem d_X5_falls_7 : decode prog_1_method_19_code 7 = .ok (.ifCond .ne 14, 3) := by decide +kernel
theorem d_X5_falls_10 : decode prog_1_method_19_code 10 = .ok (.iload_n 2, 1) := by decide +kernel
theorem d_X5_falls_11 : decode prog_1_method_19_code 11 = .ok (.bipush (-99), 2) := by decide +kernel
theorem d_X5_falls_13 : decode prog_1_method_19_code 13 = .ok (.bipush 99, 2) := by decide +kernel
theorem d_X5_falls_15 : decode prog_1_method_19_code 15 = .ok (.invokestatic 96, 3) := by decide +kernel
theorem d_X5_falls_18 : decode prog_1_method_19_code 18 = .ok (.ifCond .eq 6, 3) := by decide +kernel
theorem d_X5_falls_21 : decode prog_1_method_19_code 21 = .ok (.bipush (-2), 2) := by decide +kernel
theorem d_X5_falls_23 : decode prog_1_method_19_code 23 = .ok (.ireturn, 1) := by decide +kernel
theorem d_X5_falls_24 : decode prog_1_method_19_code 24 = .ok (.aload_n 0, 1) := by decide +kernel
theorem d_X5_falls_25 : decode prog_1_method_19_code 25 = .ok (.invokevirtual 180, 3) := by decide +kernel
theorem d_X5_falls_28 : decode prog_1_method_19_code 28 = .ok (.aload_n 0, 1) := by decide +kernel
theorem d_X5_falls_29 : decode prog_1_method_19_code 29 = .ok (.getfield 32, 3) := by decide +kernel
theorem d_X5_falls_32 : decode prog_1_method_19_code 32 = .ok (.iload_n 2, 1) := by decide +kernel
theorem d_X5_falls_33 : decode prog_1_method_19_code 33 = .ok (.invokevirtual 186, 3) := by decide +kernel
theorem d_X5_falls_36 : decode prog_1_method_19_code 36 = .ok (.istore_n 3, 1) := by decide +kernel
theorem d_X5_falls_37 : decode prog_1_method_19_code 37 = .ok (.iconst 0, 1) := by decide +kernel
theorem d_X5_falls_38 : decode prog_1_method_19_code 38 = .ok (.istore 4, 2) := by decide +kernel
theorem d_X5_falls_40 : decode prog_1_method_19_code 40 = .ok (.iload 4, 2) := by decide +kernel
theorem d_X5_falls_42 : decode prog_1_method_19_code 42 = .ok (.iload_n 1, 1) := by decide +kernel
theorem d_X5_falls_43 : decode prog_1_method_19_code 43 = .ok (.if_icmp .ge 28, 3) := by decide +kernel
theorem d_X5_falls_46 : decode prog_1_method_19_code 46 = .ok (.aload_n 0, 1) := by decide +kernel
theorem d_X5_falls_47 : decode prog_1_method_19_code 47 = .ok (.getfield 32, 3) := by decide +kernel
theorem d_X5_falls_50 : decode prog_1_method_19_code 50 = .ok (.invokevirtual 166, 3) := by decide +kernel
theorem d_X5_falls_53 : decode prog_1_method_19_code 53 = .ok (.pop, 1) := by decide +kernel
theorem d_X5_falls_54 : decode prog_1_method_19_code 54 = .ok (.iload_n 3, 1) := by decide +kernel
theorem d_X5_falls_55 : decode prog_1_method_19_code 55 = .ok (.aload_n 0, 1) := by decide +kernel
theorem d_X5_falls_56 : decode prog_1_method_19_code 56 = .ok (.getfield 32, 3) := by decide +kernel
theorem d_X5_falls_59 : decode prog_1_method_19_code 59 = .ok (.iload_n 2, 1) := by decide +kernel
theorem d_X5_falls_60 : decode prog_1_method_19_code 60 = .ok (.invokevirtual 186, 3) := by decide +kernel
theorem d_X5_falls_63 : decode prog_1_method_19_code 63 = .ok (.ior, 1) := by decide +kernel
theorem d_X5_falls_64 : decode prog_1_method_19_code 64 = .ok (.istore_n 3, 1) := by decide +kernel
theorem d_X5_falls_65 : decode prog_1_method_19_code 65 = .ok (.iinc 4 1, 3) := by decide +kernel
theorem d_X5_falls_68 : decode prog_1_method_19_code 68 = .ok (.goto (-28), 3) := by decide +kernel
theorem d_X5_falls_71 : decode prog_1_method_19_code 71 = .ok (.iload_n 3, 1) := by decide +kernel
theorem d_X5_falls_72 : decode prog_1_method_19_code 72 = .ok (.ireturn, 1) := by decide +kernel
def lp_X5_falls_40 (κ : it_KK) (x1 : Int32) (x2 : Int32) (k40 : (Int32 → it_SS → Option (Int32 × it_SS))) : Nat → Int32 → Int32 → it_SS → Option (Int32 × it_SS)
  | 0, _, _, _ => none
  | n40 + 1, v3, v4, S => if x1 ≤ v4 then
k40 v3 S
else
it_bi (f_X0_passDay κ 17 S) (fun r13 S12 =>
it_bi (f_X0_guestsBelow κ 17 x2 S12) (fun r15 S14 =>
lp_X5_falls_40 κ x1 x2 k40 n40 (v3 ||| r15) (v4 + 1) S14))
def f_X5_falls (κ : it_KK) (x1 : Int32) (x2 : Int32) (S : it_SS) : Option (Int32 × it_SS) :=
it_bi (f_X5_isOutside κ x1 0 40 S) (fun r2 S1 =>
if r2 = 0 then
it_bi (f_X5_isOutside κ x2 (-99) 99 S1) (fun r5 S4 =>
if r5 = 0 then
it_bi (f_X5_think κ  S4) (fun _ S7 =>
it_bi (f_X0_guestsBelow κ 17 x2 S7) (fun r10 S9 =>
lp_X5_falls_40 κ x1 x2 (fun v16 S17 =>
some (v16, S17)) it_FU r10 0 S9))
else
some ((-2), S4))
else
some ((-2), S1))
set_option maxHeartbeats 4000000 in
set_option maxRecDepth 100000 in
theorem Llp_X5_falls_40 {g : it_G} {l : Launch} {κ : it_KK} {x1 : Int32} {x2 : Int32} (hx : it_wx κ) {P : Int32 → it_SS → Prop} {k40 : (Int32 → it_SS → Option (Int32 × it_SS))} (hk40 : ∀ (v3 : Int32) (S : it_SS), it_ok (k40 v3 S) P → it_Ev g l 6 it_m_X5_falls 0 0 71 [none, none, none, some (.int v3), none] [] κ S (it_pi κ P)) : ∀ (n : Nat) (v3 : Int32) (v4 : Int32) (S : it_SS), it_ok (lp_X5_falls_40 κ x1 x2 k40 n v3 v4 S) P → it_Ev g l 6 it_m_X5_falls 0 0 40 [some (.ref 0), some (.int x1), some (.int x2), some (.int v3), some (.int v4)] [] κ S (it_pi κ P) := by
  intro n
  induction n with
  | zero =>
    intro _ _ _ h
    exact (it_ok_n h).elim
  | succ n40 ih40 =>
    intro v3 v4 S h
    rw [lp_X5_falls_40] at h
    refine ev_iload d_X5_falls_40 rfl ?_
    refine ev_iload_n d_X5_falls_42 rfl ?_
    refine ev_icmp_ge (tgt := 71) d_X5_falls_43 (by decide) (fun hc11 => ?_) (fun hc11 => ?_)
    · have h := it_ok_t h hc11
      refine ev_keep [false, false, false, true, false] ?_
      exact hk40 _ _ h
    · have h := it_ok_f h hc11
      refine ev_aload_n d_X5_falls_46 rfl ?_
      refine ev_getRr (r := 17) rfl d_X5_falls_47 fl_IcedTooSoon_32 hx.1 rfl ?_
      refine ev_callV (ci := 0) (b := 17) (M' := it_m_X0_passDay) (d' := 5) (As := []) d_X5_falls_50 ml_IcedTooSoon_166 ((hx).2.2.2.2.1).1.1 ((hx).2.2.2.2.1).1.2.1 ⟨_, rfl, rfl⟩ rfl rfl (Nat.le_of_ble_eq_true rfl) (by decide) (by decide) (by decide) (L_X0_passDay (hx.2.1) (hx).2.2.2.2.1 (it_ok_b h)) (fun _ _ _ _ q => by cases q.1; rfl) ?_
      rintro _ _ S12 ⟨rfl, r13, rfl, h⟩
      show it_Ev g l 6 it_m_X5_falls 0 0 53 [some (.ref 0), some (.int x1), some (.int x2), some (.int v3), some (.int v4)] [.int r13] κ S12 (it_pi κ P)
      refine ev_pop d_X5_falls_53 rfl ?_
      refine ev_iload_n d_X5_falls_54 rfl ?_
      refine ev_aload_n d_X5_falls_55 rfl ?_
      refine ev_getRr (r := 17) rfl d_X5_falls_56 fl_IcedTooSoon_32 hx.1 rfl ?_
      refine ev_iload_n d_X5_falls_59 rfl ?_
      refine ev_callV (ci := 0) (b := 17) (M' := it_m_X0_guestsBelow) (d' := 1) (As := [.int x2]) d_X5_falls_60 ml_IcedTooSoon_186 ((hx).2.2.2.2.1).1.1 ((hx).2.2.2.2.1).1.2.1 ⟨_, rfl, rfl⟩ rfl rfl (Nat.le_of_ble_eq_true rfl) (by decide) (by decide) (by decide) (L_X0_guestsBelow (hx.2.1) (hx).2.2.2.2.1 (it_ok_b h)) (fun _ _ _ _ q => by cases q.1; rfl) ?_
      rintro _ _ S14 ⟨rfl, r15, rfl, h⟩
      show it_Ev g l 6 it_m_X5_falls 0 0 63 [some (.ref 0), some (.int x1), some (.int x2), some (.int v3), some (.int v4)] [.int r15, .int v3] κ S14 (it_pi κ P)
      refine ev_ior d_X5_falls_63 ?_
      refine ev_istore_n d_X5_falls_64 (by decide) ?_
      show it_Ev g l 6 it_m_X5_falls 0 0 65 [some (.ref 0), some (.int x1), some (.int x2), some (.int (v3 ||| r15)), some (.int v4)] [] κ S14 (it_pi κ P)
      refine ev_iinc d_X5_falls_65 kv_iconst_1 rfl (by decide) ?_
      show it_Ev g l 6 it_m_X5_falls 0 0 68 [some (.ref 0), some (.int x1), some (.int x2), some (.int (v3 ||| r15)), some (.int (v4 + 1))] [] κ S14 (it_pi κ P)
      refine ev_goto (tgt := 40) d_X5_falls_68 (by decide) ?_
      refine ev_keep [true, true, true, true, true] ?_
      exact ih40 _ _ _ h
set_option maxHeartbeats 4000000 in
set_option maxRecDepth 100000 in
theorem L_X5_falls {g : it_G} {l : Launch} {κ : it_KK} {x1 : Int32} {x2 : Int32} (hx : it_wx κ) {S : it_SS} {P : Int32 → it_SS → Prop} (h : it_ok (f_X5_falls κ x1 x2 S) P) : it_Cn g l 6 it_m_X5_falls [.ref 0, .int x1, .int x2] κ S (it_pi κ P) := by
  refine it_Cn.of (by decide +kernel) (Nat.le_of_ble_eq_true rfl) ?_
  rw [f_X5_falls] at h
  show it_Ev g l 6 it_m_X5_falls 0 0 0 [some (.ref 0), some (.int x1), some (.int x2), none, none] [] κ S (it_pi κ P)
  refine ev_iload_n d_X5_falls_0 rfl ?_
  refine ev_iconst d_X5_falls_1 kv_iconst_0 ?_
  refine ev_bipush d_X5_falls_2 kv_bipush_40 ?_
  refine ev_callS (M' := it_m_X5_isOutside) (d' := 1) (As := [.int x1, .int 0, .int 40]) d_X5_falls_4 ml_IcedTooSoon_96 rfl rfl (Nat.le_of_ble_eq_true rfl) (by decide) (by decide) (by decide) (L_X5_isOutside  (it_ok_b h)) (fun _ _ _ _ q => by cases q.1; rfl) ?_
  rintro _ _ S1 ⟨rfl, r2, rfl, h⟩
  show it_Ev g l 6 it_m_X5_falls 0 0 7 [some (.ref 0), some (.int x1), some (.int x2), none, none] [.int r2] κ S1 (it_pi κ P)
  refine ev_if_ne (tgt := 21) d_X5_falls_7 (by decide) (fun hc3 => ?_) (fun hc3 => ?_)
  · have h := it_ok_f h hc3
    refine ev_bipush d_X5_falls_21 kv_bipush_m2 ?_
    exact ev_ret (v := some (.int _)) ⟨d_X5_falls_23, _, rfl, rfl⟩ (by decide) (by decide) ⟨rfl, _, rfl, it_ok_r h⟩
  · have h := it_ok_t h hc3
    refine ev_iload_n d_X5_falls_10 rfl ?_
    refine ev_bipush d_X5_falls_11 kv_bipush_m99 ?_
    refine ev_bipush d_X5_falls_13 kv_bipush_99 ?_
    refine ev_callS (M' := it_m_X5_isOutside) (d' := 1) (As := [.int x2, .int (-99), .int 99]) d_X5_falls_15 ml_IcedTooSoon_96 rfl rfl (Nat.le_of_ble_eq_true rfl) (by decide) (by decide) (by decide) (L_X5_isOutside  (it_ok_b h)) (fun _ _ _ _ q => by cases q.1; rfl) ?_
    rintro _ _ S4 ⟨rfl, r5, rfl, h⟩
    show it_Ev g l 6 it_m_X5_falls 0 0 18 [some (.ref 0), some (.int x1), some (.int x2), none, none] [.int r5] κ S4 (it_pi κ P)
    refine ev_if_eq (tgt := 24) d_X5_falls_18 (by decide) (fun hc6 => ?_) (fun hc6 => ?_)
    · have h := it_ok_t h hc6
      refine ev_aload_n d_X5_falls_24 rfl ?_
      refine ev_callV (ci := 5) (b := 0) (M' := it_m_X5_think) (d' := 3) (As := []) d_X5_falls_25 ml_IcedTooSoon_180 hx.1.1 hx.1.2.1 ⟨_, rfl, rfl⟩ rfl rfl (Nat.le_of_ble_eq_true rfl) (by decide) (by decide) (by decide) (L_X5_think hx (it_ok_b h)) (fun _ _ _ _ q => by cases q.1; rfl) ?_
      rintro _ _ S7 ⟨rfl, rfl, h⟩
      show it_Ev g l 6 it_m_X5_falls 0 0 28 [some (.ref 0), some (.int x1), some (.int x2), none, none] [] κ S7 (it_pi κ P)
      refine ev_aload_n d_X5_falls_28 rfl ?_
      refine ev_getRr (r := 17) rfl d_X5_falls_29 fl_IcedTooSoon_32 hx.1 rfl ?_
      refine ev_iload_n d_X5_falls_32 rfl ?_
      refine ev_callV (ci := 0) (b := 17) (M' := it_m_X0_guestsBelow) (d' := 1) (As := [.int x2]) d_X5_falls_33 ml_IcedTooSoon_186 ((hx).2.2.2.2.1).1.1 ((hx).2.2.2.2.1).1.2.1 ⟨_, rfl, rfl⟩ rfl rfl (Nat.le_of_ble_eq_true rfl) (by decide) (by decide) (by decide) (L_X0_guestsBelow (hx.2.1) (hx).2.2.2.2.1 (it_ok_b h)) (fun _ _ _ _ q => by cases q.1; rfl) ?_
      rintro _ _ S9 ⟨rfl, r10, rfl, h⟩
      show it_Ev g l 6 it_m_X5_falls 0 0 36 [some (.ref 0), some (.int x1), some (.int x2), none, none] [.int r10] κ S9 (it_pi κ P)
      refine ev_istore_n d_X5_falls_36 (by decide) ?_
      show it_Ev g l 6 it_m_X5_falls 0 0 37 [some (.ref 0), some (.int x1), some (.int x2), some (.int r10), none] [] κ S9 (it_pi κ P)
      refine ev_iconst d_X5_falls_37 kv_iconst_0 ?_
      refine ev_istore d_X5_falls_38 (by decide) ?_
      show it_Ev g l 6 it_m_X5_falls 0 0 40 [some (.ref 0), some (.int x1), some (.int x2), some (.int r10), some (.int 0)] [] κ S9 (it_pi κ P)
      refine ev_keep [true, true, true, true, true] ?_
      refine Llp_X5_falls_40 hx (fun v16 S17 h => ?_) _ _ _ _ h
      show it_Ev g l 6 it_m_X5_falls 0 0 71 [none, none, none, some (.int v16), none] [] κ S17 (it_pi κ P)
      refine ev_iload_n d_X5_falls_71 rfl ?_
      exact ev_ret (v := some (.int _)) ⟨d_X5_falls_72, _, rfl, rfl⟩ (by decide) (by decide) ⟨rfl, _, rfl, it_ok_r h⟩
    · have h := it_ok_f h hc6
      refine ev_bipush d_X5_falls_21 kv_bipush_m2 ?_
      exact ev_ret (v := some (.int _)) ⟨d_X5_falls_23, _, rfl, rfl⟩ (by decide) (by decide) ⟨rfl, _, rfl, it_ok_r h⟩
theorem d_X5_moodIfIced_0 : decode prog_1_method_50_code 0 = .ok (.aload_n 0, 1) := by decide +kernel
theorem d_X5_moodIfIced_1 : decode prog_1_method_50_code 1 = .ok (.invokevirtual 180, 3) := by decide +kernel
theorem d_X5_moodIfIced_4 : decode prog_1_method_50_code 4 = .ok (.iconst 0, 1) := by decide +kernel
theorem d_X5_moodIfIced_5 : decode prog_1_method_50_code 5 = .ok (.istore 4, 2) := by decide +kernel
theorem d_X5_moodIfIced_7 : decode prog_1_method_50_code 7 = .ok (.iload 4, 2) := by decide +kernel
theorem d_X5_moodIfIced_9 : decode prog_1_method_50_code 9 = .ok (.bipush 10, 2) := by decide +kernel
theorem d_X5_moodIfIced_11 : decode prog_1_method_50_code 11 = .ok (.if_icmp .ge 28, 3) := by decide +kernel
theorem d_X5_moodIfIced_14 : decode prog_1_method_50_code 14 = .ok (.iload_n 1, 1) := by decide +kernel
theorem d_X5_moodIfIced_15 : decode prog_1_method_50_code 15 = .ok (.iload 4, 2) := by decide +kernel
theorem d_X5_moodIfIced_17 : decode prog_1_method_50_code 17 = .ok (.ishr, 1) := by decide +kernel
theorem d_X5_moodIfIced_18 : decode prog_1_method_50_code 18 = .ok (.iconst 1, 1) := by decide +kernel
theorem d_X5_moodIfIced_19 : decode prog_1_method_50_code 19 = .ok (.iand, 1) := by decide +kernel
theorem d_X5_moodIfIced_20 : decode prog_1_method_50_code 20 = .ok (.ifCond .eq 13, 3) := by decide +kernel
theorem d_X5_moodIfIced_23 : decode prog_1_method_50_code 23 = .ok (.aload_n 0, 1) := by decide +kernel
theorem d_X5_moodIfIced_24 : decode prog_1_method_50_code 24 = .ok (.getfield 32, 3) := by decide +kernel
theorem d_X5_moodIfIced_27 : decode prog_1_method_50_code 27 = .ok (.iload 4, 2) := by decide +kernel
theorem d_X5_moodIfIced_29 : decode prog_1_method_50_code 29 = .ok (.iload_n 2, 1) := by decide +kernel
theorem d_X5_moodIfIced_30 : decode prog_1_method_50_code 30 = .ok (.invokevirtual 169, 3) := by decide +kernel
theorem d_X5_moodIfIced_33 : decode prog_1_method_50_code 33 = .ok (.iinc 4 1, 3) := by decide +kernel
theorem d_X5_moodIfIced_36 : decode prog_1_method_50_code 36 = .ok (.goto (-29), 3) := by decide +kernel
theorem d_X5_moodIfIced_39 : decode prog_1_method_50_code 39 = .ok (.iconst 0, 1) := by decide +kernel
theorem d_X5_moodIfIced_40 : decode prog_1_method_50_code 40 = .ok (.istore 4, 2) := by decide +kernel
theorem d_X5_moodIfIced_42 : decode prog_1_method_50_code 42 = .ok (.iload 4, 2) := by decide +kernel
theorem d_X5_moodIfIced_44 : decode prog_1_method_50_code 44 = .ok (.iload_n 3, 1) := by decide +kernel
theorem d_X5_moodIfIced_45 : decode prog_1_method_50_code 45 = .ok (.if_icmp .ge 17, 3) := by decide +kernel
theorem d_X5_moodIfIced_48 : decode prog_1_method_50_code 48 = .ok (.aload_n 0, 1) := by decide +kernel
theorem d_X5_moodIfIced_49 : decode prog_1_method_50_code 49 = .ok (.getfield 32, 3) := by decide +kernel
theorem d_X5_moodIfIced_52 : decode prog_1_method_50_code 52 = .ok (.invokevirtual 166, 3) := by decide +kernel
theorem d_X5_moodIfIced_55 : decode prog_1_method_50_code 55 = .ok (.pop, 1) := by decide +kernel
theorem d_X5_moodIfIced_56 : decode prog_1_method_50_code 56 = .ok (.iinc 4 1, 3) := by decide +kernel
theorem d_X5_moodIfIced_59 : decode prog_1_method_50_code 59 = .ok (.goto (-17), 3) := by decide +kernel
theorem d_X5_moodIfIced_62 : decode prog_1_method_50_code 62 = .ok (.aload_n 0, 1) := by decide +kernel
theorem d_X5_moodIfIced_63 : decode prog_1_method_50_code 63 = .ok (.getfield 32, 3) := by decide +kernel
theorem d_X5_moodIfIced_66 : decode prog_1_method_50_code 66 = .ok (.invokevirtual 183, 3) := by decide +kernel
theorem d_X5_moodIfIced_69 : decode prog_1_method_50_code 69 = .ok (.ireturn, 1) := by decide +kernel
def lp_X5_moodIfIced_7 (κ : it_KK) (x1 : Int32) (x2 : Int32) (x3 : Int32) (k7 : (it_SS → Option (Int32 × it_SS))) : Nat → Int32 → it_SS → Option (Int32 × it_SS)
  | 0, _, _ => none
  | n7 + 1, v4, S => if 10 ≤ v4 then
k7  S
else
if ((x1 >>> (v4 &&& 31)) &&& 1) = 0 then
lp_X5_moodIfIced_7 κ x1 x2 x3 k7 n7 (v4 + 1) S
else
it_bi (f_X0_addIce κ 17 v4 x2 S) (fun _ S5 =>
lp_X5_moodIfIced_7 κ x1 x2 x3 k7 n7 (v4 + 1) S5)
def lp_X5_moodIfIced_42 (κ : it_KK) (x1 : Int32) (x2 : Int32) (x3 : Int32) (k42 : (it_SS → Option (Int32 × it_SS))) : Nat → Int32 → it_SS → Option (Int32 × it_SS)
  | 0, _, _ => none
  | n42 + 1, v4, S => if x3 ≤ v4 then
k42  S
else
it_bi (f_X0_passDay κ 17 S) (fun r10 S9 =>
lp_X5_moodIfIced_42 κ x1 x2 x3 k42 n42 (v4 + 1) S9)
def f_X5_moodIfIced (κ : it_KK) (x1 : Int32) (x2 : Int32) (x3 : Int32) (S : it_SS) : Option (Int32 × it_SS) :=
it_bi (f_X5_think κ  S) (fun _ S1 =>
lp_X5_moodIfIced_7 κ x1 x2 x3 (fun  S7 =>
lp_X5_moodIfIced_42 κ x1 x2 x3 (fun  S11 =>
it_bi (f_X0_moodOfAll κ 17 S11) (fun r13 S12 =>
some (r13, S12))) it_FU 0 S7) it_FU 0 S1)
set_option maxHeartbeats 4000000 in
set_option maxRecDepth 100000 in
theorem Llp_X5_moodIfIced_7 {g : it_G} {l : Launch} {κ : it_KK} {x1 : Int32} {x2 : Int32} {x3 : Int32} (hx : it_wx κ) {P : Int32 → it_SS → Prop} {k7 : (it_SS → Option (Int32 × it_SS))} (hk7 : ∀  (S : it_SS), it_ok (k7  S) P → it_Ev g l 6 it_m_X5_moodIfIced 0 0 39 [some (.ref 0), none, none, some (.int x3), none] [] κ S (it_pi κ P)) : ∀ (n : Nat) (v4 : Int32) (S : it_SS), it_ok (lp_X5_moodIfIced_7 κ x1 x2 x3 k7 n v4 S) P → it_Ev g l 6 it_m_X5_moodIfIced 0 0 7 [some (.ref 0), some (.int x1), some (.int x2), some (.int x3), some (.int v4)] [] κ S (it_pi κ P) := by
  intro n
  induction n with
  | zero =>
    intro _ _ h
    exact (it_ok_n h).elim
  | succ n7 ih7 =>
    intro v4 S h
    rw [lp_X5_moodIfIced_7] at h
    refine ev_iload d_X5_moodIfIced_7 rfl ?_
    refine ev_bipush d_X5_moodIfIced_9 kv_bipush_10 ?_
    refine ev_icmp_ge (tgt := 39) d_X5_moodIfIced_11 (by decide) (fun hc3 => ?_) (fun hc3 => ?_)
    · have h := it_ok_t h hc3
      refine ev_keep [true, false, false, true, false] ?_
      exact hk7  _ h
    · have h := it_ok_f h hc3
      refine ev_iload_n d_X5_moodIfIced_14 rfl ?_
      refine ev_iload d_X5_moodIfIced_15 rfl ?_
      refine ev_ishr d_X5_moodIfIced_17 ?_
      refine ev_iconst d_X5_moodIfIced_18 kv_iconst_1 ?_
      refine ev_iand d_X5_moodIfIced_19 ?_
      refine ev_if_eq (tgt := 33) d_X5_moodIfIced_20 (by decide) (fun hc4 => ?_) (fun hc4 => ?_)
      · have h := it_ok_t h hc4
        refine ev_iinc d_X5_moodIfIced_33 kv_iconst_1 rfl (by decide) ?_
        show it_Ev g l 6 it_m_X5_moodIfIced 0 0 36 [some (.ref 0), some (.int x1), some (.int x2), some (.int x3), some (.int (v4 + 1))] [] κ S (it_pi κ P)
        refine ev_goto (tgt := 7) d_X5_moodIfIced_36 (by decide) ?_
        refine ev_keep [true, true, true, true, true] ?_
        exact ih7 _ _ h
      · have h := it_ok_f h hc4
        refine ev_aload_n d_X5_moodIfIced_23 rfl ?_
        refine ev_getRr (r := 17) rfl d_X5_moodIfIced_24 fl_IcedTooSoon_32 hx.1 rfl ?_
        refine ev_iload d_X5_moodIfIced_27 rfl ?_
        refine ev_iload_n d_X5_moodIfIced_29 rfl ?_
        refine ev_callV (ci := 0) (b := 17) (M' := it_m_X0_addIce) (d' := 2) (As := [.int v4, .int x2]) d_X5_moodIfIced_30 ml_IcedTooSoon_169 ((hx).2.2.2.2.1).1.1 ((hx).2.2.2.2.1).1.2.1 ⟨_, rfl, rfl⟩ rfl rfl (Nat.le_of_ble_eq_true rfl) (by decide) (by decide) (by decide) (L_X0_addIce (hx.2.1) (hx).2.2.2.2.1 (it_ok_b h)) (fun _ _ _ _ q => by cases q.1; rfl) ?_
        rintro _ _ S5 ⟨rfl, rfl, h⟩
        show it_Ev g l 6 it_m_X5_moodIfIced 0 0 33 [some (.ref 0), some (.int x1), some (.int x2), some (.int x3), some (.int v4)] [] κ S5 (it_pi κ P)
        refine ev_iinc d_X5_moodIfIced_33 kv_iconst_1 rfl (by decide) ?_
        show it_Ev g l 6 it_m_X5_moodIfIced 0 0 36 [some (.ref 0), some (.int x1), some (.int x2), some (.int x3), some (.int (v4 + 1))] [] κ S5 (it_pi κ P)
        refine ev_goto (tgt := 7) d_X5_moodIfIced_36 (by decide) ?_
        refine ev_keep [true, true, true, true, true] ?_
        exact ih7 _ _ h
set_option maxHeartbeats 4000000 in
set_option maxRecDepth 100000 in
theorem Llp_X5_moodIfIced_42 {g : it_G} {l : Launch} {κ : it_KK} {x1 : Int32} {x2 : Int32} {x3 : Int32} (hx : it_wx κ) {P : Int32 → it_SS → Prop} {k42 : (it_SS → Option (Int32 × it_SS))} (hk42 : ∀  (S : it_SS), it_ok (k42  S) P → it_Ev g l 6 it_m_X5_moodIfIced 0 0 62 [some (.ref 0), none, none, none, none] [] κ S (it_pi κ P)) : ∀ (n : Nat) (v4 : Int32) (S : it_SS), it_ok (lp_X5_moodIfIced_42 κ x1 x2 x3 k42 n v4 S) P → it_Ev g l 6 it_m_X5_moodIfIced 0 0 42 [some (.ref 0), none, none, some (.int x3), some (.int v4)] [] κ S (it_pi κ P) := by
  intro n
  induction n with
  | zero =>
    intro _ _ h
    exact (it_ok_n h).elim
  | succ n42 ih42 =>
    intro v4 S h
    rw [lp_X5_moodIfIced_42] at h
    refine ev_iload d_X5_moodIfIced_42 rfl ?_
    refine ev_iload_n d_X5_moodIfIced_44 rfl ?_
    refine ev_icmp_ge (tgt := 62) d_X5_moodIfIced_45 (by decide) (fun hc8 => ?_) (fun hc8 => ?_)
    · have h := it_ok_t h hc8
      refine ev_keep [true, false, false, false, false] ?_
      exact hk42  _ h
    · have h := it_ok_f h hc8
      refine ev_aload_n d_X5_moodIfIced_48 rfl ?_
      refine ev_getRr (r := 17) rfl d_X5_moodIfIced_49 fl_IcedTooSoon_32 hx.1 rfl ?_
      refine ev_callV (ci := 0) (b := 17) (M' := it_m_X0_passDay) (d' := 5) (As := []) d_X5_moodIfIced_52 ml_IcedTooSoon_166 ((hx).2.2.2.2.1).1.1 ((hx).2.2.2.2.1).1.2.1 ⟨_, rfl, rfl⟩ rfl rfl (Nat.le_of_ble_eq_true rfl) (by decide) (by decide) (by decide) (L_X0_passDay (hx.2.1) (hx).2.2.2.2.1 (it_ok_b h)) (fun _ _ _ _ q => by cases q.1; rfl) ?_
      rintro _ _ S9 ⟨rfl, r10, rfl, h⟩
      show it_Ev g l 6 it_m_X5_moodIfIced 0 0 55 [some (.ref 0), none, none, some (.int x3), some (.int v4)] [.int r10] κ S9 (it_pi κ P)
      refine ev_pop d_X5_moodIfIced_55 rfl ?_
      refine ev_iinc d_X5_moodIfIced_56 kv_iconst_1 rfl (by decide) ?_
      show it_Ev g l 6 it_m_X5_moodIfIced 0 0 59 [some (.ref 0), none, none, some (.int x3), some (.int (v4 + 1))] [] κ S9 (it_pi κ P)
      refine ev_goto (tgt := 42) d_X5_moodIfIced_59 (by decide) ?_
      refine ev_keep [true, false, false, true, true] ?_
      exact ih42 _ _ h
set_option maxHeartbeats 4000000 in
set_option maxRecDepth 100000 in
theorem L_X5_moodIfIced {g : it_G} {l : Launch} {κ : it_KK} {x1 : Int32} {x2 : Int32} {x3 : Int32} (hx : it_wx κ) {S : it_SS} {P : Int32 → it_SS → Prop} (h : it_ok (f_X5_moodIfIced κ x1 x2 x3 S) P) : it_Cn g l 6 it_m_X5_moodIfIced [.ref 0, .int x1, .int x2, .int x3] κ S (it_pi κ P) := by
  refine it_Cn.of (by decide +kernel) (Nat.le_of_ble_eq_true rfl) ?_
  rw [f_X5_moodIfIced] at h
  show it_Ev g l 6 it_m_X5_moodIfIced 0 0 0 [some (.ref 0), some (.int x1), some (.int x2), some (.int x3), none] [] κ S (it_pi κ P)
  refine ev_aload_n d_X5_moodIfIced_0 rfl ?_
  refine ev_callV (ci := 5) (b := 0) (M' := it_m_X5_think) (d' := 3) (As := []) d_X5_moodIfIced_1 ml_IcedTooSoon_180 hx.1.1 hx.1.2.1 ⟨_, rfl, rfl⟩ rfl rfl (Nat.le_of_ble_eq_true rfl) (by decide) (by decide) (by decide) (L_X5_think hx (it_ok_b h)) (fun _ _ _ _ q => by cases q.1; rfl) ?_
  rintro _ _ S1 ⟨rfl, rfl, h⟩
  show it_Ev g l 6 it_m_X5_moodIfIced 0 0 4 [some (.ref 0), some (.int x1), some (.int x2), some (.int x3), none] [] κ S1 (it_pi κ P)
  refine ev_iconst d_X5_moodIfIced_4 kv_iconst_0 ?_
  refine ev_istore d_X5_moodIfIced_5 (by decide) ?_
  show it_Ev g l 6 it_m_X5_moodIfIced 0 0 7 [some (.ref 0), some (.int x1), some (.int x2), some (.int x3), some (.int 0)] [] κ S1 (it_pi κ P)
  refine ev_keep [true, true, true, true, true] ?_
  refine Llp_X5_moodIfIced_7 hx (fun  S7 h => ?_) _ _ _ h
  show it_Ev g l 6 it_m_X5_moodIfIced 0 0 39 [some (.ref 0), none, none, some (.int x3), none] [] κ S7 (it_pi κ P)
  refine ev_iconst d_X5_moodIfIced_39 kv_iconst_0 ?_
  refine ev_istore d_X5_moodIfIced_40 (by decide) ?_
  show it_Ev g l 6 it_m_X5_moodIfIced 0 0 42 [some (.ref 0), none, none, some (.int x3), some (.int 0)] [] κ S7 (it_pi κ P)
  refine ev_keep [true, false, false, true, true] ?_
  refine Llp_X5_moodIfIced_42 hx (fun  S11 h => ?_) _ _ _ h
  show it_Ev g l 6 it_m_X5_moodIfIced 0 0 62 [some (.ref 0), none, none, none, none] [] κ S11 (it_pi κ P)
  refine ev_aload_n d_X5_moodIfIced_62 rfl ?_
  refine ev_getRr (r := 17) rfl d_X5_moodIfIced_63 fl_IcedTooSoon_32 hx.1 rfl ?_
  refine ev_callV (ci := 0) (b := 17) (M' := it_m_X0_moodOfAll) (d' := 1) (As := []) d_X5_moodIfIced_66 ml_IcedTooSoon_183 ((hx).2.2.2.2.1).1.1 ((hx).2.2.2.2.1).1.2.1 ⟨_, rfl, rfl⟩ rfl rfl (Nat.le_of_ble_eq_true rfl) (by decide) (by decide) (by decide) (L_X0_moodOfAll (hx.2.1) (hx).2.2.2.2.1 (it_ok_b h)) (fun _ _ _ _ q => by cases q.1; rfl) ?_
  rintro _ _ S12 ⟨rfl, r13, rfl, h⟩
  show it_Ev g l 6 it_m_X5_moodIfIced 0 0 69 [some (.ref 0), none, none, none, none] [.int r13] κ S12 (it_pi κ P)
  exact ev_ret (v := some (.int _)) ⟨d_X5_moodIfIced_69, _, rfl, rfl⟩ (by decide) (by decide) ⟨rfl, _, rfl, it_ok_r h⟩
theorem d_X5_again_0 : decode prog_1_method_20_code 0 = .ok (.iload_n 1, 1) := by decide +kernel
theorem d_X5_again_1 : decode prog_1_method_20_code 1 = .ok (.iconst 1, 1) := by decide +kernel
theorem d_X5_again_2 : decode prog_1_method_20_code 2 = .ok (.bipush 99, 2) := by decide +kernel
theorem d_X5_again_4 : decode prog_1_method_20_code 4 = .ok (.invokestatic 96, 3) := by decide +kernel
theorem d_X5_again_7 : decode prog_1_method_20_code 7 = .ok (.ifCond .ne 22, 3) := by decide +kernel
theorem d_X5_again_10 : decode prog_1_method_20_code 10 = .ok (.iload_n 2, 1) := by decide +kernel
theorem d_X5_again_11 : decode prog_1_method_20_code 11 = .ok (.iconst 1, 1) := by decide +kernel
theorem d_X5_again_12 : decode prog_1_method_20_code 12 = .ok (.bipush 20, 2) := by decide +kernel
theorem d_X5_again_14 : decode prog_1_method_20_code 14 = .ok (.invokestatic 96, 3) := by decide +kernel
theorem d_X5_again_17 : decode prog_1_method_20_code 17 = .ok (.ifCond .ne 12, 3) := by decide +kernel
theorem d_X5_again_20 : decode prog_1_method_20_code 20 = .ok (.iload_n 3, 1) := by decide +kernel
theorem d_X5_again_21 : decode prog_1_method_20_code 21 = .ok (.iconst 0, 1) := by decide +kernel
theorem d_X5_again_22 : decode prog_1_method_20_code 22 = .ok (.iconst 1, 1) := by decide +kernel
theorem d_X5_again_23 : decode prog_1_method_20_code 23 = .ok (.invokestatic 96, 3) := by decide +kernel
theorem d_X5_again_26 : decode prog_1_method_20_code 26 = .ok (.ifCond .eq 7, 3) := by decide +kernel
theorem d_X5_again_29 : decode prog_1_method_20_code 29 = .ok (.sipush (-1000), 3) := by decide +kernel
theorem d_X5_again_32 : decode prog_1_method_20_code 32 = .ok (.ireturn, 1) := by decide +kernel
theorem d_X5_again_33 : decode prog_1_method_20_code 33 = .ok (.aload_n 0, 1) := by decide +kernel
theorem d_X5_again_34 : decode prog_1_method_20_code 34 = .ok (.iconst 0, 1) := by decide +kernel
theorem d_X5_again_35 : decode prog_1_method_20_code 35 = .ok (.iload_n 1, 1) := by decide +kernel
theorem d_X5_again_36 : decode prog_1_method_20_code 36 = .ok (.iload_n 2, 1) := by decide +kernel
theorem d_X5_again_37 : decode prog_1_method_20_code 37 = .ok (.invokevirtual 189, 3) := by decide +kernel
theorem d_X5_again_40 : decode prog_1_method_20_code 40 = .ok (.istore 4, 2) := by decide +kernel
theorem d_X5_again_42 : decode prog_1_method_20_code 42 = .ok (.iconst (-1), 1) := by decide +kernel
theorem d_X5_again_43 : decode prog_1_method_20_code 43 = .ok (.istore 5, 2) := by decide +kernel
theorem d_X5_again_45 : decode prog_1_method_20_code 45 = .ok (.iconst 0, 1) := by decide +kernel
theorem d_X5_again_46 : decode prog_1_method_20_code 46 = .ok (.istore 6, 2) := by decide +kernel
theorem d_X5_again_48 : decode prog_1_method_20_code 48 = .ok (.iload 6, 2) := by decide +kernel
theorem d_X5_again_50 : decode prog_1_method_20_code 50 = .ok (.bipush 10, 2) := by decide +kernel
theorem d_X5_again_52 : decode prog_1_method_20_code 52 = .ok (.if_icmp .ge 53, 3) := by decide +kernel
theorem d_X5_again_55 : decode prog_1_method_20_code 55 = .ok (.aload_n 0, 1) := by decide +kernel
theorem d_X5_again_56 : decode prog_1_method_20_code 56 = .ok (.getfield 28, 3) := by decide +kernel
theorem d_X5_again_59 : decode prog_1_method_20_code 59 = .ok (.iload 6, 2) := by decide +kernel
theorem d_X5_again_61 : decode prog_1_method_20_code 61 = .ok (.invokevirtual 107, 3) := by decide +kernel
theorem d_X5_again_64 : decode prog_1_method_20_code 64 = .ok (.ifCond .eq 16, 3) := by decide +kernel
theorem d_X5_again_67 : decode prog_1_method_20_code 67 = .ok (.aload_n 0, 1) := by decide +kernel
theorem d_X5_again_68 : decode prog_1_method_20_code 68 = .ok (.iconst 1, 1) := by decide +kernel
theorem d_X5_again_69 : decode prog_1_method_20_code 69 = .ok (.iload 6, 2) := by decide +kernel
theorem d_X5_again_71 : decode prog_1_method_20_code 71 = .ok (.ishl, 1) := by decide +kernel
theorem d_X5_again_72 : decode prog_1_method_20_code 72 = .ok (.iload_n 1, 1) := by decide +kernel
theorem d_X5_again_73 : decode prog_1_method_20_code 73 = .ok (.iload_n 2, 1) := by decide +kernel
theorem d_X5_again_74 : decode prog_1_method_20_code 74 = .ok (.invokevirtual 189, 3) := by decide +kernel
theorem d_X5_again_77 : decode prog_1_method_20_code 77 = .ok (.goto 5, 3) := by decide +kernel
theorem d_X5_again_80 : decode prog_1_method_20_code 80 = .ok (.iload 4, 2) := by decide +kernel
theorem d_X5_again_82 : decode prog_1_method_20_code 82 = .ok (.istore 7, 2) := by decide +kernel
theorem d_X5_again_84 : decode prog_1_method_20_code 84 = .ok (.iload 7, 2) := by decide +kernel
theorem d_X5_again_86 : decode prog_1_method_20_code 86 = .ok (.iload 4, 2) := by decide +kernel
theorem d_X5_again_88 : decode prog_1_method_20_code 88 = .ok (.if_icmp .le 11, 3) := by decide +kernel
theorem d_X5_again_91 : decode prog_1_method_20_code 91 = .ok (.iload 7, 2) := by decide +kernel
theorem d_X5_again_93 : decode prog_1_method_20_code 93 = .ok (.istore 4, 2) := by decide +kernel
theorem d_X5_again_95 : decode prog_1_method_20_code 95 = .ok (.iload 6, 2) := by decide +kernel
theorem d_X5_again_97 : decode prog_1_method_20_code 97 = .ok (.istore 5, 2) := by decide +kernel
theorem d_X5_again_99 : decode prog_1_method_20_code 99 = .ok (.iinc 6 1, 3) := by decide +kernel
theorem d_X5_again_102 : decode prog_1_method_20_code 102 = .ok (.goto (-54), 3) := by decide +kernel
theorem d_X5_again_105 : decode prog_1_method_20_code 105 = .ok (.iload_n 3, 1) := by decide +kernel
theorem d_X5_again_106 : decode prog_1_method_20_code 106 = .ok (.ifCond .ne 8, 3) := by decide +kernel
theorem d_X5_again_109 : decode prog_1_method_20_code 109 = .ok (.iload 5, 2) := by decide +kernel
theorem d_X5_again_111 : decode prog_1_method_20_code 111 = .ok (.goto 5, 3) := by decide +kernel
theorem d_X5_again_114 : decode prog_1_method_20_code 114 = .ok (.iload 4, 2) := by decide +kernel
theorem d_X5_again_116 : decode prog_1_method_20_code 116 = .ok (.ireturn, 1) := by decide +kernel
def lp_X5_again_48 (κ : it_KK) (x1 : Int32) (x2 : Int32) (x3 : Int32) (k48 : (Int32 → Int32 → it_SS → Option (Int32 × it_SS))) : Nat → Int32 → Int32 → Int32 → it_SS → Option (Int32 × it_SS)
  | 0, _, _, _, _ => none
  | n48 + 1, v4, v5, v6, S => if 10 ≤ v6 then
k48 v4 v5 S
else
it_bi (f_X0_hasGlass κ 9 v6 S) (fun r14 S13 =>
if r14 = 0 then
if v4 ≤ v4 then
lp_X5_again_48 κ x1 x2 x3 k48 n48 v4 v5 (v6 + 1) S13
else
lp_X5_again_48 κ x1 x2 x3 k48 n48 v4 v6 (v6 + 1) S13
else
it_bi (f_X5_moodIfIced κ (1 <<< (v6 &&& 31)) x1 x2 S13) (fun r18 S17 =>
if r18 ≤ v4 then
lp_X5_again_48 κ x1 x2 x3 k48 n48 v4 v5 (v6 + 1) S17
else
lp_X5_again_48 κ x1 x2 x3 k48 n48 r18 v6 (v6 + 1) S17))
def f_X5_again (κ : it_KK) (x1 : Int32) (x2 : Int32) (x3 : Int32) (S : it_SS) : Option (Int32 × it_SS) :=
it_bi (f_X5_isOutside κ x1 1 99 S) (fun r2 S1 =>
if r2 = 0 then
it_bi (f_X5_isOutside κ x2 1 20 S1) (fun r5 S4 =>
if r5 = 0 then
it_bi (f_X5_isOutside κ x3 0 1 S4) (fun r8 S7 =>
if r8 = 0 then
it_bi (f_X5_moodIfIced κ 0 x1 x2 S7) (fun r11 S10 =>
lp_X5_again_48 κ x1 x2 x3 (fun v20 v21 S22 =>
if x3 = 0 then
some (v21, S22)
else
some (v20, S22)) it_FU r11 (-1) 0 S10)
else
some ((-1000), S7))
else
some ((-1000), S4))
else
some ((-1000), S1))
set_option maxHeartbeats 4000000 in
set_option maxRecDepth 100000 in
theorem Llp_X5_again_48 {g : it_G} {l : Launch} {κ : it_KK} {x1 : Int32} {x2 : Int32} {x3 : Int32} (hx : it_wx κ) {P : Int32 → it_SS → Prop} {k48 : (Int32 → Int32 → it_SS → Option (Int32 × it_SS))} (hk48 : ∀ (v4 : Int32) (v5 : Int32) (S : it_SS), it_ok (k48 v4 v5 S) P → it_Ev g l 7 it_m_X5_again 0 0 105 [none, none, none, some (.int x3), some (.int v4), some (.int v5), none, none] [] κ S (it_pi κ P)) : ∀ (n : Nat) (v4 : Int32) (v5 : Int32) (v6 : Int32) (S : it_SS), it_ok (lp_X5_again_48 κ x1 x2 x3 k48 n v4 v5 v6 S) P → it_Ev g l 7 it_m_X5_again 0 0 48 [some (.ref 0), some (.int x1), some (.int x2), some (.int x3), some (.int v4), some (.int v5), some (.int v6), none] [] κ S (it_pi κ P) := by
  intro n
  induction n with
  | zero =>
    intro _ _ _ _ h
    exact (it_ok_n h).elim
  | succ n48 ih48 =>
    intro v4 v5 v6 S h
    rw [lp_X5_again_48] at h
    refine ev_iload d_X5_again_48 rfl ?_
    refine ev_bipush d_X5_again_50 kv_bipush_10 ?_
    refine ev_icmp_ge (tgt := 105) d_X5_again_52 (by decide) (fun hc12 => ?_) (fun hc12 => ?_)
    · have h := it_ok_t h hc12
      refine ev_keep [false, false, false, true, true, true, false, false] ?_
      exact hk48 _ _ _ h
    · have h := it_ok_f h hc12
      refine ev_aload_n d_X5_again_55 rfl ?_
      refine ev_getRr (r := 9) rfl d_X5_again_56 fl_IcedTooSoon_28 hx.1 rfl ?_
      refine ev_iload d_X5_again_59 rfl ?_
      refine ev_callV (ci := 0) (b := 9) (M' := it_m_X0_hasGlass) (d' := 2) (As := [.int v6]) d_X5_again_61 ml_IcedTooSoon_107 ((hx).2.2.2.1).1.1 ((hx).2.2.2.1).1.2.1 ⟨_, rfl, rfl⟩ rfl rfl (Nat.le_of_ble_eq_true rfl) (by decide) (by decide) (by decide) (L_X0_hasGlass (hx.2.1) (hx).2.2.2.1 (it_ok_b h)) (fun _ _ _ _ q => by cases q.1; rfl) ?_
      rintro _ _ S13 ⟨rfl, r14, rfl, h⟩
      show it_Ev g l 7 it_m_X5_again 0 0 64 [some (.ref 0), some (.int x1), some (.int x2), some (.int x3), some (.int v4), some (.int v5), some (.int v6), none] [.int r14] κ S13 (it_pi κ P)
      refine ev_if_eq (tgt := 80) d_X5_again_64 (by decide) (fun hc15 => ?_) (fun hc15 => ?_)
      · have h := it_ok_t h hc15
        refine ev_iload d_X5_again_80 rfl ?_
        refine ev_istore d_X5_again_82 (by decide) ?_
        show it_Ev g l 7 it_m_X5_again 0 0 84 [some (.ref 0), some (.int x1), some (.int x2), some (.int x3), some (.int v4), some (.int v5), some (.int v6), some (.int v4)] [] κ S13 (it_pi κ P)
        refine ev_iload d_X5_again_84 rfl ?_
        refine ev_iload d_X5_again_86 rfl ?_
        refine ev_icmp_le (tgt := 99) d_X5_again_88 (by decide) (fun hc16 => ?_) (fun hc16 => ?_)
        · have h := it_ok_t h hc16
          refine ev_iinc d_X5_again_99 kv_iconst_1 rfl (by decide) ?_
          show it_Ev g l 7 it_m_X5_again 0 0 102 [some (.ref 0), some (.int x1), some (.int x2), some (.int x3), some (.int v4), some (.int v5), some (.int (v6 + 1)), some (.int v4)] [] κ S13 (it_pi κ P)
          refine ev_goto (tgt := 48) d_X5_again_102 (by decide) ?_
          refine ev_keep [true, true, true, true, true, true, true, false] ?_
          exact ih48 _ _ _ _ h
        · have h := it_ok_f h hc16
          refine ev_iload d_X5_again_91 rfl ?_
          refine ev_istore d_X5_again_93 (by decide) ?_
          show it_Ev g l 7 it_m_X5_again 0 0 95 [some (.ref 0), some (.int x1), some (.int x2), some (.int x3), some (.int v4), some (.int v5), some (.int v6), some (.int v4)] [] κ S13 (it_pi κ P)
          refine ev_iload d_X5_again_95 rfl ?_
          refine ev_istore d_X5_again_97 (by decide) ?_
          show it_Ev g l 7 it_m_X5_again 0 0 99 [some (.ref 0), some (.int x1), some (.int x2), some (.int x3), some (.int v4), some (.int v6), some (.int v6), some (.int v4)] [] κ S13 (it_pi κ P)
          refine ev_iinc d_X5_again_99 kv_iconst_1 rfl (by decide) ?_
          show it_Ev g l 7 it_m_X5_again 0 0 102 [some (.ref 0), some (.int x1), some (.int x2), some (.int x3), some (.int v4), some (.int v6), some (.int (v6 + 1)), some (.int v4)] [] κ S13 (it_pi κ P)
          refine ev_goto (tgt := 48) d_X5_again_102 (by decide) ?_
          refine ev_keep [true, true, true, true, true, true, true, false] ?_
          exact ih48 _ _ _ _ h
      · have h := it_ok_f h hc15
        refine ev_aload_n d_X5_again_67 rfl ?_
        refine ev_iconst d_X5_again_68 kv_iconst_1 ?_
        refine ev_iload d_X5_again_69 rfl ?_
        refine ev_ishl d_X5_again_71 ?_
        refine ev_iload_n d_X5_again_72 rfl ?_
        refine ev_iload_n d_X5_again_73 rfl ?_
        refine ev_callV (ci := 5) (b := 0) (M' := it_m_X5_moodIfIced) (d' := 6) (As := [.int (1 <<< (v6 &&& 31)), .int x1, .int x2]) d_X5_again_74 ml_IcedTooSoon_189 hx.1.1 hx.1.2.1 ⟨_, rfl, rfl⟩ rfl rfl (Nat.le_of_ble_eq_true rfl) (by decide) (by decide) (by decide) (L_X5_moodIfIced hx (it_ok_b h)) (fun _ _ _ _ q => by cases q.1; rfl) ?_
        rintro _ _ S17 ⟨rfl, r18, rfl, h⟩
        show it_Ev g l 7 it_m_X5_again 0 0 77 [some (.ref 0), some (.int x1), some (.int x2), some (.int x3), some (.int v4), some (.int v5), some (.int v6), none] [.int r18] κ S17 (it_pi κ P)
        refine ev_goto (tgt := 82) d_X5_again_77 (by decide) ?_
        refine ev_istore d_X5_again_82 (by decide) ?_
        show it_Ev g l 7 it_m_X5_again 0 0 84 [some (.ref 0), some (.int x1), some (.int x2), some (.int x3), some (.int v4), some (.int v5), some (.int v6), some (.int r18)] [] κ S17 (it_pi κ P)
        refine ev_iload d_X5_again_84 rfl ?_
        refine ev_iload d_X5_again_86 rfl ?_
        refine ev_icmp_le (tgt := 99) d_X5_again_88 (by decide) (fun hc19 => ?_) (fun hc19 => ?_)
        · have h := it_ok_t h hc19
          refine ev_iinc d_X5_again_99 kv_iconst_1 rfl (by decide) ?_
          show it_Ev g l 7 it_m_X5_again 0 0 102 [some (.ref 0), some (.int x1), some (.int x2), some (.int x3), some (.int v4), some (.int v5), some (.int (v6 + 1)), some (.int r18)] [] κ S17 (it_pi κ P)
          refine ev_goto (tgt := 48) d_X5_again_102 (by decide) ?_
          refine ev_keep [true, true, true, true, true, true, true, false] ?_
          exact ih48 _ _ _ _ h
        · have h := it_ok_f h hc19
          refine ev_iload d_X5_again_91 rfl ?_
          refine ev_istore d_X5_again_93 (by decide) ?_
          show it_Ev g l 7 it_m_X5_again 0 0 95 [some (.ref 0), some (.int x1), some (.int x2), some (.int x3), some (.int r18), some (.int v5), some (.int v6), some (.int r18)] [] κ S17 (it_pi κ P)
          refine ev_iload d_X5_again_95 rfl ?_
          refine ev_istore d_X5_again_97 (by decide) ?_
          show it_Ev g l 7 it_m_X5_again 0 0 99 [some (.ref 0), some (.int x1), some (.int x2), some (.int x3), some (.int r18), some (.int v6), some (.int v6), some (.int r18)] [] κ S17 (it_pi κ P)
          refine ev_iinc d_X5_again_99 kv_iconst_1 rfl (by decide) ?_
          show it_Ev g l 7 it_m_X5_again 0 0 102 [some (.ref 0), some (.int x1), some (.int x2), some (.int x3), some (.int r18), some (.int v6), some (.int (v6 + 1)), some (.int r18)] [] κ S17 (it_pi κ P)
          refine ev_goto (tgt := 48) d_X5_again_102 (by decide) ?_
          refine ev_keep [true, true, true, true, true, true, true, false] ?_
          exact ih48 _ _ _ _ h
set_option maxHeartbeats 4000000 in
set_option maxRecDepth 100000 in
theorem L_X5_again {g : it_G} {l : Launch} {κ : it_KK} {x1 : Int32} {x2 : Int32} {x3 : Int32} (hx : it_wx κ) {S : it_SS} {P : Int32 → it_SS → Prop} (h : it_ok (f_X5_again κ x1 x2 x3 S) P) : it_Cn g l 7 it_m_X5_again [.ref 0, .int x1, .int x2, .int x3] κ S (it_pi κ P) := by
  refine it_Cn.of (by decide +kernel) (Nat.le_of_ble_eq_true rfl) ?_
  rw [f_X5_again] at h
  show it_Ev g l 7 it_m_X5_again 0 0 0 [some (.ref 0), some (.int x1), some (.int x2), some (.int x3), none, none, none, none] [] κ S (it_pi κ P)
  refine ev_iload_n d_X5_again_0 rfl ?_
  refine ev_iconst d_X5_again_1 kv_iconst_1 ?_
  refine ev_bipush d_X5_again_2 kv_bipush_99 ?_
  refine ev_callS (M' := it_m_X5_isOutside) (d' := 1) (As := [.int x1, .int 1, .int 99]) d_X5_again_4 ml_IcedTooSoon_96 rfl rfl (Nat.le_of_ble_eq_true rfl) (by decide) (by decide) (by decide) (L_X5_isOutside  (it_ok_b h)) (fun _ _ _ _ q => by cases q.1; rfl) ?_
  rintro _ _ S1 ⟨rfl, r2, rfl, h⟩
  show it_Ev g l 7 it_m_X5_again 0 0 7 [some (.ref 0), some (.int x1), some (.int x2), some (.int x3), none, none, none, none] [.int r2] κ S1 (it_pi κ P)
  refine ev_if_ne (tgt := 29) d_X5_again_7 (by decide) (fun hc3 => ?_) (fun hc3 => ?_)
  · have h := it_ok_f h hc3
    refine ev_sipush d_X5_again_29 kv_sipush_m1000 ?_
    exact ev_ret (v := some (.int _)) ⟨d_X5_again_32, _, rfl, rfl⟩ (by decide) (by decide) ⟨rfl, _, rfl, it_ok_r h⟩
  · have h := it_ok_t h hc3
    refine ev_iload_n d_X5_again_10 rfl ?_
    refine ev_iconst d_X5_again_11 kv_iconst_1 ?_
    refine ev_bipush d_X5_again_12 kv_bipush_20 ?_
    refine ev_callS (M' := it_m_X5_isOutside) (d' := 1) (As := [.int x2, .int 1, .int 20]) d_X5_again_14 ml_IcedTooSoon_96 rfl rfl (Nat.le_of_ble_eq_true rfl) (by decide) (by decide) (by decide) (L_X5_isOutside  (it_ok_b h)) (fun _ _ _ _ q => by cases q.1; rfl) ?_
    rintro _ _ S4 ⟨rfl, r5, rfl, h⟩
    show it_Ev g l 7 it_m_X5_again 0 0 17 [some (.ref 0), some (.int x1), some (.int x2), some (.int x3), none, none, none, none] [.int r5] κ S4 (it_pi κ P)
    refine ev_if_ne (tgt := 29) d_X5_again_17 (by decide) (fun hc6 => ?_) (fun hc6 => ?_)
    · have h := it_ok_f h hc6
      refine ev_sipush d_X5_again_29 kv_sipush_m1000 ?_
      exact ev_ret (v := some (.int _)) ⟨d_X5_again_32, _, rfl, rfl⟩ (by decide) (by decide) ⟨rfl, _, rfl, it_ok_r h⟩
    · have h := it_ok_t h hc6
      refine ev_iload_n d_X5_again_20 rfl ?_
      refine ev_iconst d_X5_again_21 kv_iconst_0 ?_
      refine ev_iconst d_X5_again_22 kv_iconst_1 ?_
      refine ev_callS (M' := it_m_X5_isOutside) (d' := 1) (As := [.int x3, .int 0, .int 1]) d_X5_again_23 ml_IcedTooSoon_96 rfl rfl (Nat.le_of_ble_eq_true rfl) (by decide) (by decide) (by decide) (L_X5_isOutside  (it_ok_b h)) (fun _ _ _ _ q => by cases q.1; rfl) ?_
      rintro _ _ S7 ⟨rfl, r8, rfl, h⟩
      show it_Ev g l 7 it_m_X5_again 0 0 26 [some (.ref 0), some (.int x1), some (.int x2), some (.int x3), none, none, none, none] [.int r8] κ S7 (it_pi κ P)
      refine ev_if_eq (tgt := 33) d_X5_again_26 (by decide) (fun hc9 => ?_) (fun hc9 => ?_)
      · have h := it_ok_t h hc9
        refine ev_aload_n d_X5_again_33 rfl ?_
        refine ev_iconst d_X5_again_34 kv_iconst_0 ?_
        refine ev_iload_n d_X5_again_35 rfl ?_
        refine ev_iload_n d_X5_again_36 rfl ?_
        refine ev_callV (ci := 5) (b := 0) (M' := it_m_X5_moodIfIced) (d' := 6) (As := [.int 0, .int x1, .int x2]) d_X5_again_37 ml_IcedTooSoon_189 hx.1.1 hx.1.2.1 ⟨_, rfl, rfl⟩ rfl rfl (Nat.le_of_ble_eq_true rfl) (by decide) (by decide) (by decide) (L_X5_moodIfIced hx (it_ok_b h)) (fun _ _ _ _ q => by cases q.1; rfl) ?_
        rintro _ _ S10 ⟨rfl, r11, rfl, h⟩
        show it_Ev g l 7 it_m_X5_again 0 0 40 [some (.ref 0), some (.int x1), some (.int x2), some (.int x3), none, none, none, none] [.int r11] κ S10 (it_pi κ P)
        refine ev_istore d_X5_again_40 (by decide) ?_
        show it_Ev g l 7 it_m_X5_again 0 0 42 [some (.ref 0), some (.int x1), some (.int x2), some (.int x3), some (.int r11), none, none, none] [] κ S10 (it_pi κ P)
        refine ev_iconst d_X5_again_42 kv_iconst_m1 ?_
        refine ev_istore d_X5_again_43 (by decide) ?_
        show it_Ev g l 7 it_m_X5_again 0 0 45 [some (.ref 0), some (.int x1), some (.int x2), some (.int x3), some (.int r11), some (.int (-1)), none, none] [] κ S10 (it_pi κ P)
        refine ev_iconst d_X5_again_45 kv_iconst_0 ?_
        refine ev_istore d_X5_again_46 (by decide) ?_
        show it_Ev g l 7 it_m_X5_again 0 0 48 [some (.ref 0), some (.int x1), some (.int x2), some (.int x3), some (.int r11), some (.int (-1)), some (.int 0), none] [] κ S10 (it_pi κ P)
        refine ev_keep [true, true, true, true, true, true, true, false] ?_
        refine Llp_X5_again_48 hx (fun v20 v21 S22 h => ?_) _ _ _ _ _ h
        show it_Ev g l 7 it_m_X5_again 0 0 105 [none, none, none, some (.int x3), some (.int v20), some (.int v21), none, none] [] κ S22 (it_pi κ P)
        refine ev_iload_n d_X5_again_105 rfl ?_
        refine ev_if_ne (tgt := 114) d_X5_again_106 (by decide) (fun hc23 => ?_) (fun hc23 => ?_)
        · have h := it_ok_f h hc23
          refine ev_iload d_X5_again_114 rfl ?_
          exact ev_ret (v := some (.int _)) ⟨d_X5_again_116, _, rfl, rfl⟩ (by decide) (by decide) ⟨rfl, _, rfl, it_ok_r h⟩
        · have h := it_ok_t h hc23
          refine ev_iload d_X5_again_109 rfl ?_
          refine ev_goto (tgt := 116) d_X5_again_111 (by decide) ?_
          exact ev_ret (v := some (.int _)) ⟨d_X5_again_116, _, rfl, rfl⟩ (by decide) (by decide) ⟨rfl, _, rfl, it_ok_r h⟩
      · have h := it_ok_f h hc9
        refine ev_sipush d_X5_again_29 kv_sipush_m1000 ?_
        exact ev_ret (v := some (.int _)) ⟨d_X5_again_32, _, rfl, rfl⟩ (by decide) (by decide) ⟨rfl, _, rfl, it_ok_r h⟩
theorem d_X5_moodIfSpilt_0 : decode prog_1_method_52_code 0 = .ok (.aload_n 0, 1) := by decide +kernel
theorem d_X5_moodIfSpilt_1 : decode prog_1_method_52_code 1 = .ok (.invokevirtual 180, 3) := by decide +kernel
theorem d_X5_moodIfSpilt_4 : decode prog_1_method_52_code 4 = .ok (.aload_n 0, 1) := by decide +kernel
theorem d_X5_moodIfSpilt_5 : decode prog_1_method_52_code 5 = .ok (.getfield 32, 3) := by decide +kernel
theorem d_X5_moodIfSpilt_8 : decode prog_1_method_52_code 8 = .ok (.iload_n 1, 1) := by decide +kernel
theorem d_X5_moodIfSpilt_9 : decode prog_1_method_52_code 9 = .ok (.invokevirtual 107, 3) := by decide +kernel
theorem d_X5_moodIfSpilt_12 : decode prog_1_method_52_code 12 = .ok (.ifCond .eq 11, 3) := by decide +kernel
theorem d_X5_moodIfSpilt_15 : decode prog_1_method_52_code 15 = .ok (.aload_n 0, 1) := by decide +kernel
theorem d_X5_moodIfSpilt_16 : decode prog_1_method_52_code 16 = .ok (.getfield 32, 3) := by decide +kernel
theorem d_X5_moodIfSpilt_19 : decode prog_1_method_52_code 19 = .ok (.iload_n 1, 1) := by decide +kernel
theorem d_X5_moodIfSpilt_20 : decode prog_1_method_52_code 20 = .ok (.invokevirtual 173, 3) := by decide +kernel
theorem d_X5_moodIfSpilt_23 : decode prog_1_method_52_code 23 = .ok (.iconst 0, 1) := by decide +kernel
theorem d_X5_moodIfSpilt_24 : decode prog_1_method_52_code 24 = .ok (.istore_n 3, 1) := by decide +kernel
theorem d_X5_moodIfSpilt_25 : decode prog_1_method_52_code 25 = .ok (.iload_n 3, 1) := by decide +kernel
theorem d_X5_moodIfSpilt_26 : decode prog_1_method_52_code 26 = .ok (.iload_n 2, 1) := by decide +kernel
theorem d_X5_moodIfSpilt_27 : decode prog_1_method_52_code 27 = .ok (.if_icmp .ge 17, 3) := by decide +kernel
theorem d_X5_moodIfSpilt_30 : decode prog_1_method_52_code 30 = .ok (.aload_n 0, 1) := by decide +kernel
theorem d_X5_moodIfSpilt_31 : decode prog_1_method_52_code 31 = .ok (.getfield 32, 3) := by decide +kernel
theorem d_X5_moodIfSpilt_34 : decode prog_1_method_52_code 34 = .ok (.invokevirtual 166, 3) := by decide +kernel
theorem d_X5_moodIfSpilt_37 : decode prog_1_method_52_code 37 = .ok (.pop, 1) := by decide +kernel
theorem d_X5_moodIfSpilt_38 : decode prog_1_method_52_code 38 = .ok (.iinc 3 1, 3) := by decide +kernel
theorem d_X5_moodIfSpilt_41 : decode prog_1_method_52_code 41 = .ok (.goto (-16), 3) := by decide +kernel
theorem d_X5_moodIfSpilt_44 : decode prog_1_method_52_code 44 = .ok (.aload_n 0, 1) := by decide +kernel
theorem d_X5_moodIfSpilt_45 : decode prog_1_method_52_code 45 = .ok (.getfield 32, 3) := by decide +kernel
theorem d_X5_moodIfSpilt_48 : decode prog_1_method_52_code 48 = .ok (.invokevirtual 183, 3) := by decide +kernel
theorem d_X5_moodIfSpilt_51 : decode prog_1_method_52_code 51 = .ok (.ireturn, 1) := by decide +kernel
def lp_X5_moodIfSpilt_25 (κ : it_KK) (x1 : Int32) (x2 : Int32) (k25 : (it_SS → Option (Int32 × it_SS))) : Nat → Int32 → it_SS → Option (Int32 × it_SS)
  | 0, _, _ => none
  | n25 + 1, v3, S => if x2 ≤ v3 then
k25  S
else
it_bi (f_X0_passDay κ 17 S) (fun r8 S7 =>
lp_X5_moodIfSpilt_25 κ x1 x2 k25 n25 (v3 + 1) S7)
def f_X5_moodIfSpilt (κ : it_KK) (x1 : Int32) (x2 : Int32) (S : it_SS) : Option (Int32 × it_SS) :=
it_bi (f_X5_think κ  S) (fun _ S1 =>
it_bi (f_X0_hasGlass κ 17 x1 S1) (fun r4 S3 =>
if r4 = 0 then
lp_X5_moodIfSpilt_25 κ x1 x2 (fun  S9 =>
it_bi (f_X0_moodOfAll κ 17 S9) (fun r11 S10 =>
some (r11, S10))) it_FU 0 S3
else
it_bi (f_X0_take κ 17 x1 S3) (fun _ S12 =>
lp_X5_moodIfSpilt_25 κ x1 x2 (fun  S14 =>
it_bi (f_X0_moodOfAll κ 17 S14) (fun r16 S15 =>
some (r16, S15))) it_FU 0 S12)))
set_option maxHeartbeats 4000000 in
set_option maxRecDepth 100000 in
theorem Llp_X5_moodIfSpilt_25 {g : it_G} {l : Launch} {κ : it_KK} {x1 : Int32} {x2 : Int32} (hx : it_wx κ) {P : Int32 → it_SS → Prop} {k25 : (it_SS → Option (Int32 × it_SS))} (hk25 : ∀  (S : it_SS), it_ok (k25  S) P → it_Ev g l 6 it_m_X5_moodIfSpilt 0 0 44 [some (.ref 0), none, none, none] [] κ S (it_pi κ P)) : ∀ (n : Nat) (v3 : Int32) (S : it_SS), it_ok (lp_X5_moodIfSpilt_25 κ x1 x2 k25 n v3 S) P → it_Ev g l 6 it_m_X5_moodIfSpilt 0 0 25 [some (.ref 0), none, some (.int x2), some (.int v3)] [] κ S (it_pi κ P) := by
  intro n
  induction n with
  | zero =>
    intro _ _ h
    exact (it_ok_n h).elim
  | succ n25 ih25 =>
    intro v3 S h
    rw [lp_X5_moodIfSpilt_25] at h
    refine ev_iload_n d_X5_moodIfSpilt_25 rfl ?_
    refine ev_iload_n d_X5_moodIfSpilt_26 rfl ?_
    refine ev_icmp_ge (tgt := 44) d_X5_moodIfSpilt_27 (by decide) (fun hc6 => ?_) (fun hc6 => ?_)
    · have h := it_ok_t h hc6
      refine ev_keep [true, false, false, false] ?_
      exact hk25  _ h
    · have h := it_ok_f h hc6
      refine ev_aload_n d_X5_moodIfSpilt_30 rfl ?_
      refine ev_getRr (r := 17) rfl d_X5_moodIfSpilt_31 fl_IcedTooSoon_32 hx.1 rfl ?_
      refine ev_callV (ci := 0) (b := 17) (M' := it_m_X0_passDay) (d' := 5) (As := []) d_X5_moodIfSpilt_34 ml_IcedTooSoon_166 ((hx).2.2.2.2.1).1.1 ((hx).2.2.2.2.1).1.2.1 ⟨_, rfl, rfl⟩ rfl rfl (Nat.le_of_ble_eq_true rfl) (by decide) (by decide) (by decide) (L_X0_passDay (hx.2.1) (hx).2.2.2.2.1 (it_ok_b h)) (fun _ _ _ _ q => by cases q.1; rfl) ?_
      rintro _ _ S7 ⟨rfl, r8, rfl, h⟩
      show it_Ev g l 6 it_m_X5_moodIfSpilt 0 0 37 [some (.ref 0), none, some (.int x2), some (.int v3)] [.int r8] κ S7 (it_pi κ P)
      refine ev_pop d_X5_moodIfSpilt_37 rfl ?_
      refine ev_iinc d_X5_moodIfSpilt_38 kv_iconst_1 rfl (by decide) ?_
      show it_Ev g l 6 it_m_X5_moodIfSpilt 0 0 41 [some (.ref 0), none, some (.int x2), some (.int (v3 + 1))] [] κ S7 (it_pi κ P)
      refine ev_goto (tgt := 25) d_X5_moodIfSpilt_41 (by decide) ?_
      refine ev_keep [true, false, true, true] ?_
      exact ih25 _ _ h
set_option maxHeartbeats 4000000 in
set_option maxRecDepth 100000 in
theorem L_X5_moodIfSpilt {g : it_G} {l : Launch} {κ : it_KK} {x1 : Int32} {x2 : Int32} (hx : it_wx κ) {S : it_SS} {P : Int32 → it_SS → Prop} (h : it_ok (f_X5_moodIfSpilt κ x1 x2 S) P) : it_Cn g l 6 it_m_X5_moodIfSpilt [.ref 0, .int x1, .int x2] κ S (it_pi κ P) := by
  refine it_Cn.of (by decide +kernel) (Nat.le_of_ble_eq_true rfl) ?_
  rw [f_X5_moodIfSpilt] at h
  show it_Ev g l 6 it_m_X5_moodIfSpilt 0 0 0 [some (.ref 0), some (.int x1), some (.int x2), none] [] κ S (it_pi κ P)
  refine ev_aload_n d_X5_moodIfSpilt_0 rfl ?_
  refine ev_callV (ci := 5) (b := 0) (M' := it_m_X5_think) (d' := 3) (As := []) d_X5_moodIfSpilt_1 ml_IcedTooSoon_180 hx.1.1 hx.1.2.1 ⟨_, rfl, rfl⟩ rfl rfl (Nat.le_of_ble_eq_true rfl) (by decide) (by decide) (by decide) (L_X5_think hx (it_ok_b h)) (fun _ _ _ _ q => by cases q.1; rfl) ?_
  rintro _ _ S1 ⟨rfl, rfl, h⟩
  show it_Ev g l 6 it_m_X5_moodIfSpilt 0 0 4 [some (.ref 0), some (.int x1), some (.int x2), none] [] κ S1 (it_pi κ P)
  refine ev_aload_n d_X5_moodIfSpilt_4 rfl ?_
  refine ev_getRr (r := 17) rfl d_X5_moodIfSpilt_5 fl_IcedTooSoon_32 hx.1 rfl ?_
  refine ev_iload_n d_X5_moodIfSpilt_8 rfl ?_
  refine ev_callV (ci := 0) (b := 17) (M' := it_m_X0_hasGlass) (d' := 2) (As := [.int x1]) d_X5_moodIfSpilt_9 ml_IcedTooSoon_107 ((hx).2.2.2.2.1).1.1 ((hx).2.2.2.2.1).1.2.1 ⟨_, rfl, rfl⟩ rfl rfl (Nat.le_of_ble_eq_true rfl) (by decide) (by decide) (by decide) (L_X0_hasGlass (hx.2.1) (hx).2.2.2.2.1 (it_ok_b h)) (fun _ _ _ _ q => by cases q.1; rfl) ?_
  rintro _ _ S3 ⟨rfl, r4, rfl, h⟩
  show it_Ev g l 6 it_m_X5_moodIfSpilt 0 0 12 [some (.ref 0), some (.int x1), some (.int x2), none] [.int r4] κ S3 (it_pi κ P)
  refine ev_if_eq (tgt := 23) d_X5_moodIfSpilt_12 (by decide) (fun hc5 => ?_) (fun hc5 => ?_)
  · have h := it_ok_t h hc5
    refine ev_iconst d_X5_moodIfSpilt_23 kv_iconst_0 ?_
    refine ev_istore_n d_X5_moodIfSpilt_24 (by decide) ?_
    show it_Ev g l 6 it_m_X5_moodIfSpilt 0 0 25 [some (.ref 0), some (.int x1), some (.int x2), some (.int 0)] [] κ S3 (it_pi κ P)
    refine ev_keep [true, false, true, true] ?_
    refine Llp_X5_moodIfSpilt_25 hx (fun  S9 h => ?_) _ _ _ h
    show it_Ev g l 6 it_m_X5_moodIfSpilt 0 0 44 [some (.ref 0), none, none, none] [] κ S9 (it_pi κ P)
    refine ev_aload_n d_X5_moodIfSpilt_44 rfl ?_
    refine ev_getRr (r := 17) rfl d_X5_moodIfSpilt_45 fl_IcedTooSoon_32 hx.1 rfl ?_
    refine ev_callV (ci := 0) (b := 17) (M' := it_m_X0_moodOfAll) (d' := 1) (As := []) d_X5_moodIfSpilt_48 ml_IcedTooSoon_183 ((hx).2.2.2.2.1).1.1 ((hx).2.2.2.2.1).1.2.1 ⟨_, rfl, rfl⟩ rfl rfl (Nat.le_of_ble_eq_true rfl) (by decide) (by decide) (by decide) (L_X0_moodOfAll (hx.2.1) (hx).2.2.2.2.1 (it_ok_b h)) (fun _ _ _ _ q => by cases q.1; rfl) ?_
    rintro _ _ S10 ⟨rfl, r11, rfl, h⟩
    show it_Ev g l 6 it_m_X5_moodIfSpilt 0 0 51 [some (.ref 0), none, none, none] [.int r11] κ S10 (it_pi κ P)
    exact ev_ret (v := some (.int _)) ⟨d_X5_moodIfSpilt_51, _, rfl, rfl⟩ (by decide) (by decide) ⟨rfl, _, rfl, it_ok_r h⟩
  · have h := it_ok_f h hc5
    refine ev_aload_n d_X5_moodIfSpilt_15 rfl ?_
    refine ev_getRr (r := 17) rfl d_X5_moodIfSpilt_16 fl_IcedTooSoon_32 hx.1 rfl ?_
    refine ev_iload_n d_X5_moodIfSpilt_19 rfl ?_
    refine ev_callV (ci := 0) (b := 17) (M' := it_m_X0_take) (d' := 1) (As := [.int x1]) d_X5_moodIfSpilt_20 ml_IcedTooSoon_173 ((hx).2.2.2.2.1).1.1 ((hx).2.2.2.2.1).1.2.1 ⟨_, rfl, rfl⟩ rfl rfl (Nat.le_of_ble_eq_true rfl) (by decide) (by decide) (by decide) (L_X0_take (hx.2.1) (hx).2.2.2.2.1 (it_ok_b h)) (fun _ _ _ _ q => by cases q.1; rfl) ?_
    rintro _ _ S12 ⟨rfl, rfl, h⟩
    show it_Ev g l 6 it_m_X5_moodIfSpilt 0 0 23 [some (.ref 0), some (.int x1), some (.int x2), none] [] κ S12 (it_pi κ P)
    refine ev_iconst d_X5_moodIfSpilt_23 kv_iconst_0 ?_
    refine ev_istore_n d_X5_moodIfSpilt_24 (by decide) ?_
    show it_Ev g l 6 it_m_X5_moodIfSpilt 0 0 25 [some (.ref 0), some (.int x1), some (.int x2), some (.int 0)] [] κ S12 (it_pi κ P)
    refine ev_keep [true, false, true, true] ?_
    refine Llp_X5_moodIfSpilt_25 hx (fun  S14 h => ?_) _ _ _ h
    show it_Ev g l 6 it_m_X5_moodIfSpilt 0 0 44 [some (.ref 0), none, none, none] [] κ S14 (it_pi κ P)
    refine ev_aload_n d_X5_moodIfSpilt_44 rfl ?_
    refine ev_getRr (r := 17) rfl d_X5_moodIfSpilt_45 fl_IcedTooSoon_32 hx.1 rfl ?_
    refine ev_callV (ci := 0) (b := 17) (M' := it_m_X0_moodOfAll) (d' := 1) (As := []) d_X5_moodIfSpilt_48 ml_IcedTooSoon_183 ((hx).2.2.2.2.1).1.1 ((hx).2.2.2.2.1).1.2.1 ⟨_, rfl, rfl⟩ rfl rfl (Nat.le_of_ble_eq_true rfl) (by decide) (by decide) (by decide) (L_X0_moodOfAll (hx.2.1) (hx).2.2.2.2.1 (it_ok_b h)) (fun _ _ _ _ q => by cases q.1; rfl) ?_
    rintro _ _ S15 ⟨rfl, r16, rfl, h⟩
    show it_Ev g l 6 it_m_X5_moodIfSpilt 0 0 51 [some (.ref 0), none, none, none] [.int r16] κ S15 (it_pi κ P)
    exact ev_ret (v := some (.int _)) ⟨d_X5_moodIfSpilt_51, _, rfl, rfl⟩ (by decide) (by decide) ⟨rfl, _, rfl, it_ok_r h⟩
theorem d_X5_spilt_0 : decode prog_1_method_21_code 0 = .ok (.iload_n 1, 1) := by decide +kernel
theorem d_X5_spilt_1 : decode prog_1_method_21_code 1 = .ok (.iconst 1, 1) := by decide +kernel
theorem d_X5_spilt_2 : decode prog_1_method_21_code 2 = .ok (.bipush 20, 2) := by decide +kernel
theorem d_X5_spilt_4 : decode prog_1_method_21_code 4 = .ok (.invokestatic 96, 3) := by decide +kernel
theorem d_X5_spilt_7 : decode prog_1_method_21_code 7 = .ok (.ifCond .ne 12, 3) := by decide +kernel
theorem d_X5_spilt_10 : decode prog_1_method_21_code 10 = .ok (.iload_n 2, 1) := by decide +kernel
theorem d_X5_spilt_11 : decode prog_1_method_21_code 11 = .ok (.iconst 0, 1) := by decide +kernel
theorem d_X5_spilt_12 : decode prog_1_method_21_code 12 = .ok (.iconst 1, 1) := by decide +kernel
theorem d_X5_spilt_13 : decode prog_1_method_21_code 13 = .ok (.invokestatic 96, 3) := by decide +kernel
theorem d_X5_spilt_16 : decode prog_1_method_21_code 16 = .ok (.ifCond .eq 7, 3) := by decide +kernel
theorem d_X5_spilt_19 : decode prog_1_method_21_code 19 = .ok (.sipush (-1000), 3) := by decide +kernel
theorem d_X5_spilt_22 : decode prog_1_method_21_code 22 = .ok (.ireturn, 1) := by decide +kernel
theorem d_X5_spilt_23 : decode prog_1_method_21_code 23 = .ok (.aload_n 0, 1) := by decide +kernel
theorem d_X5_spilt_24 : decode prog_1_method_21_code 24 = .ok (.iconst (-1), 1) := by decide +kernel
theorem d_X5_spilt_25 : decode prog_1_method_21_code 25 = .ok (.iload_n 1, 1) := by decide +kernel
theorem d_X5_spilt_26 : decode prog_1_method_21_code 26 = .ok (.invokevirtual 192, 3) := by decide +kernel
theorem d_X5_spilt_29 : decode prog_1_method_21_code 29 = .ok (.istore_n 3, 1) := by decide +kernel
theorem d_X5_spilt_30 : decode prog_1_method_21_code 30 = .ok (.iconst (-1), 1) := by decide +kernel
theorem d_X5_spilt_31 : decode prog_1_method_21_code 31 = .ok (.istore 4, 2) := by decide +kernel
theorem d_X5_spilt_33 : decode prog_1_method_21_code 33 = .ok (.iconst 0, 1) := by decide +kernel
theorem d_X5_spilt_34 : decode prog_1_method_21_code 34 = .ok (.istore 5, 2) := by decide +kernel
theorem d_X5_spilt_36 : decode prog_1_method_21_code 36 = .ok (.iload 5, 2) := by decide +kernel
theorem d_X5_spilt_38 : decode prog_1_method_21_code 38 = .ok (.bipush 10, 2) := by decide +kernel
theorem d_X5_spilt_40 : decode prog_1_method_21_code 40 = .ok (.if_icmp .ge 47, 3) := by decide +kernel
theorem d_X5_spilt_43 : decode prog_1_method_21_code 43 = .ok (.aload_n 0, 1) := by decide +kernel
theorem d_X5_spilt_44 : decode prog_1_method_21_code 44 = .ok (.getfield 28, 3) := by decide +kernel
theorem d_X5_spilt_47 : decode prog_1_method_21_code 47 = .ok (.iload 5, 2) := by decide +kernel
theorem d_X5_spilt_49 : decode prog_1_method_21_code 49 = .ok (.invokevirtual 107, 3) := by decide +kernel
theorem d_X5_spilt_52 : decode prog_1_method_21_code 52 = .ok (.ifCond .eq 13, 3) := by decide +kernel
theorem d_X5_spilt_55 : decode prog_1_method_21_code 55 = .ok (.aload_n 0, 1) := by decide +kernel
theorem d_X5_spilt_56 : decode prog_1_method_21_code 56 = .ok (.iload 5, 2) := by decide +kernel
theorem d_X5_spilt_58 : decode prog_1_method_21_code 58 = .ok (.iload_n 1, 1) := by decide +kernel
theorem d_X5_spilt_59 : decode prog_1_method_21_code 59 = .ok (.invokevirtual 192, 3) := by decide +kernel
theorem d_X5_spilt_62 : decode prog_1_method_21_code 62 = .ok (.goto 4, 3) := by decide +kernel
theorem d_X5_spilt_65 : decode prog_1_method_21_code 65 = .ok (.iload_n 3, 1) := by decide +kernel
theorem d_X5_spilt_66 : decode prog_1_method_21_code 66 = .ok (.istore 6, 2) := by decide +kernel
theorem d_X5_spilt_68 : decode prog_1_method_21_code 68 = .ok (.iload 6, 2) := by decide +kernel
theorem d_X5_spilt_70 : decode prog_1_method_21_code 70 = .ok (.iload_n 3, 1) := by decide +kernel
theorem d_X5_spilt_71 : decode prog_1_method_21_code 71 = .ok (.if_icmp .le 10, 3) := by decide +kernel
theorem d_X5_spilt_74 : decode prog_1_method_21_code 74 = .ok (.iload 6, 2) := by decide +kernel
theorem d_X5_spilt_76 : decode prog_1_method_21_code 76 = .ok (.istore_n 3, 1) := by decide +kernel
theorem d_X5_spilt_77 : decode prog_1_method_21_code 77 = .ok (.iload 5, 2) := by decide +kernel
theorem d_X5_spilt_79 : decode prog_1_method_21_code 79 = .ok (.istore 4, 2) := by decide +kernel
theorem d_X5_spilt_81 : decode prog_1_method_21_code 81 = .ok (.iinc 5 1, 3) := by decide +kernel
theorem d_X5_spilt_84 : decode prog_1_method_21_code 84 = .ok (.goto (-48), 3) := by decide +kernel
theorem d_X5_spilt_87 : decode prog_1_method_21_code 87 = .ok (.iload_n 2, 1) := by decide +kernel
theorem d_X5_spilt_88 : decode prog_1_method_21_code 88 = .ok (.ifCond .ne 8, 3) := by decide +kernel
theorem d_X5_spilt_91 : decode prog_1_method_21_code 91 = .ok (.iload 4, 2) := by decide +kernel
theorem d_X5_spilt_93 : decode prog_1_method_21_code 93 = .ok (.goto 4, 3) := by decide +kernel
theorem d_X5_spilt_96 : decode prog_1_method_21_code 96 = .ok (.iload_n 3, 1) := by decide +kernel
theorem d_X5_spilt_97 : decode prog_1_method_21_code 97 = .ok (.ireturn, 1) := by decide +kernel
def lp_X5_spilt_36 (κ : it_KK) (x1 : Int32) (x2 : Int32) (k36 : (Int32 → Int32 → it_SS → Option (Int32 × it_SS))) : Nat → Int32 → Int32 → Int32 → it_SS → Option (Int32 × it_SS)
  | 0, _, _, _, _ => none
  | n36 + 1, v3, v4, v5, S => if 10 ≤ v5 then
k36 v3 v4 S
else
it_bi (f_X0_hasGlass κ 9 v5 S) (fun r11 S10 =>
if r11 = 0 then
if v3 ≤ v3 then
lp_X5_spilt_36 κ x1 x2 k36 n36 v3 v4 (v5 + 1) S10
else
lp_X5_spilt_36 κ x1 x2 k36 n36 v3 v5 (v5 + 1) S10
else
it_bi (f_X5_moodIfSpilt κ v5 x1 S10) (fun r15 S14 =>
if r15 ≤ v3 then
lp_X5_spilt_36 κ x1 x2 k36 n36 v3 v4 (v5 + 1) S14
else
lp_X5_spilt_36 κ x1 x2 k36 n36 r15 v5 (v5 + 1) S14))
def f_X5_spilt (κ : it_KK) (x1 : Int32) (x2 : Int32) (S : it_SS) : Option (Int32 × it_SS) :=
it_bi (f_X5_isOutside κ x1 1 20 S) (fun r2 S1 =>
if r2 = 0 then
it_bi (f_X5_isOutside κ x2 0 1 S1) (fun r5 S4 =>
if r5 = 0 then
it_bi (f_X5_moodIfSpilt κ (-1) x1 S4) (fun r8 S7 =>
lp_X5_spilt_36 κ x1 x2 (fun v17 v18 S19 =>
if x2 = 0 then
some (v18, S19)
else
some (v17, S19)) it_FU r8 (-1) 0 S7)
else
some ((-1000), S4))
else
some ((-1000), S1))
set_option maxHeartbeats 4000000 in
set_option maxRecDepth 100000 in
theorem Llp_X5_spilt_36 {g : it_G} {l : Launch} {κ : it_KK} {x1 : Int32} {x2 : Int32} (hx : it_wx κ) {P : Int32 → it_SS → Prop} {k36 : (Int32 → Int32 → it_SS → Option (Int32 × it_SS))} (hk36 : ∀ (v3 : Int32) (v4 : Int32) (S : it_SS), it_ok (k36 v3 v4 S) P → it_Ev g l 7 it_m_X5_spilt 0 0 87 [none, none, some (.int x2), some (.int v3), some (.int v4), none, none] [] κ S (it_pi κ P)) : ∀ (n : Nat) (v3 : Int32) (v4 : Int32) (v5 : Int32) (S : it_SS), it_ok (lp_X5_spilt_36 κ x1 x2 k36 n v3 v4 v5 S) P → it_Ev g l 7 it_m_X5_spilt 0 0 36 [some (.ref 0), some (.int x1), some (.int x2), some (.int v3), some (.int v4), some (.int v5), none] [] κ S (it_pi κ P) := by
  intro n
  induction n with
  | zero =>
    intro _ _ _ _ h
    exact (it_ok_n h).elim
  | succ n36 ih36 =>
    intro v3 v4 v5 S h
    rw [lp_X5_spilt_36] at h
    refine ev_iload d_X5_spilt_36 rfl ?_
    refine ev_bipush d_X5_spilt_38 kv_bipush_10 ?_
    refine ev_icmp_ge (tgt := 87) d_X5_spilt_40 (by decide) (fun hc9 => ?_) (fun hc9 => ?_)
    · have h := it_ok_t h hc9
      refine ev_keep [false, false, true, true, true, false, false] ?_
      exact hk36 _ _ _ h
    · have h := it_ok_f h hc9
      refine ev_aload_n d_X5_spilt_43 rfl ?_
      refine ev_getRr (r := 9) rfl d_X5_spilt_44 fl_IcedTooSoon_28 hx.1 rfl ?_
      refine ev_iload d_X5_spilt_47 rfl ?_
      refine ev_callV (ci := 0) (b := 9) (M' := it_m_X0_hasGlass) (d' := 2) (As := [.int v5]) d_X5_spilt_49 ml_IcedTooSoon_107 ((hx).2.2.2.1).1.1 ((hx).2.2.2.1).1.2.1 ⟨_, rfl, rfl⟩ rfl rfl (Nat.le_of_ble_eq_true rfl) (by decide) (by decide) (by decide) (L_X0_hasGlass (hx.2.1) (hx).2.2.2.1 (it_ok_b h)) (fun _ _ _ _ q => by cases q.1; rfl) ?_
      rintro _ _ S10 ⟨rfl, r11, rfl, h⟩
      show it_Ev g l 7 it_m_X5_spilt 0 0 52 [some (.ref 0), some (.int x1), some (.int x2), some (.int v3), some (.int v4), some (.int v5), none] [.int r11] κ S10 (it_pi κ P)
      refine ev_if_eq (tgt := 65) d_X5_spilt_52 (by decide) (fun hc12 => ?_) (fun hc12 => ?_)
      · have h := it_ok_t h hc12
        refine ev_iload_n d_X5_spilt_65 rfl ?_
        refine ev_istore d_X5_spilt_66 (by decide) ?_
        show it_Ev g l 7 it_m_X5_spilt 0 0 68 [some (.ref 0), some (.int x1), some (.int x2), some (.int v3), some (.int v4), some (.int v5), some (.int v3)] [] κ S10 (it_pi κ P)
        refine ev_iload d_X5_spilt_68 rfl ?_
        refine ev_iload_n d_X5_spilt_70 rfl ?_
        refine ev_icmp_le (tgt := 81) d_X5_spilt_71 (by decide) (fun hc13 => ?_) (fun hc13 => ?_)
        · have h := it_ok_t h hc13
          refine ev_iinc d_X5_spilt_81 kv_iconst_1 rfl (by decide) ?_
          show it_Ev g l 7 it_m_X5_spilt 0 0 84 [some (.ref 0), some (.int x1), some (.int x2), some (.int v3), some (.int v4), some (.int (v5 + 1)), some (.int v3)] [] κ S10 (it_pi κ P)
          refine ev_goto (tgt := 36) d_X5_spilt_84 (by decide) ?_
          refine ev_keep [true, true, true, true, true, true, false] ?_
          exact ih36 _ _ _ _ h
        · have h := it_ok_f h hc13
          refine ev_iload d_X5_spilt_74 rfl ?_
          refine ev_istore_n d_X5_spilt_76 (by decide) ?_
          show it_Ev g l 7 it_m_X5_spilt 0 0 77 [some (.ref 0), some (.int x1), some (.int x2), some (.int v3), some (.int v4), some (.int v5), some (.int v3)] [] κ S10 (it_pi κ P)
          refine ev_iload d_X5_spilt_77 rfl ?_
          refine ev_istore d_X5_spilt_79 (by decide) ?_
          show it_Ev g l 7 it_m_X5_spilt 0 0 81 [some (.ref 0), some (.int x1), some (.int x2), some (.int v3), some (.int v5), some (.int v5), some (.int v3)] [] κ S10 (it_pi κ P)
          refine ev_iinc d_X5_spilt_81 kv_iconst_1 rfl (by decide) ?_
          show it_Ev g l 7 it_m_X5_spilt 0 0 84 [some (.ref 0), some (.int x1), some (.int x2), some (.int v3), some (.int v5), some (.int (v5 + 1)), some (.int v3)] [] κ S10 (it_pi κ P)
          refine ev_goto (tgt := 36) d_X5_spilt_84 (by decide) ?_
          refine ev_keep [true, true, true, true, true, true, false] ?_
          exact ih36 _ _ _ _ h
      · have h := it_ok_f h hc12
        refine ev_aload_n d_X5_spilt_55 rfl ?_
        refine ev_iload d_X5_spilt_56 rfl ?_
        refine ev_iload_n d_X5_spilt_58 rfl ?_
        refine ev_callV (ci := 5) (b := 0) (M' := it_m_X5_moodIfSpilt) (d' := 6) (As := [.int v5, .int x1]) d_X5_spilt_59 ml_IcedTooSoon_192 hx.1.1 hx.1.2.1 ⟨_, rfl, rfl⟩ rfl rfl (Nat.le_of_ble_eq_true rfl) (by decide) (by decide) (by decide) (L_X5_moodIfSpilt hx (it_ok_b h)) (fun _ _ _ _ q => by cases q.1; rfl) ?_
        rintro _ _ S14 ⟨rfl, r15, rfl, h⟩
        show it_Ev g l 7 it_m_X5_spilt 0 0 62 [some (.ref 0), some (.int x1), some (.int x2), some (.int v3), some (.int v4), some (.int v5), none] [.int r15] κ S14 (it_pi κ P)
        refine ev_goto (tgt := 66) d_X5_spilt_62 (by decide) ?_
        refine ev_istore d_X5_spilt_66 (by decide) ?_
        show it_Ev g l 7 it_m_X5_spilt 0 0 68 [some (.ref 0), some (.int x1), some (.int x2), some (.int v3), some (.int v4), some (.int v5), some (.int r15)] [] κ S14 (it_pi κ P)
        refine ev_iload d_X5_spilt_68 rfl ?_
        refine ev_iload_n d_X5_spilt_70 rfl ?_
        refine ev_icmp_le (tgt := 81) d_X5_spilt_71 (by decide) (fun hc16 => ?_) (fun hc16 => ?_)
        · have h := it_ok_t h hc16
          refine ev_iinc d_X5_spilt_81 kv_iconst_1 rfl (by decide) ?_
          show it_Ev g l 7 it_m_X5_spilt 0 0 84 [some (.ref 0), some (.int x1), some (.int x2), some (.int v3), some (.int v4), some (.int (v5 + 1)), some (.int r15)] [] κ S14 (it_pi κ P)
          refine ev_goto (tgt := 36) d_X5_spilt_84 (by decide) ?_
          refine ev_keep [true, true, true, true, true, true, false] ?_
          exact ih36 _ _ _ _ h
        · have h := it_ok_f h hc16
          refine ev_iload d_X5_spilt_74 rfl ?_
          refine ev_istore_n d_X5_spilt_76 (by decide) ?_
          show it_Ev g l 7 it_m_X5_spilt 0 0 77 [some (.ref 0), some (.int x1), some (.int x2), some (.int r15), some (.int v4), some (.int v5), some (.int r15)] [] κ S14 (it_pi κ P)
          refine ev_iload d_X5_spilt_77 rfl ?_
          refine ev_istore d_X5_spilt_79 (by decide) ?_
          show it_Ev g l 7 it_m_X5_spilt 0 0 81 [some (.ref 0), some (.int x1), some (.int x2), some (.int r15), some (.int v5), some (.int v5), some (.int r15)] [] κ S14 (it_pi κ P)
          refine ev_iinc d_X5_spilt_81 kv_iconst_1 rfl (by decide) ?_
          show it_Ev g l 7 it_m_X5_spilt 0 0 84 [some (.ref 0), some (.int x1), some (.int x2), some (.int r15), some (.int v5), some (.int (v5 + 1)), some (.int r15)] [] κ S14 (it_pi κ P)
          refine ev_goto (tgt := 36) d_X5_spilt_84 (by decide) ?_
          refine ev_keep [true, true, true, true, true, true, false] ?_
          exact ih36 _ _ _ _ h
set_option maxHeartbeats 4000000 in
set_option maxRecDepth 100000 in
theorem L_X5_spilt {g : it_G} {l : Launch} {κ : it_KK} {x1 : Int32} {x2 : Int32} (hx : it_wx κ) {S : it_SS} {P : Int32 → it_SS → Prop} (h : it_ok (f_X5_spilt κ x1 x2 S) P) : it_Cn g l 7 it_m_X5_spilt [.ref 0, .int x1, .int x2] κ S (it_pi κ P) := by
  refine it_Cn.of (by decide +kernel) (Nat.le_of_ble_eq_true rfl) ?_
  rw [f_X5_spilt] at h
  show it_Ev g l 7 it_m_X5_spilt 0 0 0 [some (.ref 0), some (.int x1), some (.int x2), none, none, none, none] [] κ S (it_pi κ P)
  refine ev_iload_n d_X5_spilt_0 rfl ?_
  refine ev_iconst d_X5_spilt_1 kv_iconst_1 ?_
  refine ev_bipush d_X5_spilt_2 kv_bipush_20 ?_
  refine ev_callS (M' := it_m_X5_isOutside) (d' := 1) (As := [.int x1, .int 1, .int 20]) d_X5_spilt_4 ml_IcedTooSoon_96 rfl rfl (Nat.le_of_ble_eq_true rfl) (by decide) (by decide) (by decide) (L_X5_isOutside  (it_ok_b h)) (fun _ _ _ _ q => by cases q.1; rfl) ?_
  rintro _ _ S1 ⟨rfl, r2, rfl, h⟩
  show it_Ev g l 7 it_m_X5_spilt 0 0 7 [some (.ref 0), some (.int x1), some (.int x2), none, none, none, none] [.int r2] κ S1 (it_pi κ P)
  refine ev_if_ne (tgt := 19) d_X5_spilt_7 (by decide) (fun hc3 => ?_) (fun hc3 => ?_)
  · have h := it_ok_f h hc3
    refine ev_sipush d_X5_spilt_19 kv_sipush_m1000 ?_
    exact ev_ret (v := some (.int _)) ⟨d_X5_spilt_22, _, rfl, rfl⟩ (by decide) (by decide) ⟨rfl, _, rfl, it_ok_r h⟩
  · have h := it_ok_t h hc3
    refine ev_iload_n d_X5_spilt_10 rfl ?_
    refine ev_iconst d_X5_spilt_11 kv_iconst_0 ?_
    refine ev_iconst d_X5_spilt_12 kv_iconst_1 ?_
    refine ev_callS (M' := it_m_X5_isOutside) (d' := 1) (As := [.int x2, .int 0, .int 1]) d_X5_spilt_13 ml_IcedTooSoon_96 rfl rfl (Nat.le_of_ble_eq_true rfl) (by decide) (by decide) (by decide) (L_X5_isOutside  (it_ok_b h)) (fun _ _ _ _ q => by cases q.1; rfl) ?_
    rintro _ _ S4 ⟨rfl, r5, rfl, h⟩
    show it_Ev g l 7 it_m_X5_spilt 0 0 16 [some (.ref 0), some (.int x1), some (.int x2), none, none, none, none] [.int r5] κ S4 (it_pi κ P)
    refine ev_if_eq (tgt := 23) d_X5_spilt_16 (by decide) (fun hc6 => ?_) (fun hc6 => ?_)
    · have h := it_ok_t h hc6
      refine ev_aload_n d_X5_spilt_23 rfl ?_
      refine ev_iconst d_X5_spilt_24 kv_iconst_m1 ?_
      refine ev_iload_n d_X5_spilt_25 rfl ?_
      refine ev_callV (ci := 5) (b := 0) (M' := it_m_X5_moodIfSpilt) (d' := 6) (As := [.int (-1), .int x1]) d_X5_spilt_26 ml_IcedTooSoon_192 hx.1.1 hx.1.2.1 ⟨_, rfl, rfl⟩ rfl rfl (Nat.le_of_ble_eq_true rfl) (by decide) (by decide) (by decide) (L_X5_moodIfSpilt hx (it_ok_b h)) (fun _ _ _ _ q => by cases q.1; rfl) ?_
      rintro _ _ S7 ⟨rfl, r8, rfl, h⟩
      show it_Ev g l 7 it_m_X5_spilt 0 0 29 [some (.ref 0), some (.int x1), some (.int x2), none, none, none, none] [.int r8] κ S7 (it_pi κ P)
      refine ev_istore_n d_X5_spilt_29 (by decide) ?_
      show it_Ev g l 7 it_m_X5_spilt 0 0 30 [some (.ref 0), some (.int x1), some (.int x2), some (.int r8), none, none, none] [] κ S7 (it_pi κ P)
      refine ev_iconst d_X5_spilt_30 kv_iconst_m1 ?_
      refine ev_istore d_X5_spilt_31 (by decide) ?_
      show it_Ev g l 7 it_m_X5_spilt 0 0 33 [some (.ref 0), some (.int x1), some (.int x2), some (.int r8), some (.int (-1)), none, none] [] κ S7 (it_pi κ P)
      refine ev_iconst d_X5_spilt_33 kv_iconst_0 ?_
      refine ev_istore d_X5_spilt_34 (by decide) ?_
      show it_Ev g l 7 it_m_X5_spilt 0 0 36 [some (.ref 0), some (.int x1), some (.int x2), some (.int r8), some (.int (-1)), some (.int 0), none] [] κ S7 (it_pi κ P)
      refine ev_keep [true, true, true, true, true, true, false] ?_
      refine Llp_X5_spilt_36 hx (fun v17 v18 S19 h => ?_) _ _ _ _ _ h
      show it_Ev g l 7 it_m_X5_spilt 0 0 87 [none, none, some (.int x2), some (.int v17), some (.int v18), none, none] [] κ S19 (it_pi κ P)
      refine ev_iload_n d_X5_spilt_87 rfl ?_
      refine ev_if_ne (tgt := 96) d_X5_spilt_88 (by decide) (fun hc20 => ?_) (fun hc20 => ?_)
      · have h := it_ok_f h hc20
        refine ev_iload_n d_X5_spilt_96 rfl ?_
        exact ev_ret (v := some (.int _)) ⟨d_X5_spilt_97, _, rfl, rfl⟩ (by decide) (by decide) ⟨rfl, _, rfl, it_ok_r h⟩
      · have h := it_ok_t h hc20
        refine ev_iload d_X5_spilt_91 rfl ?_
        refine ev_goto (tgt := 97) d_X5_spilt_93 (by decide) ?_
        exact ev_ret (v := some (.int _)) ⟨d_X5_spilt_97, _, rfl, rfl⟩ (by decide) (by decide) ⟨rfl, _, rfl, it_ok_r h⟩
    · have h := it_ok_f h hc6
      refine ev_sipush d_X5_spilt_19 kv_sipush_m1000 ?_
      exact ev_ret (v := some (.int _)) ⟨d_X5_spilt_22, _, rfl, rfl⟩ (by decide) (by decide) ⟨rfl, _, rfl, it_ok_r h⟩
theorem d_X5_roundOf_0 : decode prog_1_method_51_code 0 = .ok (.aload_n 0, 1) := by decide +kernel
theorem d_X5_roundOf_1 : decode prog_1_method_51_code 1 = .ok (.getfield 28, 3) := by decide +kernel
theorem d_X5_roundOf_4 : decode prog_1_method_51_code 4 = .ok (.iload_n 1, 1) := by decide +kernel
theorem d_X5_roundOf_5 : decode prog_1_method_51_code 5 = .ok (.invokevirtual 141, 3) := by decide +kernel
theorem d_X5_roundOf_8 : decode prog_1_method_51_code 8 = .ok (.istore 4, 2) := by decide +kernel
theorem d_X5_roundOf_10 : decode prog_1_method_51_code 10 = .ok (.iconst 0, 1) := by decide +kernel
theorem d_X5_roundOf_11 : decode prog_1_method_51_code 11 = .ok (.istore 5, 2) := by decide +kernel
theorem d_X5_roundOf_13 : decode prog_1_method_51_code 13 = .ok (.aload_n 0, 1) := by decide +kernel
theorem d_X5_roundOf_14 : decode prog_1_method_51_code 14 = .ok (.iconst 0, 1) := by decide +kernel
theorem d_X5_roundOf_15 : decode prog_1_method_51_code 15 = .ok (.iload_n 2, 1) := by decide +kernel
theorem d_X5_roundOf_16 : decode prog_1_method_51_code 16 = .ok (.iload_n 3, 1) := by decide +kernel
theorem d_X5_roundOf_17 : decode prog_1_method_51_code 17 = .ok (.invokevirtual 189, 3) := by decide +kernel
theorem d_X5_roundOf_20 : decode prog_1_method_51_code 20 = .ok (.istore 6, 2) := by decide +kernel
theorem d_X5_roundOf_22 : decode prog_1_method_51_code 22 = .ok (.iconst 1, 1) := by decide +kernel
theorem d_X5_roundOf_23 : decode prog_1_method_51_code 23 = .ok (.istore 7, 2) := by decide +kernel
theorem d_X5_roundOf_25 : decode prog_1_method_51_code 25 = .ok (.iload 7, 2) := by decide +kernel
theorem d_X5_roundOf_27 : decode prog_1_method_51_code 27 = .ok (.iload 4, 2) := by decide +kernel
theorem d_X5_roundOf_29 : decode prog_1_method_51_code 29 = .ok (.if_icmp .gt 61, 3) := by decide +kernel
theorem d_X5_roundOf_32 : decode prog_1_method_51_code 32 = .ok (.iload 7, 2) := by decide +kernel
theorem d_X5_roundOf_34 : decode prog_1_method_51_code 34 = .ok (.iload 4, 2) := by decide +kernel
theorem d_X5_roundOf_36 : decode prog_1_method_51_code 36 = .ok (.iand, 1) := by decide +kernel
theorem d_X5_roundOf_37 : decode prog_1_method_51_code 37 = .ok (.iload 7, 2) := by decide +kernel
theorem d_X5_roundOf_39 : decode prog_1_method_51_code 39 = .ok (.if_icmp .ne 45, 3) := by decide +kernel
theorem d_X5_roundOf_42 : decode prog_1_method_51_code 42 = .ok (.aload_n 0, 1) := by decide +kernel
theorem d_X5_roundOf_43 : decode prog_1_method_51_code 43 = .ok (.iload 7, 2) := by decide +kernel
theorem d_X5_roundOf_45 : decode prog_1_method_51_code 45 = .ok (.iload_n 2, 1) := by decide +kernel
theorem d_X5_roundOf_46 : decode prog_1_method_51_code 46 = .ok (.iload_n 3, 1) := by decide +kernel
theorem d_X5_roundOf_47 : decode prog_1_method_51_code 47 = .ok (.invokevirtual 189, 3) := by decide +kernel
theorem d_X5_roundOf_50 : decode prog_1_method_51_code 50 = .ok (.istore 8, 2) := by decide +kernel
theorem d_X5_roundOf_52 : decode prog_1_method_51_code 52 = .ok (.iload 8, 2) := by decide +kernel
theorem d_X5_roundOf_54 : decode prog_1_method_51_code 54 = .ok (.iload 6, 2) := by decide +kernel
theorem d_X5_roundOf_56 : decode prog_1_method_51_code 56 = .ok (.if_icmp .gt 20, 3) := by decide +kernel
theorem d_X5_roundOf_59 : decode prog_1_method_51_code 59 = .ok (.iload 8, 2) := by decide +kernel
theorem d_X5_roundOf_61 : decode prog_1_method_51_code 61 = .ok (.iload 6, 2) := by decide +kernel
theorem d_X5_roundOf_63 : decode prog_1_method_51_code 63 = .ok (.if_icmp .ne 21, 3) := by decide +kernel
theorem d_X5_roundOf_66 : decode prog_1_method_51_code 66 = .ok (.iload 7, 2) := by decide +kernel
theorem d_X5_roundOf_68 : decode prog_1_method_51_code 68 = .ok (.iload 5, 2) := by decide +kernel
theorem d_X5_roundOf_70 : decode prog_1_method_51_code 70 = .ok (.invokestatic 278, 3) := by decide +kernel
theorem d_X5_roundOf_73 : decode prog_1_method_51_code 73 = .ok (.ifCond .eq 11, 3) := by decide +kernel
theorem d_X5_roundOf_76 : decode prog_1_method_51_code 76 = .ok (.iload 8, 2) := by decide +kernel
theorem d_X5_roundOf_78 : decode prog_1_method_51_code 78 = .ok (.istore 6, 2) := by decide +kernel
theorem d_X5_roundOf_80 : decode prog_1_method_51_code 80 = .ok (.iload 7, 2) := by decide +kernel
theorem d_X5_roundOf_82 : decode prog_1_method_51_code 82 = .ok (.istore 5, 2) := by decide +kernel
theorem d_X5_roundOf_84 : decode prog_1_method_51_code 84 = .ok (.iinc 7 1, 3) := by decide +kernel
theorem d_X5_roundOf_87 : decode prog_1_method_51_code 87 = .ok (.goto (-62), 3) := by decide +kernel
theorem d_X5_roundOf_90 : decode prog_1_method_51_code 90 = .ok (.iload 5, 2) := by decide +kernel
theorem d_X5_roundOf_92 : decode prog_1_method_51_code 92 = .ok (.ireturn, 1) := by decide +kernel
def lp_X5_roundOf_25 (κ : it_KK) (x1 : Int32) (x2 : Int32) (x3 : Int32) (k25 : (Int32 → it_SS → Option (Int32 × it_SS))) : Nat → Int32 → Int32 → Int32 → Int32 → it_SS → Option (Int32 × it_SS)
  | 0, _, _, _, _, _ => none
  | n25 + 1, v4, v5, v6, v7, S => if v4 < v7 then
k25 v5 S
else
if (v7 &&& v4) = v7 then
it_bi (f_X5_moodIfIced κ v7 x2 x3 S) (fun r8 S7 =>
if v6 < r8 then
lp_X5_roundOf_25 κ x1 x2 x3 k25 n25 v4 v7 r8 (v7 + 1) S7
else
if r8 = v6 then
it_bi (f_X5_isAhead κ v7 v5 S7) (fun r12 S11 =>
if r12 = 0 then
lp_X5_roundOf_25 κ x1 x2 x3 k25 n25 v4 v5 v6 (v7 + 1) S11
else
lp_X5_roundOf_25 κ x1 x2 x3 k25 n25 v4 v7 r8 (v7 + 1) S11)
else
lp_X5_roundOf_25 κ x1 x2 x3 k25 n25 v4 v5 v6 (v7 + 1) S7)
else
lp_X5_roundOf_25 κ x1 x2 x3 k25 n25 v4 v5 v6 (v7 + 1) S
def f_X5_roundOf (κ : it_KK) (x1 : Int32) (x2 : Int32) (x3 : Int32) (S : it_SS) : Option (Int32 × it_SS) :=
it_bi (f_X0_glassesOf κ 9 x1 S) (fun r2 S1 =>
it_bi (f_X5_moodIfIced κ 0 x2 x3 S1) (fun r4 S3 =>
lp_X5_roundOf_25 κ x1 x2 x3 (fun v14 S15 =>
some (v14, S15)) it_FU r2 0 r4 1 S3))
set_option maxHeartbeats 4000000 in
set_option maxRecDepth 100000 in
theorem Llp_X5_roundOf_25 {g : it_G} {l : Launch} {κ : it_KK} {x1 : Int32} {x2 : Int32} {x3 : Int32} (hx : it_wx κ) {P : Int32 → it_SS → Prop} {k25 : (Int32 → it_SS → Option (Int32 × it_SS))} (hk25 : ∀ (v5 : Int32) (S : it_SS), it_ok (k25 v5 S) P → it_Ev g l 7 it_m_X5_roundOf 0 0 90 [none, none, none, none, none, some (.int v5), none, none, none] [] κ S (it_pi κ P)) : ∀ (n : Nat) (v4 : Int32) (v5 : Int32) (v6 : Int32) (v7 : Int32) (S : it_SS), it_ok (lp_X5_roundOf_25 κ x1 x2 x3 k25 n v4 v5 v6 v7 S) P → it_Ev g l 7 it_m_X5_roundOf 0 0 25 [some (.ref 0), none, some (.int x2), some (.int x3), some (.int v4), some (.int v5), some (.int v6), some (.int v7), none] [] κ S (it_pi κ P) := by
  intro n
  induction n with
  | zero =>
    intro _ _ _ _ _ h
    exact (it_ok_n h).elim
  | succ n25 ih25 =>
    intro v4 v5 v6 v7 S h
    rw [lp_X5_roundOf_25] at h
    refine ev_iload d_X5_roundOf_25 rfl ?_
    refine ev_iload d_X5_roundOf_27 rfl ?_
    refine ev_icmp_gt (tgt := 90) d_X5_roundOf_29 (by decide) (fun hc5 => ?_) (fun hc5 => ?_)
    · have h := it_ok_t h hc5
      refine ev_keep [false, false, false, false, false, true, false, false, false] ?_
      exact hk25 _ _ h
    · have h := it_ok_f h hc5
      refine ev_iload d_X5_roundOf_32 rfl ?_
      refine ev_iload d_X5_roundOf_34 rfl ?_
      refine ev_iand d_X5_roundOf_36 ?_
      refine ev_iload d_X5_roundOf_37 rfl ?_
      refine ev_icmp_ne (tgt := 84) d_X5_roundOf_39 (by decide) (fun hc6 => ?_) (fun hc6 => ?_)
      · have h := it_ok_f h hc6
        refine ev_iinc d_X5_roundOf_84 kv_iconst_1 rfl (by decide) ?_
        show it_Ev g l 7 it_m_X5_roundOf 0 0 87 [some (.ref 0), none, some (.int x2), some (.int x3), some (.int v4), some (.int v5), some (.int v6), some (.int (v7 + 1)), none] [] κ S (it_pi κ P)
        refine ev_goto (tgt := 25) d_X5_roundOf_87 (by decide) ?_
        refine ev_keep [true, false, true, true, true, true, true, true, false] ?_
        exact ih25 _ _ _ _ _ h
      · have h := it_ok_t h hc6
        refine ev_aload_n d_X5_roundOf_42 rfl ?_
        refine ev_iload d_X5_roundOf_43 rfl ?_
        refine ev_iload_n d_X5_roundOf_45 rfl ?_
        refine ev_iload_n d_X5_roundOf_46 rfl ?_
        refine ev_callV (ci := 5) (b := 0) (M' := it_m_X5_moodIfIced) (d' := 6) (As := [.int v7, .int x2, .int x3]) d_X5_roundOf_47 ml_IcedTooSoon_189 hx.1.1 hx.1.2.1 ⟨_, rfl, rfl⟩ rfl rfl (Nat.le_of_ble_eq_true rfl) (by decide) (by decide) (by decide) (L_X5_moodIfIced hx (it_ok_b h)) (fun _ _ _ _ q => by cases q.1; rfl) ?_
        rintro _ _ S7 ⟨rfl, r8, rfl, h⟩
        show it_Ev g l 7 it_m_X5_roundOf 0 0 50 [some (.ref 0), none, some (.int x2), some (.int x3), some (.int v4), some (.int v5), some (.int v6), some (.int v7), none] [.int r8] κ S7 (it_pi κ P)
        refine ev_istore d_X5_roundOf_50 (by decide) ?_
        show it_Ev g l 7 it_m_X5_roundOf 0 0 52 [some (.ref 0), none, some (.int x2), some (.int x3), some (.int v4), some (.int v5), some (.int v6), some (.int v7), some (.int r8)] [] κ S7 (it_pi κ P)
        refine ev_iload d_X5_roundOf_52 rfl ?_
        refine ev_iload d_X5_roundOf_54 rfl ?_
        refine ev_icmp_gt (tgt := 76) d_X5_roundOf_56 (by decide) (fun hc9 => ?_) (fun hc9 => ?_)
        · have h := it_ok_t h hc9
          refine ev_iload d_X5_roundOf_76 rfl ?_
          refine ev_istore d_X5_roundOf_78 (by decide) ?_
          show it_Ev g l 7 it_m_X5_roundOf 0 0 80 [some (.ref 0), none, some (.int x2), some (.int x3), some (.int v4), some (.int v5), some (.int r8), some (.int v7), some (.int r8)] [] κ S7 (it_pi κ P)
          refine ev_iload d_X5_roundOf_80 rfl ?_
          refine ev_istore d_X5_roundOf_82 (by decide) ?_
          show it_Ev g l 7 it_m_X5_roundOf 0 0 84 [some (.ref 0), none, some (.int x2), some (.int x3), some (.int v4), some (.int v7), some (.int r8), some (.int v7), some (.int r8)] [] κ S7 (it_pi κ P)
          refine ev_iinc d_X5_roundOf_84 kv_iconst_1 rfl (by decide) ?_
          show it_Ev g l 7 it_m_X5_roundOf 0 0 87 [some (.ref 0), none, some (.int x2), some (.int x3), some (.int v4), some (.int v7), some (.int r8), some (.int (v7 + 1)), some (.int r8)] [] κ S7 (it_pi κ P)
          refine ev_goto (tgt := 25) d_X5_roundOf_87 (by decide) ?_
          refine ev_keep [true, false, true, true, true, true, true, true, false] ?_
          exact ih25 _ _ _ _ _ h
        · have h := it_ok_f h hc9
          refine ev_iload d_X5_roundOf_59 rfl ?_
          refine ev_iload d_X5_roundOf_61 rfl ?_
          refine ev_icmp_ne (tgt := 84) d_X5_roundOf_63 (by decide) (fun hc10 => ?_) (fun hc10 => ?_)
          · have h := it_ok_f h hc10
            refine ev_iinc d_X5_roundOf_84 kv_iconst_1 rfl (by decide) ?_
            show it_Ev g l 7 it_m_X5_roundOf 0 0 87 [some (.ref 0), none, some (.int x2), some (.int x3), some (.int v4), some (.int v5), some (.int v6), some (.int (v7 + 1)), some (.int r8)] [] κ S7 (it_pi κ P)
            refine ev_goto (tgt := 25) d_X5_roundOf_87 (by decide) ?_
            refine ev_keep [true, false, true, true, true, true, true, true, false] ?_
            exact ih25 _ _ _ _ _ h
          · have h := it_ok_t h hc10
            refine ev_iload d_X5_roundOf_66 rfl ?_
            refine ev_iload d_X5_roundOf_68 rfl ?_
            refine ev_callS (M' := it_m_X5_isAhead) (d' := 2) (As := [.int v7, .int v5]) d_X5_roundOf_70 ml_IcedTooSoon_278 rfl rfl (Nat.le_of_ble_eq_true rfl) (by decide) (by decide) (by decide) (L_X5_isAhead  (it_ok_b h)) (fun _ _ _ _ q => by cases q.1; rfl) ?_
            rintro _ _ S11 ⟨rfl, r12, rfl, h⟩
            show it_Ev g l 7 it_m_X5_roundOf 0 0 73 [some (.ref 0), none, some (.int x2), some (.int x3), some (.int v4), some (.int v5), some (.int v6), some (.int v7), some (.int r8)] [.int r12] κ S11 (it_pi κ P)
            refine ev_if_eq (tgt := 84) d_X5_roundOf_73 (by decide) (fun hc13 => ?_) (fun hc13 => ?_)
            · have h := it_ok_t h hc13
              refine ev_iinc d_X5_roundOf_84 kv_iconst_1 rfl (by decide) ?_
              show it_Ev g l 7 it_m_X5_roundOf 0 0 87 [some (.ref 0), none, some (.int x2), some (.int x3), some (.int v4), some (.int v5), some (.int v6), some (.int (v7 + 1)), some (.int r8)] [] κ S11 (it_pi κ P)
              refine ev_goto (tgt := 25) d_X5_roundOf_87 (by decide) ?_
              refine ev_keep [true, false, true, true, true, true, true, true, false] ?_
              exact ih25 _ _ _ _ _ h
            · have h := it_ok_f h hc13
              refine ev_iload d_X5_roundOf_76 rfl ?_
              refine ev_istore d_X5_roundOf_78 (by decide) ?_
              show it_Ev g l 7 it_m_X5_roundOf 0 0 80 [some (.ref 0), none, some (.int x2), some (.int x3), some (.int v4), some (.int v5), some (.int r8), some (.int v7), some (.int r8)] [] κ S11 (it_pi κ P)
              refine ev_iload d_X5_roundOf_80 rfl ?_
              refine ev_istore d_X5_roundOf_82 (by decide) ?_
              show it_Ev g l 7 it_m_X5_roundOf 0 0 84 [some (.ref 0), none, some (.int x2), some (.int x3), some (.int v4), some (.int v7), some (.int r8), some (.int v7), some (.int r8)] [] κ S11 (it_pi κ P)
              refine ev_iinc d_X5_roundOf_84 kv_iconst_1 rfl (by decide) ?_
              show it_Ev g l 7 it_m_X5_roundOf 0 0 87 [some (.ref 0), none, some (.int x2), some (.int x3), some (.int v4), some (.int v7), some (.int r8), some (.int (v7 + 1)), some (.int r8)] [] κ S11 (it_pi κ P)
              refine ev_goto (tgt := 25) d_X5_roundOf_87 (by decide) ?_
              refine ev_keep [true, false, true, true, true, true, true, true, false] ?_
              exact ih25 _ _ _ _ _ h
set_option maxHeartbeats 4000000 in
set_option maxRecDepth 100000 in
theorem L_X5_roundOf {g : it_G} {l : Launch} {κ : it_KK} {x1 : Int32} {x2 : Int32} {x3 : Int32} (hx : it_wx κ) {S : it_SS} {P : Int32 → it_SS → Prop} (h : it_ok (f_X5_roundOf κ x1 x2 x3 S) P) : it_Cn g l 7 it_m_X5_roundOf [.ref 0, .int x1, .int x2, .int x3] κ S (it_pi κ P) := by
  refine it_Cn.of (by decide +kernel) (Nat.le_of_ble_eq_true rfl) ?_
  rw [f_X5_roundOf] at h
  show it_Ev g l 7 it_m_X5_roundOf 0 0 0 [some (.ref 0), some (.int x1), some (.int x2), some (.int x3), none, none, none, none, none] [] κ S (it_pi κ P)
  refine ev_aload_n d_X5_roundOf_0 rfl ?_
  refine ev_getRr (r := 9) rfl d_X5_roundOf_1 fl_IcedTooSoon_28 hx.1 rfl ?_
  refine ev_iload_n d_X5_roundOf_4 rfl ?_
  refine ev_callV (ci := 0) (b := 9) (M' := it_m_X0_glassesOf) (d' := 3) (As := [.int x1]) d_X5_roundOf_5 ml_IcedTooSoon_141 ((hx).2.2.2.1).1.1 ((hx).2.2.2.1).1.2.1 ⟨_, rfl, rfl⟩ rfl rfl (Nat.le_of_ble_eq_true rfl) (by decide) (by decide) (by decide) (L_X0_glassesOf (hx.2.1) (hx).2.2.2.1 (it_ok_b h)) (fun _ _ _ _ q => by cases q.1; rfl) ?_
  rintro _ _ S1 ⟨rfl, r2, rfl, h⟩
  show it_Ev g l 7 it_m_X5_roundOf 0 0 8 [some (.ref 0), some (.int x1), some (.int x2), some (.int x3), none, none, none, none, none] [.int r2] κ S1 (it_pi κ P)
  refine ev_istore d_X5_roundOf_8 (by decide) ?_
  show it_Ev g l 7 it_m_X5_roundOf 0 0 10 [some (.ref 0), some (.int x1), some (.int x2), some (.int x3), some (.int r2), none, none, none, none] [] κ S1 (it_pi κ P)
  refine ev_iconst d_X5_roundOf_10 kv_iconst_0 ?_
  refine ev_istore d_X5_roundOf_11 (by decide) ?_
  show it_Ev g l 7 it_m_X5_roundOf 0 0 13 [some (.ref 0), some (.int x1), some (.int x2), some (.int x3), some (.int r2), some (.int 0), none, none, none] [] κ S1 (it_pi κ P)
  refine ev_aload_n d_X5_roundOf_13 rfl ?_
  refine ev_iconst d_X5_roundOf_14 kv_iconst_0 ?_
  refine ev_iload_n d_X5_roundOf_15 rfl ?_
  refine ev_iload_n d_X5_roundOf_16 rfl ?_
  refine ev_callV (ci := 5) (b := 0) (M' := it_m_X5_moodIfIced) (d' := 6) (As := [.int 0, .int x2, .int x3]) d_X5_roundOf_17 ml_IcedTooSoon_189 hx.1.1 hx.1.2.1 ⟨_, rfl, rfl⟩ rfl rfl (Nat.le_of_ble_eq_true rfl) (by decide) (by decide) (by decide) (L_X5_moodIfIced hx (it_ok_b h)) (fun _ _ _ _ q => by cases q.1; rfl) ?_
  rintro _ _ S3 ⟨rfl, r4, rfl, h⟩
  show it_Ev g l 7 it_m_X5_roundOf 0 0 20 [some (.ref 0), some (.int x1), some (.int x2), some (.int x3), some (.int r2), some (.int 0), none, none, none] [.int r4] κ S3 (it_pi κ P)
  refine ev_istore d_X5_roundOf_20 (by decide) ?_
  show it_Ev g l 7 it_m_X5_roundOf 0 0 22 [some (.ref 0), some (.int x1), some (.int x2), some (.int x3), some (.int r2), some (.int 0), some (.int r4), none, none] [] κ S3 (it_pi κ P)
  refine ev_iconst d_X5_roundOf_22 kv_iconst_1 ?_
  refine ev_istore d_X5_roundOf_23 (by decide) ?_
  show it_Ev g l 7 it_m_X5_roundOf 0 0 25 [some (.ref 0), some (.int x1), some (.int x2), some (.int x3), some (.int r2), some (.int 0), some (.int r4), some (.int 1), none] [] κ S3 (it_pi κ P)
  refine ev_keep [true, false, true, true, true, true, true, true, false] ?_
  refine Llp_X5_roundOf_25 hx (fun v14 S15 h => ?_) _ _ _ _ _ _ h
  show it_Ev g l 7 it_m_X5_roundOf 0 0 90 [none, none, none, none, none, some (.int v14), none, none, none] [] κ S15 (it_pi κ P)
  refine ev_iload d_X5_roundOf_90 rfl ?_
  exact ev_ret (v := some (.int _)) ⟨d_X5_roundOf_92, _, rfl, rfl⟩ (by decide) (by decide) ⟨rfl, _, rfl, it_ok_r h⟩
theorem d_X5_round_0 : decode prog_1_method_22_code 0 = .ok (.iload_n 1, 1) := by decide +kernel
theorem d_X5_round_1 : decode prog_1_method_22_code 1 = .ok (.iconst 1, 1) := by decide +kernel
theorem d_X5_round_2 : decode prog_1_method_22_code 2 = .ok (.bipush 99, 2) := by decide +kernel
theorem d_X5_round_4 : decode prog_1_method_22_code 4 = .ok (.invokestatic 96, 3) := by decide +kernel
theorem d_X5_round_7 : decode prog_1_method_22_code 7 = .ok (.ifCond .ne 22, 3) := by decide +kernel
theorem d_X5_round_10 : decode prog_1_method_22_code 10 = .ok (.iload_n 2, 1) := by decide +kernel
theorem d_X5_round_11 : decode prog_1_method_22_code 11 = .ok (.iconst 1, 1) := by decide +kernel
theorem d_X5_round_12 : decode prog_1_method_22_code 12 = .ok (.bipush 10, 2) := by decide +kernel
theorem d_X5_round_14 : decode prog_1_method_22_code 14 = .ok (.invokestatic 96, 3) := by decide +kernel
theorem d_X5_round_17 : decode prog_1_method_22_code 17 = .ok (.ifCond .ne 12, 3) := by decide +kernel
theorem d_X5_round_20 : decode prog_1_method_22_code 20 = .ok (.iload_n 3, 1) := by decide +kernel
theorem d_X5_round_21 : decode prog_1_method_22_code 21 = .ok (.iconst 0, 1) := by decide +kernel
theorem d_X5_round_22 : decode prog_1_method_22_code 22 = .ok (.iconst 1, 1) := by decide +kernel
theorem d_X5_round_23 : decode prog_1_method_22_code 23 = .ok (.invokestatic 96, 3) := by decide +kernel
theorem d_X5_round_26 : decode prog_1_method_22_code 26 = .ok (.ifCond .eq 7, 3) := by decide +kernel
theorem d_X5_round_29 : decode prog_1_method_22_code 29 = .ok (.sipush (-1000), 3) := by decide +kernel
theorem d_X5_round_32 : decode prog_1_method_22_code 32 = .ok (.ireturn, 1) := by decide +kernel
theorem d_X5_round_33 : decode prog_1_method_22_code 33 = .ok (.iconst 0, 1) := by decide +kernel
theorem d_X5_round_34 : decode prog_1_method_22_code 34 = .ok (.istore 4, 2) := by decide +kernel
theorem d_X5_round_36 : decode prog_1_method_22_code 36 = .ok (.iconst 0, 1) := by decide +kernel
theorem d_X5_round_37 : decode prog_1_method_22_code 37 = .ok (.istore 5, 2) := by decide +kernel
theorem d_X5_round_39 : decode prog_1_method_22_code 39 = .ok (.iload 5, 2) := by decide +kernel
theorem d_X5_round_41 : decode prog_1_method_22_code 41 = .ok (.aload_n 0, 1) := by decide +kernel
theorem d_X5_round_42 : decode prog_1_method_22_code 42 = .ok (.getfield 28, 3) := by decide +kernel
theorem d_X5_round_45 : decode prog_1_method_22_code 45 = .ok (.getfield 79, 3) := by decide +kernel
theorem d_X5_round_48 : decode prog_1_method_22_code 48 = .ok (.if_icmp .ge 22, 3) := by decide +kernel
theorem d_X5_round_51 : decode prog_1_method_22_code 51 = .ok (.iload 4, 2) := by decide +kernel
theorem d_X5_round_53 : decode prog_1_method_22_code 53 = .ok (.aload_n 0, 1) := by decide +kernel
theorem d_X5_round_54 : decode prog_1_method_22_code 54 = .ok (.iload 5, 2) := by decide +kernel
theorem d_X5_round_56 : decode prog_1_method_22_code 56 = .ok (.iload_n 1, 1) := by decide +kernel
theorem d_X5_round_57 : decode prog_1_method_22_code 57 = .ok (.iload_n 2, 1) := by decide +kernel
theorem d_X5_round_58 : decode prog_1_method_22_code 58 = .ok (.invokevirtual 195, 3) := by decide +kernel
theorem d_X5_round_61 : decode prog_1_method_22_code 61 = .ok (.ior, 1) := by decide +kernel
theorem d_X5_round_62 : decode prog_1_method_22_code 62 = .ok (.istore 4, 2) := by decide +kernel
theorem d_X5_round_64 : decode prog_1_method_22_code 64 = .ok (.iinc 5 1, 3) := by decide +kernel
theorem d_X5_round_67 : decode prog_1_method_22_code 67 = .ok (.goto (-28), 3) := by decide +kernel
theorem d_X5_round_70 : decode prog_1_method_22_code 70 = .ok (.iload_n 3, 1) := by decide +kernel
theorem d_X5_round_71 : decode prog_1_method_22_code 71 = .ok (.ifCond .ne 8, 3) := by decide +kernel
theorem d_X5_round_74 : decode prog_1_method_22_code 74 = .ok (.iload 4, 2) := by decide +kernel
theorem d_X5_round_76 : decode prog_1_method_22_code 76 = .ok (.goto 11, 3) := by decide +kernel
theorem d_X5_round_79 : decode prog_1_method_22_code 79 = .ok (.aload_n 0, 1) := by decide +kernel
theorem d_X5_round_80 : decode prog_1_method_22_code 80 = .ok (.iload 4, 2) := by decide +kernel
theorem d_X5_round_82 : decode prog_1_method_22_code 82 = .ok (.iload_n 1, 1) := by decide +kernel
theorem d_X5_round_83 : decode prog_1_method_22_code 83 = .ok (.iload_n 2, 1) := by decide +kernel
theorem d_X5_round_84 : decode prog_1_method_22_code 84 = .ok (.invokevirtual 189, 3) := by decide +kernel
theorem d_X5_round_87 : decode prog_1_method_22_code 87 = .ok (.ireturn, 1) := by decide +kernel
def lp_X5_round_39 (κ : it_KK) (x1 : Int32) (x2 : Int32) (x3 : Int32) (k39 : (Int32 → it_SS → Option (Int32 × it_SS))) : Nat → Int32 → Int32 → it_SS → Option (Int32 × it_SS)
  | 0, _, _, _ => none
  | n39 + 1, v4, v5, S => if (S 9 1) ≤ v5 then
k39 v4 S
else
it_bi (f_X5_roundOf κ v5 x1 x2 S) (fun r12 S11 =>
lp_X5_round_39 κ x1 x2 x3 k39 n39 (v4 ||| r12) (v5 + 1) S11)
def f_X5_round (κ : it_KK) (x1 : Int32) (x2 : Int32) (x3 : Int32) (S : it_SS) : Option (Int32 × it_SS) :=
it_bi (f_X5_isOutside κ x1 1 99 S) (fun r2 S1 =>
if r2 = 0 then
it_bi (f_X5_isOutside κ x2 1 10 S1) (fun r5 S4 =>
if r5 = 0 then
it_bi (f_X5_isOutside κ x3 0 1 S4) (fun r8 S7 =>
if r8 = 0 then
lp_X5_round_39 κ x1 x2 x3 (fun v13 S14 =>
if x3 = 0 then
some (v13, S14)
else
it_bi (f_X5_moodIfIced κ v13 x1 x2 S14) (fun r17 S16 =>
some (r17, S16))) it_FU 0 0 S7
else
some ((-1000), S7))
else
some ((-1000), S4))
else
some ((-1000), S1))
set_option maxHeartbeats 4000000 in
set_option maxRecDepth 100000 in
theorem Llp_X5_round_39 {g : it_G} {l : Launch} {κ : it_KK} {x1 : Int32} {x2 : Int32} {x3 : Int32} (hx : it_wx κ) {P : Int32 → it_SS → Prop} {k39 : (Int32 → it_SS → Option (Int32 × it_SS))} (hk39 : ∀ (v4 : Int32) (S : it_SS), it_ok (k39 v4 S) P → it_Ev g l 8 it_m_X5_round 0 0 70 [some (.ref 0), some (.int x1), some (.int x2), some (.int x3), some (.int v4), none] [] κ S (it_pi κ P)) : ∀ (n : Nat) (v4 : Int32) (v5 : Int32) (S : it_SS), it_ok (lp_X5_round_39 κ x1 x2 x3 k39 n v4 v5 S) P → it_Ev g l 8 it_m_X5_round 0 0 39 [some (.ref 0), some (.int x1), some (.int x2), some (.int x3), some (.int v4), some (.int v5)] [] κ S (it_pi κ P) := by
  intro n
  induction n with
  | zero =>
    intro _ _ _ h
    exact (it_ok_n h).elim
  | succ n39 ih39 =>
    intro v4 v5 S h
    rw [lp_X5_round_39] at h
    refine ev_iload d_X5_round_39 rfl ?_
    refine ev_aload_n d_X5_round_41 rfl ?_
    refine ev_getRr (r := 9) rfl d_X5_round_42 fl_IcedTooSoon_28 hx.1 rfl ?_
    refine ev_getI d_X5_round_45 fl_IcedTooSoon_79 ((hx).2.2.2.1).1 rfl ?_
    refine ev_icmp_ge (tgt := 70) d_X5_round_48 (by decide) (fun hc10 => ?_) (fun hc10 => ?_)
    · have h := it_ok_t h hc10
      refine ev_keep [true, true, true, true, true, false] ?_
      exact hk39 _ _ h
    · have h := it_ok_f h hc10
      refine ev_iload d_X5_round_51 rfl ?_
      refine ev_aload_n d_X5_round_53 rfl ?_
      refine ev_iload d_X5_round_54 rfl ?_
      refine ev_iload_n d_X5_round_56 rfl ?_
      refine ev_iload_n d_X5_round_57 rfl ?_
      refine ev_callV (ci := 5) (b := 0) (M' := it_m_X5_roundOf) (d' := 7) (As := [.int v5, .int x1, .int x2]) d_X5_round_58 ml_IcedTooSoon_195 hx.1.1 hx.1.2.1 ⟨_, rfl, rfl⟩ rfl rfl (Nat.le_of_ble_eq_true rfl) (by decide) (by decide) (by decide) (L_X5_roundOf hx (it_ok_b h)) (fun _ _ _ _ q => by cases q.1; rfl) ?_
      rintro _ _ S11 ⟨rfl, r12, rfl, h⟩
      show it_Ev g l 8 it_m_X5_round 0 0 61 [some (.ref 0), some (.int x1), some (.int x2), some (.int x3), some (.int v4), some (.int v5)] [.int r12, .int v4] κ S11 (it_pi κ P)
      refine ev_ior d_X5_round_61 ?_
      refine ev_istore d_X5_round_62 (by decide) ?_
      show it_Ev g l 8 it_m_X5_round 0 0 64 [some (.ref 0), some (.int x1), some (.int x2), some (.int x3), some (.int (v4 ||| r12)), some (.int v5)] [] κ S11 (it_pi κ P)
      refine ev_iinc d_X5_round_64 kv_iconst_1 rfl (by decide) ?_
      show it_Ev g l 8 it_m_X5_round 0 0 67 [some (.ref 0), some (.int x1), some (.int x2), some (.int x3), some (.int (v4 ||| r12)), some (.int (v5 + 1))] [] κ S11 (it_pi κ P)
      refine ev_goto (tgt := 39) d_X5_round_67 (by decide) ?_
      refine ev_keep [true, true, true, true, true, true] ?_
      exact ih39 _ _ _ h
set_option maxHeartbeats 4000000 in
set_option maxRecDepth 100000 in
theorem L_X5_round {g : it_G} {l : Launch} {κ : it_KK} {x1 : Int32} {x2 : Int32} {x3 : Int32} (hx : it_wx κ) {S : it_SS} {P : Int32 → it_SS → Prop} (h : it_ok (f_X5_round κ x1 x2 x3 S) P) : it_Cn g l 8 it_m_X5_round [.ref 0, .int x1, .int x2, .int x3] κ S (it_pi κ P) := by
  refine it_Cn.of (by decide +kernel) (Nat.le_of_ble_eq_true rfl) ?_
  rw [f_X5_round] at h
  show it_Ev g l 8 it_m_X5_round 0 0 0 [some (.ref 0), some (.int x1), some (.int x2), some (.int x3), none, none] [] κ S (it_pi κ P)
  refine ev_iload_n d_X5_round_0 rfl ?_
  refine ev_iconst d_X5_round_1 kv_iconst_1 ?_
  refine ev_bipush d_X5_round_2 kv_bipush_99 ?_
  refine ev_callS (M' := it_m_X5_isOutside) (d' := 1) (As := [.int x1, .int 1, .int 99]) d_X5_round_4 ml_IcedTooSoon_96 rfl rfl (Nat.le_of_ble_eq_true rfl) (by decide) (by decide) (by decide) (L_X5_isOutside  (it_ok_b h)) (fun _ _ _ _ q => by cases q.1; rfl) ?_
  rintro _ _ S1 ⟨rfl, r2, rfl, h⟩
  show it_Ev g l 8 it_m_X5_round 0 0 7 [some (.ref 0), some (.int x1), some (.int x2), some (.int x3), none, none] [.int r2] κ S1 (it_pi κ P)
  refine ev_if_ne (tgt := 29) d_X5_round_7 (by decide) (fun hc3 => ?_) (fun hc3 => ?_)
  · have h := it_ok_f h hc3
    refine ev_sipush d_X5_round_29 kv_sipush_m1000 ?_
    exact ev_ret (v := some (.int _)) ⟨d_X5_round_32, _, rfl, rfl⟩ (by decide) (by decide) ⟨rfl, _, rfl, it_ok_r h⟩
  · have h := it_ok_t h hc3
    refine ev_iload_n d_X5_round_10 rfl ?_
    refine ev_iconst d_X5_round_11 kv_iconst_1 ?_
    refine ev_bipush d_X5_round_12 kv_bipush_10 ?_
    refine ev_callS (M' := it_m_X5_isOutside) (d' := 1) (As := [.int x2, .int 1, .int 10]) d_X5_round_14 ml_IcedTooSoon_96 rfl rfl (Nat.le_of_ble_eq_true rfl) (by decide) (by decide) (by decide) (L_X5_isOutside  (it_ok_b h)) (fun _ _ _ _ q => by cases q.1; rfl) ?_
    rintro _ _ S4 ⟨rfl, r5, rfl, h⟩
    show it_Ev g l 8 it_m_X5_round 0 0 17 [some (.ref 0), some (.int x1), some (.int x2), some (.int x3), none, none] [.int r5] κ S4 (it_pi κ P)
    refine ev_if_ne (tgt := 29) d_X5_round_17 (by decide) (fun hc6 => ?_) (fun hc6 => ?_)
    · have h := it_ok_f h hc6
      refine ev_sipush d_X5_round_29 kv_sipush_m1000 ?_
      exact ev_ret (v := some (.int _)) ⟨d_X5_round_32, _, rfl, rfl⟩ (by decide) (by decide) ⟨rfl, _, rfl, it_ok_r h⟩
    · have h := it_ok_t h hc6
      refine ev_iload_n d_X5_round_20 rfl ?_
      refine ev_iconst d_X5_round_21 kv_iconst_0 ?_
      refine ev_iconst d_X5_round_22 kv_iconst_1 ?_
      refine ev_callS (M' := it_m_X5_isOutside) (d' := 1) (As := [.int x3, .int 0, .int 1]) d_X5_round_23 ml_IcedTooSoon_96 rfl rfl (Nat.le_of_ble_eq_true rfl) (by decide) (by decide) (by decide) (L_X5_isOutside  (it_ok_b h)) (fun _ _ _ _ q => by cases q.1; rfl) ?_
      rintro _ _ S7 ⟨rfl, r8, rfl, h⟩
      show it_Ev g l 8 it_m_X5_round 0 0 26 [some (.ref 0), some (.int x1), some (.int x2), some (.int x3), none, none] [.int r8] κ S7 (it_pi κ P)
      refine ev_if_eq (tgt := 33) d_X5_round_26 (by decide) (fun hc9 => ?_) (fun hc9 => ?_)
      · have h := it_ok_t h hc9
        refine ev_iconst d_X5_round_33 kv_iconst_0 ?_
        refine ev_istore d_X5_round_34 (by decide) ?_
        show it_Ev g l 8 it_m_X5_round 0 0 36 [some (.ref 0), some (.int x1), some (.int x2), some (.int x3), some (.int 0), none] [] κ S7 (it_pi κ P)
        refine ev_iconst d_X5_round_36 kv_iconst_0 ?_
        refine ev_istore d_X5_round_37 (by decide) ?_
        show it_Ev g l 8 it_m_X5_round 0 0 39 [some (.ref 0), some (.int x1), some (.int x2), some (.int x3), some (.int 0), some (.int 0)] [] κ S7 (it_pi κ P)
        refine ev_keep [true, true, true, true, true, true] ?_
        refine Llp_X5_round_39 hx (fun v13 S14 h => ?_) _ _ _ _ h
        show it_Ev g l 8 it_m_X5_round 0 0 70 [some (.ref 0), some (.int x1), some (.int x2), some (.int x3), some (.int v13), none] [] κ S14 (it_pi κ P)
        refine ev_iload_n d_X5_round_70 rfl ?_
        refine ev_if_ne (tgt := 79) d_X5_round_71 (by decide) (fun hc15 => ?_) (fun hc15 => ?_)
        · have h := it_ok_f h hc15
          refine ev_aload_n d_X5_round_79 rfl ?_
          refine ev_iload d_X5_round_80 rfl ?_
          refine ev_iload_n d_X5_round_82 rfl ?_
          refine ev_iload_n d_X5_round_83 rfl ?_
          refine ev_callV (ci := 5) (b := 0) (M' := it_m_X5_moodIfIced) (d' := 6) (As := [.int v13, .int x1, .int x2]) d_X5_round_84 ml_IcedTooSoon_189 hx.1.1 hx.1.2.1 ⟨_, rfl, rfl⟩ rfl rfl (Nat.le_of_ble_eq_true rfl) (by decide) (by decide) (by decide) (L_X5_moodIfIced hx (it_ok_b h)) (fun _ _ _ _ q => by cases q.1; rfl) ?_
          rintro _ _ S16 ⟨rfl, r17, rfl, h⟩
          show it_Ev g l 8 it_m_X5_round 0 0 87 [some (.ref 0), some (.int x1), some (.int x2), some (.int x3), some (.int v13), none] [.int r17] κ S16 (it_pi κ P)
          exact ev_ret (v := some (.int _)) ⟨d_X5_round_87, _, rfl, rfl⟩ (by decide) (by decide) ⟨rfl, _, rfl, it_ok_r h⟩
        · have h := it_ok_t h hc15
          refine ev_iload d_X5_round_74 rfl ?_
          refine ev_goto (tgt := 87) d_X5_round_76 (by decide) ?_
          exact ev_ret (v := some (.int _)) ⟨d_X5_round_87, _, rfl, rfl⟩ (by decide) (by decide) ⟨rfl, _, rfl, it_ok_r h⟩
      · have h := it_ok_f h hc9
        refine ev_sipush d_X5_round_29 kv_sipush_m1000 ?_
        exact ev_ret (v := some (.int _)) ⟨d_X5_round_32, _, rfl, rfl⟩ (by decide) (by decide) ⟨rfl, _, rfl, it_ok_r h⟩
theorem d_X5_mean_0 : decode prog_1_method_23_code 0 = .ok (.aload_n 0, 1) := by decide +kernel
theorem d_X5_mean_1 : decode prog_1_method_23_code 1 = .ok (.getfield 28, 3) := by decide +kernel
theorem d_X5_mean_4 : decode prog_1_method_23_code 4 = .ok (.invokevirtual 83, 3) := by decide +kernel
theorem d_X5_mean_7 : decode prog_1_method_23_code 7 = .ok (.istore_n 2, 1) := by decide +kernel
theorem d_X5_mean_8 : decode prog_1_method_23_code 8 = .ok (.iload_n 1, 1) := by decide +kernel
theorem d_X5_mean_9 : decode prog_1_method_23_code 9 = .ok (.iconst 0, 1) := by decide +kernel
theorem d_X5_mean_10 : decode prog_1_method_23_code 10 = .ok (.iconst 1, 1) := by decide +kernel
theorem d_X5_mean_11 : decode prog_1_method_23_code 11 = .ok (.invokestatic 96, 3) := by decide +kernel
theorem d_X5_mean_14 : decode prog_1_method_23_code 14 = .ok (.ifCond .ne 7, 3) := by decide +kernel
theorem d_X5_mean_17 : decode prog_1_method_23_code 17 = .ok (.iload_n 2, 1) := by decide +kernel
theorem d_X5_mean_18 : decode prog_1_method_23_code 18 = .ok (.ifCond .ne 7, 3) := by decide +kernel
theorem d_X5_mean_21 : decode prog_1_method_23_code 21 = .ok (.ldc2_w 198, 3) := by decide +kernel
theorem d_X5_mean_24 : decode prog_1_method_23_code 24 = .ok (.lreturn, 1) := by decide +kernel
theorem d_X5_mean_25 : decode prog_1_method_23_code 25 = .ok (.aload_n 0, 1) := by decide +kernel
theorem d_X5_mean_26 : decode prog_1_method_23_code 26 = .ok (.getfield 28, 3) := by decide +kernel
theorem d_X5_mean_29 : decode prog_1_method_23_code 29 = .ok (.invokevirtual 200, 3) := by decide +kernel
theorem d_X5_mean_32 : decode prog_1_method_23_code 32 = .ok (.iload_n 2, 1) := by decide +kernel
theorem d_X5_mean_33 : decode prog_1_method_23_code 33 = .ok (.iload_n 1, 1) := by decide +kernel
theorem d_X5_mean_34 : decode prog_1_method_23_code 34 = .ok (.invokestatic 203, 3) := by decide +kernel
theorem d_X5_mean_37 : decode prog_1_method_23_code 37 = .ok (.lreturn, 1) := by decide +kernel
def f_X5_mean (κ : it_KK) (x1 : Int32) (S : it_SS) : Option (Int64 × it_SS) :=
it_bi (f_X0_glassesThere κ 9 S) (fun r2 S1 =>
it_bi (f_X5_isOutside κ x1 0 1 S1) (fun r4 S3 =>
if r4 = 0 then
if r2 = 0 then
some ((-4611686018427387904), S3)
else
it_bi (f_X0_weightOfAll κ 9 S3) (fun r8 S7 =>
it_bi (f_X5_inLowestTerms κ r8 r2 x1 S7) (fun r10 S9 =>
some (r10, S9)))
else
some ((-4611686018427387904), S3)))
set_option maxHeartbeats 4000000 in
set_option maxRecDepth 100000 in
theorem L_X5_mean {g : it_G} {l : Launch} {κ : it_KK} {x1 : Int32} (hx : it_wx κ) {S : it_SS} {P : Int64 → it_SS → Prop} (h : it_ok (f_X5_mean κ x1 S) P) : it_Cn g l 4 it_m_X5_mean [.ref 0, .int x1] κ S (it_pl κ P) := by
  refine it_Cn.of (by decide +kernel) (Nat.le_of_ble_eq_true rfl) ?_
  rw [f_X5_mean] at h
  show it_Ev g l 4 it_m_X5_mean 0 0 0 [some (.ref 0), some (.int x1), none] [] κ S (it_pl κ P)
  refine ev_aload_n d_X5_mean_0 rfl ?_
  refine ev_getRr (r := 9) rfl d_X5_mean_1 fl_IcedTooSoon_28 hx.1 rfl ?_
  refine ev_callV (ci := 0) (b := 9) (M' := it_m_X0_glassesThere) (d' := 3) (As := []) d_X5_mean_4 ml_IcedTooSoon_83 ((hx).2.2.2.1).1.1 ((hx).2.2.2.1).1.2.1 ⟨_, rfl, rfl⟩ rfl rfl (Nat.le_of_ble_eq_true rfl) (by decide) (by decide) (by decide) (L_X0_glassesThere (hx.2.1) (hx).2.2.2.1 (it_ok_b h)) (fun _ _ _ _ q => by cases q.1; rfl) ?_
  rintro _ _ S1 ⟨rfl, r2, rfl, h⟩
  show it_Ev g l 4 it_m_X5_mean 0 0 7 [some (.ref 0), some (.int x1), none] [.int r2] κ S1 (it_pl κ P)
  refine ev_istore_n d_X5_mean_7 (by decide) ?_
  show it_Ev g l 4 it_m_X5_mean 0 0 8 [some (.ref 0), some (.int x1), some (.int r2)] [] κ S1 (it_pl κ P)
  refine ev_iload_n d_X5_mean_8 rfl ?_
  refine ev_iconst d_X5_mean_9 kv_iconst_0 ?_
  refine ev_iconst d_X5_mean_10 kv_iconst_1 ?_
  refine ev_callS (M' := it_m_X5_isOutside) (d' := 1) (As := [.int x1, .int 0, .int 1]) d_X5_mean_11 ml_IcedTooSoon_96 rfl rfl (Nat.le_of_ble_eq_true rfl) (by decide) (by decide) (by decide) (L_X5_isOutside  (it_ok_b h)) (fun _ _ _ _ q => by cases q.1; rfl) ?_
  rintro _ _ S3 ⟨rfl, r4, rfl, h⟩
  show it_Ev g l 4 it_m_X5_mean 0 0 14 [some (.ref 0), some (.int x1), some (.int r2)] [.int r4] κ S3 (it_pl κ P)
  refine ev_if_ne (tgt := 21) d_X5_mean_14 (by decide) (fun hc5 => ?_) (fun hc5 => ?_)
  · have h := it_ok_f h hc5
    refine ev_ldc2 d_X5_mean_21 kn_IcedTooSoon_198 ?_
    exact ev_ret (v := some (.long _)) ⟨d_X5_mean_24, rfl⟩ (by decide) (by decide) ⟨rfl, _, rfl, it_ok_r h⟩
  · have h := it_ok_t h hc5
    refine ev_iload_n d_X5_mean_17 rfl ?_
    refine ev_if_ne (tgt := 25) d_X5_mean_18 (by decide) (fun hc6 => ?_) (fun hc6 => ?_)
    · have h := it_ok_f h hc6
      refine ev_aload_n d_X5_mean_25 rfl ?_
      refine ev_getRr (r := 9) rfl d_X5_mean_26 fl_IcedTooSoon_28 hx.1 rfl ?_
      refine ev_callV (ci := 0) (b := 9) (M' := it_m_X0_weightOfAll) (d' := 3) (As := []) d_X5_mean_29 ml_IcedTooSoon_200 ((hx).2.2.2.1).1.1 ((hx).2.2.2.1).1.2.1 ⟨_, rfl, rfl⟩ rfl rfl (Nat.le_of_ble_eq_true rfl) (by decide) (by decide) (by decide) (L_X0_weightOfAll (hx.2.1) (hx).2.2.2.1 (it_ok_b h)) (fun _ _ _ _ q => by cases q.1; rfl) ?_
      rintro _ _ S7 ⟨rfl, r8, rfl, h⟩
      show it_Ev g l 4 it_m_X5_mean 0 0 32 [some (.ref 0), some (.int x1), some (.int r2)] [.int r8] κ S7 (it_pl κ P)
      refine ev_iload_n d_X5_mean_32 rfl ?_
      refine ev_iload_n d_X5_mean_33 rfl ?_
      refine ev_callS (M' := it_m_X5_inLowestTerms) (d' := 2) (As := [.int r8, .int r2, .int x1]) d_X5_mean_34 ml_IcedTooSoon_203 rfl rfl (Nat.le_of_ble_eq_true rfl) (by decide) (by decide) (by decide) (L_X5_inLowestTerms  (it_ok_b h)) (fun _ _ _ _ q => by cases q.1; rfl) ?_
      rintro _ _ S9 ⟨rfl, r10, rfl, h⟩
      show it_Ev g l 4 it_m_X5_mean 0 0 37 [some (.ref 0), some (.int x1), some (.int r2)] [.long r10] κ S9 (it_pl κ P)
      exact ev_ret (v := some (.long _)) ⟨d_X5_mean_37, rfl⟩ (by decide) (by decide) ⟨rfl, _, rfl, it_ok_r h⟩
    · have h := it_ok_t h hc6
      refine ev_ldc2 d_X5_mean_21 kn_IcedTooSoon_198 ?_
      exact ev_ret (v := some (.long _)) ⟨d_X5_mean_24, rfl⟩ (by decide) (by decide) ⟨rfl, _, rfl, it_ok_r h⟩
theorem d_X5_refusalOfSheet_0 : decode prog_1_method_53_code 0 = .ok (.iload_n 1, 1) := by decide +kernel
theorem d_X5_refusalOfSheet_1 : decode prog_1_method_53_code 1 = .ok (.invokestatic 219, 3) := by decide +kernel
theorem d_X5_refusalOfSheet_4 : decode prog_1_method_53_code 4 = .ok (.ifCond .eq 6, 3) := by decide +kernel
theorem d_X5_refusalOfSheet_7 : decode prog_1_method_53_code 7 = .ok (.bipush (-2), 2) := by decide +kernel
theorem d_X5_refusalOfSheet_9 : decode prog_1_method_53_code 9 = .ok (.ireturn, 1) := by decide +kernel
theorem d_X5_refusalOfSheet_10 : decode prog_1_method_53_code 10 = .ok (.aload_n 0, 1) := by decide +kernel
theorem d_X5_refusalOfSheet_11 : decode prog_1_method_53_code 11 = .ok (.getfield 44, 3) := by decide +kernel
theorem d_X5_refusalOfSheet_14 : decode prog_1_method_53_code 14 = .ok (.iload_n 1, 1) := by decide +kernel
theorem d_X5_refusalOfSheet_15 : decode prog_1_method_53_code 15 = .ok (.aaload, 1) := by decide +kernel
theorem d_X5_refusalOfSheet_16 : decode prog_1_method_53_code 16 = .ok (.getfield 236, 3) := by decide +kernel
theorem d_X5_refusalOfSheet_19 : decode prog_1_method_53_code 19 = .ok (.iconst (-1), 1) := by decide +kernel
theorem d_X5_refusalOfSheet_20 : decode prog_1_method_53_code 20 = .ok (.if_icmp .ne 6, 3) := by decide +kernel
theorem d_X5_refusalOfSheet_23 : decode prog_1_method_53_code 23 = .ok (.bipush (-11), 2) := by decide +kernel
theorem d_X5_refusalOfSheet_25 : decode prog_1_method_53_code 25 = .ok (.ireturn, 1) := by decide +kernel
theorem d_X5_refusalOfSheet_26 : decode prog_1_method_53_code 26 = .ok (.aload_n 0, 1) := by decide +kernel
theorem d_X5_refusalOfSheet_27 : decode prog_1_method_53_code 27 = .ok (.getfield 44, 3) := by decide +kernel
theorem d_X5_refusalOfSheet_30 : decode prog_1_method_53_code 30 = .ok (.iload_n 1, 1) := by decide +kernel
theorem d_X5_refusalOfSheet_31 : decode prog_1_method_53_code 31 = .ok (.aaload, 1) := by decide +kernel
theorem d_X5_refusalOfSheet_32 : decode prog_1_method_53_code 32 = .ok (.getfield 242, 3) := by decide +kernel
theorem d_X5_refusalOfSheet_35 : decode prog_1_method_53_code 35 = .ok (.bipush 20, 2) := by decide +kernel
theorem d_X5_refusalOfSheet_37 : decode prog_1_method_53_code 37 = .ok (.if_icmp .le 8, 3) := by decide +kernel
theorem d_X5_refusalOfSheet_40 : decode prog_1_method_53_code 40 = .ok (.bipush (-2), 2) := by decide +kernel
theorem d_X5_refusalOfSheet_42 : decode prog_1_method_53_code 42 = .ok (.goto 4, 3) := by decide +kernel
theorem d_X5_refusalOfSheet_45 : decode prog_1_method_53_code 45 = .ok (.iconst 0, 1) := by decide +kernel
theorem d_X5_refusalOfSheet_46 : decode prog_1_method_53_code 46 = .ok (.ireturn, 1) := by decide +kernel
def f_X5_refusalOfSheet (κ : it_KK) (x1 : Int32) (S : it_SS) : Option (Int32 × it_SS) :=
it_bi (f_X5_isNoSheet κ x1 S) (fun r2 S1 =>
if r2 = 0 then
if it_bd x1 4 = true then
if (S1 (it_el 2 (x1 : Int32).toNatClampNeg) 0) = (-1) then
some ((-11), S1)
else
if (S1 (it_el 2 (x1 : Int32).toNatClampNeg) 1) ≤ 20 then
some (0, S1)
else
some ((-2), S1)
else none
else
some ((-2), S1))
set_option maxHeartbeats 4000000 in
set_option maxRecDepth 100000 in
theorem L_X5_refusalOfSheet {g : it_G} {l : Launch} {κ : it_KK} {x1 : Int32} (hx : it_wx κ) {S : it_SS} {P : Int32 → it_SS → Prop} (h : it_ok (f_X5_refusalOfSheet κ x1 S) P) : it_Cn g l 3 it_m_X5_refusalOfSheet [.ref 0, .int x1] κ S (it_pi κ P) := by
  refine it_Cn.of (by decide +kernel) (Nat.le_of_ble_eq_true rfl) ?_
  rw [f_X5_refusalOfSheet] at h
  show it_Ev g l 3 it_m_X5_refusalOfSheet 0 0 0 [some (.ref 0), some (.int x1)] [] κ S (it_pi κ P)
  refine ev_iload_n d_X5_refusalOfSheet_0 rfl ?_
  refine ev_callS (M' := it_m_X5_isNoSheet) (d' := 2) (As := [.int x1]) d_X5_refusalOfSheet_1 ml_IcedTooSoon_219 rfl rfl (Nat.le_of_ble_eq_true rfl) (by decide) (by decide) (by decide) (L_X5_isNoSheet  (it_ok_b h)) (fun _ _ _ _ q => by cases q.1; rfl) ?_
  rintro _ _ S1 ⟨rfl, r2, rfl, h⟩
  show it_Ev g l 3 it_m_X5_refusalOfSheet 0 0 4 [some (.ref 0), some (.int x1)] [.int r2] κ S1 (it_pi κ P)
  refine ev_if_eq (tgt := 10) d_X5_refusalOfSheet_4 (by decide) (fun hc3 => ?_) (fun hc3 => ?_)
  · have h := it_ok_t h hc3
    refine ev_aload_n d_X5_refusalOfSheet_10 rfl ?_
    refine ev_getRr (r := 33) rfl d_X5_refusalOfSheet_11 fl_IcedTooSoon_44 hx.1 rfl ?_
    refine ev_iload_n d_X5_refusalOfSheet_14 rfl ?_
    obtain ⟨hb4, h⟩ := it_ok_g h
    refine ev_aald d_X5_refusalOfSheet_15 (hx).2.2.2.2.2.2.1 (it_bd_in hb4) ((hx).2.2.2.2.2.2.2.1 _ (it_bd_lt hb4)) ?_
    refine ev_getI d_X5_refusalOfSheet_16 fl_IcedTooSoon_236 ((hx).2.2.2.2.2.2.2.2 _ (it_bd_lt hb4)).1 rfl ?_
    refine ev_iconst d_X5_refusalOfSheet_19 kv_iconst_m1 ?_
    refine ev_icmp_ne (tgt := 26) d_X5_refusalOfSheet_20 (by decide) (fun hc5 => ?_) (fun hc5 => ?_)
    · have h := it_ok_f h hc5
      refine ev_aload_n d_X5_refusalOfSheet_26 rfl ?_
      refine ev_getRr (r := 33) rfl d_X5_refusalOfSheet_27 fl_IcedTooSoon_44 hx.1 rfl ?_
      refine ev_iload_n d_X5_refusalOfSheet_30 rfl ?_
      refine ev_aald d_X5_refusalOfSheet_31 (hx).2.2.2.2.2.2.1 (it_bd_in hb4) ((hx).2.2.2.2.2.2.2.1 _ (it_bd_lt hb4)) ?_
      refine ev_getI d_X5_refusalOfSheet_32 fl_IcedTooSoon_242 ((hx).2.2.2.2.2.2.2.2 _ (it_bd_lt hb4)).1 rfl ?_
      refine ev_bipush d_X5_refusalOfSheet_35 kv_bipush_20 ?_
      refine ev_icmp_le (tgt := 45) d_X5_refusalOfSheet_37 (by decide) (fun hc6 => ?_) (fun hc6 => ?_)
      · have h := it_ok_t h hc6
        refine ev_iconst d_X5_refusalOfSheet_45 kv_iconst_0 ?_
        exact ev_ret (v := some (.int _)) ⟨d_X5_refusalOfSheet_46, _, rfl, rfl⟩ (by decide) (by decide) ⟨rfl, _, rfl, it_ok_r h⟩
      · have h := it_ok_f h hc6
        refine ev_bipush d_X5_refusalOfSheet_40 kv_bipush_m2 ?_
        refine ev_goto (tgt := 46) d_X5_refusalOfSheet_42 (by decide) ?_
        exact ev_ret (v := some (.int _)) ⟨d_X5_refusalOfSheet_46, _, rfl, rfl⟩ (by decide) (by decide) ⟨rfl, _, rfl, it_ok_r h⟩
    · have h := it_ok_t h hc5
      refine ev_bipush d_X5_refusalOfSheet_23 kv_bipush_m11 ?_
      exact ev_ret (v := some (.int _)) ⟨d_X5_refusalOfSheet_25, _, rfl, rfl⟩ (by decide) (by decide) ⟨rfl, _, rfl, it_ok_r h⟩
  · have h := it_ok_f h hc3
    refine ev_bipush d_X5_refusalOfSheet_7 kv_bipush_m2 ?_
    exact ev_ret (v := some (.int _)) ⟨d_X5_refusalOfSheet_9, _, rfl, rfl⟩ (by decide) (by decide) ⟨rfl, _, rfl, it_ok_r h⟩
theorem d_X5_refusalOfDays_0 : decode prog_1_method_54_code 0 = .ok (.aload_n 0, 1) := by decide +kernel
theorem d_X5_refusalOfDays_1 : decode prog_1_method_54_code 1 = .ok (.iload_n 1, 1) := by decide +kernel
theorem d_X5_refusalOfDays_2 : decode prog_1_method_54_code 2 = .ok (.invokevirtual 216, 3) := by decide +kernel
theorem d_X5_refusalOfDays_5 : decode prog_1_method_54_code 5 = .ok (.istore_n 3, 1) := by decide +kernel
theorem d_X5_refusalOfDays_6 : decode prog_1_method_54_code 6 = .ok (.iload_n 3, 1) := by decide +kernel
theorem d_X5_refusalOfDays_7 : decode prog_1_method_54_code 7 = .ok (.ifCond .eq 5, 3) := by decide +kernel
theorem d_X5_refusalOfDays_10 : decode prog_1_method_54_code 10 = .ok (.iload_n 3, 1) := by decide +kernel
theorem d_X5_refusalOfDays_11 : decode prog_1_method_54_code 11 = .ok (.ireturn, 1) := by decide +kernel
theorem d_X5_refusalOfDays_12 : decode prog_1_method_54_code 12 = .ok (.aload_n 0, 1) := by decide +kernel
theorem d_X5_refusalOfDays_13 : decode prog_1_method_54_code 13 = .ok (.getfield 28, 3) := by decide +kernel
theorem d_X5_refusalOfDays_16 : decode prog_1_method_54_code 16 = .ok (.iload_n 2, 1) := by decide +kernel
theorem d_X5_refusalOfDays_17 : decode prog_1_method_54_code 17 = .ok (.invokevirtual 117, 3) := by decide +kernel
theorem d_X5_refusalOfDays_20 : decode prog_1_method_54_code 20 = .ok (.ifCond .eq 7, 3) := by decide +kernel
theorem d_X5_refusalOfDays_23 : decode prog_1_method_54_code 23 = .ok (.iconst 0, 1) := by decide +kernel
theorem d_X5_refusalOfDays_24 : decode prog_1_method_54_code 24 = .ok (.goto 5, 3) := by decide +kernel
theorem d_X5_refusalOfDays_27 : decode prog_1_method_54_code 27 = .ok (.bipush (-5), 2) := by decide +kernel
theorem d_X5_refusalOfDays_29 : decode prog_1_method_54_code 29 = .ok (.ireturn, 1) := by decide +kernel
def f_X5_refusalOfDays (κ : it_KK) (x1 : Int32) (x2 : Int32) (S : it_SS) : Option (Int32 × it_SS) :=
it_bi (f_X5_refusalOfSheet κ x1 S) (fun r2 S1 =>
if r2 = 0 then
it_bi (f_X0_hasGuest κ 9 x2 S1) (fun r5 S4 =>
if r5 = 0 then
some ((-5), S4)
else
some (0, S4))
else
some (r2, S1))
set_option maxHeartbeats 4000000 in
set_option maxRecDepth 100000 in
theorem L_X5_refusalOfDays {g : it_G} {l : Launch} {κ : it_KK} {x1 : Int32} {x2 : Int32} (hx : it_wx κ) {S : it_SS} {P : Int32 → it_SS → Prop} (h : it_ok (f_X5_refusalOfDays κ x1 x2 S) P) : it_Cn g l 4 it_m_X5_refusalOfDays [.ref 0, .int x1, .int x2] κ S (it_pi κ P) := by
  refine it_Cn.of (by decide +kernel) (Nat.le_of_ble_eq_true rfl) ?_
  rw [f_X5_refusalOfDays] at h
  show it_Ev g l 4 it_m_X5_refusalOfDays 0 0 0 [some (.ref 0), some (.int x1), some (.int x2), none] [] κ S (it_pi κ P)
  refine ev_aload_n d_X5_refusalOfDays_0 rfl ?_
  refine ev_iload_n d_X5_refusalOfDays_1 rfl ?_
  refine ev_callV (ci := 5) (b := 0) (M' := it_m_X5_refusalOfSheet) (d' := 3) (As := [.int x1]) d_X5_refusalOfDays_2 ml_IcedTooSoon_216 hx.1.1 hx.1.2.1 ⟨_, rfl, rfl⟩ rfl rfl (Nat.le_of_ble_eq_true rfl) (by decide) (by decide) (by decide) (L_X5_refusalOfSheet hx (it_ok_b h)) (fun _ _ _ _ q => by cases q.1; rfl) ?_
  rintro _ _ S1 ⟨rfl, r2, rfl, h⟩
  show it_Ev g l 4 it_m_X5_refusalOfDays 0 0 5 [some (.ref 0), some (.int x1), some (.int x2), none] [.int r2] κ S1 (it_pi κ P)
  refine ev_istore_n d_X5_refusalOfDays_5 (by decide) ?_
  show it_Ev g l 4 it_m_X5_refusalOfDays 0 0 6 [some (.ref 0), some (.int x1), some (.int x2), some (.int r2)] [] κ S1 (it_pi κ P)
  refine ev_iload_n d_X5_refusalOfDays_6 rfl ?_
  refine ev_if_eq (tgt := 12) d_X5_refusalOfDays_7 (by decide) (fun hc3 => ?_) (fun hc3 => ?_)
  · have h := it_ok_t h hc3
    refine ev_aload_n d_X5_refusalOfDays_12 rfl ?_
    refine ev_getRr (r := 9) rfl d_X5_refusalOfDays_13 fl_IcedTooSoon_28 hx.1 rfl ?_
    refine ev_iload_n d_X5_refusalOfDays_16 rfl ?_
    refine ev_callV (ci := 0) (b := 9) (M' := it_m_X0_hasGuest) (d' := 1) (As := [.int x2]) d_X5_refusalOfDays_17 ml_IcedTooSoon_117 ((hx).2.2.2.1).1.1 ((hx).2.2.2.1).1.2.1 ⟨_, rfl, rfl⟩ rfl rfl (Nat.le_of_ble_eq_true rfl) (by decide) (by decide) (by decide) (L_X0_hasGuest (hx.2.1) (hx).2.2.2.1 (it_ok_b h)) (fun _ _ _ _ q => by cases q.1; rfl) ?_
    rintro _ _ S4 ⟨rfl, r5, rfl, h⟩
    show it_Ev g l 4 it_m_X5_refusalOfDays 0 0 20 [some (.ref 0), some (.int x1), some (.int x2), some (.int r2)] [.int r5] κ S4 (it_pi κ P)
    refine ev_if_eq (tgt := 27) d_X5_refusalOfDays_20 (by decide) (fun hc6 => ?_) (fun hc6 => ?_)
    · have h := it_ok_t h hc6
      refine ev_bipush d_X5_refusalOfDays_27 kv_bipush_m5 ?_
      exact ev_ret (v := some (.int _)) ⟨d_X5_refusalOfDays_29, _, rfl, rfl⟩ (by decide) (by decide) ⟨rfl, _, rfl, it_ok_r h⟩
    · have h := it_ok_f h hc6
      refine ev_iconst d_X5_refusalOfDays_23 kv_iconst_0 ?_
      refine ev_goto (tgt := 29) d_X5_refusalOfDays_24 (by decide) ?_
      exact ev_ret (v := some (.int _)) ⟨d_X5_refusalOfDays_29, _, rfl, rfl⟩ (by decide) (by decide) ⟨rfl, _, rfl, it_ok_r h⟩
  · have h := it_ok_f h hc3
    refine ev_iload_n d_X5_refusalOfDays_10 rfl ?_
    exact ev_ret (v := some (.int _)) ⟨d_X5_refusalOfDays_11, _, rfl, rfl⟩ (by decide) (by decide) ⟨rfl, _, rfl, it_ok_r h⟩
theorem d_X5_firstOtherwise_0 : decode prog_1_method_55_code 0 = .ok (.aload_n 0, 1) := by decide +kernel
theorem d_X5_firstOtherwise_1 : decode prog_1_method_55_code 1 = .ok (.getfield 44, 3) := by decide +kernel
theorem d_X5_firstOtherwise_4 : decode prog_1_method_55_code 4 = .ok (.iload_n 1, 1) := by decide +kernel
theorem d_X5_firstOtherwise_5 : decode prog_1_method_55_code 5 = .ok (.aaload, 1) := by decide +kernel
theorem d_X5_firstOtherwise_6 : decode prog_1_method_55_code 6 = .ok (.astore_n 3, 1) := by decide +kernel
theorem d_X5_firstOtherwise_7 : decode prog_1_method_55_code 7 = .ok (.iconst 0, 1) := by decide +kernel
theorem d_X5_firstOtherwise_8 : decode prog_1_method_55_code 8 = .ok (.istore 4, 2) := by decide +kernel
theorem d_X5_firstOtherwise_10 : decode prog_1_method_55_code 10 = .ok (.iload 4, 2) := by decide +kernel
theorem d_X5_firstOtherwise_12 : decode prog_1_method_55_code 12 = .ok (.aload_n 3, 1) := by decide +kernel
theorem d_X5_firstOtherwise_13 : decode prog_1_method_55_code 13 = .ok (.getfield 242, 3) := by decide +kernel
theorem d_X5_firstOtherwise_16 : decode prog_1_method_55_code 16 = .ok (.if_icmp .ge 39, 3) := by decide +kernel
theorem d_X5_firstOtherwise_19 : decode prog_1_method_55_code 19 = .ok (.aload_n 0, 1) := by decide +kernel
theorem d_X5_firstOtherwise_20 : decode prog_1_method_55_code 20 = .ok (.getfield 32, 3) := by decide +kernel
theorem d_X5_firstOtherwise_23 : decode prog_1_method_55_code 23 = .ok (.invokevirtual 166, 3) := by decide +kernel
theorem d_X5_firstOtherwise_26 : decode prog_1_method_55_code 26 = .ok (.pop, 1) := by decide +kernel
theorem d_X5_firstOtherwise_27 : decode prog_1_method_55_code 27 = .ok (.aload_n 0, 1) := by decide +kernel
theorem d_X5_firstOtherwise_28 : decode prog_1_method_55_code 28 = .ok (.getfield 32, 3) := by decide +kernel
theorem d_X5_firstOtherwise_31 : decode prog_1_method_55_code 31 = .ok (.getfield 124, 3) := by decide +kernel
theorem d_X5_firstOtherwise_34 : decode prog_1_method_55_code 34 = .ok (.iload_n 2, 1) := by decide +kernel
theorem d_X5_firstOtherwise_35 : decode prog_1_method_55_code 35 = .ok (.iaload, 1) := by decide +kernel
theorem d_X5_firstOtherwise_36 : decode prog_1_method_55_code 36 = .ok (.aload_n 3, 1) := by decide +kernel
theorem d_X5_firstOtherwise_37 : decode prog_1_method_55_code 37 = .ok (.getfield 243, 3) := by decide +kernel
theorem d_X5_firstOtherwise_40 : decode prog_1_method_55_code 40 = .ok (.iload 4, 2) := by decide +kernel
theorem d_X5_firstOtherwise_42 : decode prog_1_method_55_code 42 = .ok (.iaload, 1) := by decide +kernel
theorem d_X5_firstOtherwise_43 : decode prog_1_method_55_code 43 = .ok (.if_icmp .eq 6, 3) := by decide +kernel
theorem d_X5_firstOtherwise_46 : decode prog_1_method_55_code 46 = .ok (.iload 4, 2) := by decide +kernel
theorem d_X5_firstOtherwise_48 : decode prog_1_method_55_code 48 = .ok (.ireturn, 1) := by decide +kernel
theorem d_X5_firstOtherwise_49 : decode prog_1_method_55_code 49 = .ok (.iinc 4 1, 3) := by decide +kernel
theorem d_X5_firstOtherwise_52 : decode prog_1_method_55_code 52 = .ok (.goto (-42), 3) := by decide +kernel
theorem d_X5_firstOtherwise_55 : decode prog_1_method_55_code 55 = .ok (.iconst (-1), 1) := by decide +kernel
theorem d_X5_firstOtherwise_56 : decode prog_1_method_55_code 56 = .ok (.ireturn, 1) := by decide +kernel
def lp_X5_firstOtherwise_10 (κ : it_KK) (x1 : Int32) (x2 : Int32) (k10 : (it_SS → Option (Int32 × it_SS))) : Nat → Int32 → it_SS → Option (Int32 × it_SS)
  | 0, _, _ => none
  | n10 + 1, v4, S => if (S (it_el 2 (x1 : Int32).toNatClampNeg) 1) ≤ v4 then
k10  S
else
it_bi (f_X0_passDay κ 17 S) (fun r4 S3 =>
if it_bd x2 6 = true then
if it_bd v4 40 = true then
if (S3 (17 + 3) (x2 : Int32).toNatClampNeg) = (S3 ((it_el 2 (x1 : Int32).toNatClampNeg) + 1) (v4 : Int32).toNatClampNeg) then
lp_X5_firstOtherwise_10 κ x1 x2 k10 n10 (v4 + 1) S3
else
some (v4, S3)
else none
else none)
def f_X5_firstOtherwise (κ : it_KK) (x1 : Int32) (x2 : Int32) (S : it_SS) : Option (Int32 × it_SS) :=
if it_bd x1 4 = true then
lp_X5_firstOtherwise_10 κ x1 x2 (fun  S8 =>
some ((-1), S8)) it_FU 0 S
else none
set_option maxHeartbeats 4000000 in
set_option maxRecDepth 100000 in
theorem Llp_X5_firstOtherwise_10 {g : it_G} {l : Launch} {κ : it_KK} {x1 : Int32} {x2 : Int32} (hx : it_wx κ) (q3 : it_sh κ (it_el 2 (x1 : Int32).toNatClampNeg)) (hb1 : it_bd x1 4 = true) {P : Int32 → it_SS → Prop} {k10 : (it_SS → Option (Int32 × it_SS))} (hk10 : ∀  (S : it_SS), it_ok (k10  S) P → it_Ev g l 6 it_m_X5_firstOtherwise 0 0 55 [none, none, none, none, none] [] κ S (it_pi κ P)) : ∀ (n : Nat) (v4 : Int32) (S : it_SS), it_ok (lp_X5_firstOtherwise_10 κ x1 x2 k10 n v4 S) P → it_Ev g l 6 it_m_X5_firstOtherwise 0 0 10 [some (.ref 0), none, some (.int x2), some (.ref (it_el 2 (x1 : Int32).toNatClampNeg)), some (.int v4)] [] κ S (it_pi κ P) := by
  intro n
  induction n with
  | zero =>
    intro _ _ h
    exact (it_ok_n h).elim
  | succ n10 ih10 =>
    intro v4 S h
    rw [lp_X5_firstOtherwise_10] at h
    refine ev_iload d_X5_firstOtherwise_10 rfl ?_
    refine ev_aload_n d_X5_firstOtherwise_12 rfl ?_
    refine ev_getI d_X5_firstOtherwise_13 fl_IcedTooSoon_242 (q3).1 rfl ?_
    refine ev_icmp_ge (tgt := 55) d_X5_firstOtherwise_16 (by decide) (fun hc2 => ?_) (fun hc2 => ?_)
    · have h := it_ok_t h hc2
      refine ev_keep [false, false, false, false, false] ?_
      exact hk10  _ h
    · have h := it_ok_f h hc2
      refine ev_aload_n d_X5_firstOtherwise_19 rfl ?_
      refine ev_getRr (r := 17) rfl d_X5_firstOtherwise_20 fl_IcedTooSoon_32 hx.1 rfl ?_
      refine ev_callV (ci := 0) (b := 17) (M' := it_m_X0_passDay) (d' := 5) (As := []) d_X5_firstOtherwise_23 ml_IcedTooSoon_166 ((hx).2.2.2.2.1).1.1 ((hx).2.2.2.2.1).1.2.1 ⟨_, rfl, rfl⟩ rfl rfl (Nat.le_of_ble_eq_true rfl) (by decide) (by decide) (by decide) (L_X0_passDay (hx.2.1) (hx).2.2.2.2.1 (it_ok_b h)) (fun _ _ _ _ q => by cases q.1; rfl) ?_
      rintro _ _ S3 ⟨rfl, r4, rfl, h⟩
      show it_Ev g l 6 it_m_X5_firstOtherwise 0 0 26 [some (.ref 0), none, some (.int x2), some (.ref (it_el 2 (x1 : Int32).toNatClampNeg)), some (.int v4)] [.int r4] κ S3 (it_pi κ P)
      refine ev_pop d_X5_firstOtherwise_26 rfl ?_
      refine ev_aload_n d_X5_firstOtherwise_27 rfl ?_
      refine ev_getRr (r := 17) rfl d_X5_firstOtherwise_28 fl_IcedTooSoon_32 hx.1 rfl ?_
      refine ev_getRr (r := (17 + 3)) rfl d_X5_firstOtherwise_31 fl_IcedTooSoon_124 ((hx).2.2.2.2.1).1 rfl ?_
      refine ev_iload_n d_X5_firstOtherwise_34 rfl ?_
      obtain ⟨hb5, h⟩ := it_ok_g h
      refine ev_iald d_X5_firstOtherwise_35 ((hx).2.2.2.2.1).2.2.2.1 (it_bd_in hb5) ?_
      refine ev_aload_n d_X5_firstOtherwise_36 rfl ?_
      refine ev_getRr (r := ((it_el 2 (x1 : Int32).toNatClampNeg) + 1)) rfl d_X5_firstOtherwise_37 fl_IcedTooSoon_243 (q3).1 rfl ?_
      refine ev_iload d_X5_firstOtherwise_40 rfl ?_
      obtain ⟨hb6, h⟩ := it_ok_g h
      refine ev_iald d_X5_firstOtherwise_42 (q3).2 (it_bd_in hb6) ?_
      refine ev_icmp_eq (tgt := 49) d_X5_firstOtherwise_43 (by decide) (fun hc7 => ?_) (fun hc7 => ?_)
      · have h := it_ok_t h hc7
        refine ev_iinc d_X5_firstOtherwise_49 kv_iconst_1 rfl (by decide) ?_
        show it_Ev g l 6 it_m_X5_firstOtherwise 0 0 52 [some (.ref 0), none, some (.int x2), some (.ref (it_el 2 (x1 : Int32).toNatClampNeg)), some (.int (v4 + 1))] [] κ S3 (it_pi κ P)
        refine ev_goto (tgt := 10) d_X5_firstOtherwise_52 (by decide) ?_
        refine ev_keep [true, false, true, true, true] ?_
        exact ih10 _ _ h
      · have h := it_ok_f h hc7
        refine ev_iload d_X5_firstOtherwise_46 rfl ?_
        exact ev_ret (v := some (.int _)) ⟨d_X5_firstOtherwise_48, _, rfl, rfl⟩ (by decide) (by decide) ⟨rfl, _, rfl, it_ok_r h⟩
set_option maxHeartbeats 4000000 in
set_option maxRecDepth 100000 in
theorem L_X5_firstOtherwise {g : it_G} {l : Launch} {κ : it_KK} {x1 : Int32} {x2 : Int32} (hx : it_wx κ) {S : it_SS} {P : Int32 → it_SS → Prop} (h : it_ok (f_X5_firstOtherwise κ x1 x2 S) P) : it_Cn g l 6 it_m_X5_firstOtherwise [.ref 0, .int x1, .int x2] κ S (it_pi κ P) := by
  refine it_Cn.of (by decide +kernel) (Nat.le_of_ble_eq_true rfl) ?_
  rw [f_X5_firstOtherwise] at h
  show it_Ev g l 6 it_m_X5_firstOtherwise 0 0 0 [some (.ref 0), some (.int x1), some (.int x2), none, none] [] κ S (it_pi κ P)
  refine ev_aload_n d_X5_firstOtherwise_0 rfl ?_
  refine ev_getRr (r := 33) rfl d_X5_firstOtherwise_1 fl_IcedTooSoon_44 hx.1 rfl ?_
  refine ev_iload_n d_X5_firstOtherwise_4 rfl ?_
  obtain ⟨hb1, h⟩ := it_ok_g h
  refine ev_aald d_X5_firstOtherwise_5 (hx).2.2.2.2.2.2.1 (it_bd_in hb1) ((hx).2.2.2.2.2.2.2.1 _ (it_bd_lt hb1)) ?_
  refine ev_astore_n d_X5_firstOtherwise_6 (by decide) ?_
  show it_Ev g l 6 it_m_X5_firstOtherwise 0 0 7 [some (.ref 0), some (.int x1), some (.int x2), some (.ref (it_el 2 (x1 : Int32).toNatClampNeg)), none] [] κ S (it_pi κ P)
  refine ev_iconst d_X5_firstOtherwise_7 kv_iconst_0 ?_
  refine ev_istore d_X5_firstOtherwise_8 (by decide) ?_
  show it_Ev g l 6 it_m_X5_firstOtherwise 0 0 10 [some (.ref 0), some (.int x1), some (.int x2), some (.ref (it_el 2 (x1 : Int32).toNatClampNeg)), some (.int 0)] [] κ S (it_pi κ P)
  refine ev_keep [true, false, true, true, true] ?_
  refine Llp_X5_firstOtherwise_10 hx ((hx).2.2.2.2.2.2.2.2 _ (it_bd_lt hb1)) hb1 (fun  S8 h => ?_) _ _ _ h
  show it_Ev g l 6 it_m_X5_firstOtherwise 0 0 55 [none, none, none, none, none] [] κ S8 (it_pi κ P)
  refine ev_iconst d_X5_firstOtherwise_55 kv_iconst_m1 ?_
  exact ev_ret (v := some (.int _)) ⟨d_X5_firstOtherwise_56, _, rfl, rfl⟩ (by decide) (by decide) ⟨rfl, _, rfl, it_ok_r h⟩
theorem d_X5_judge_0 : decode prog_1_method_24_code 0 = .ok (.aload_n 0, 1) := by decide +kernel
theorem d_X5_judge_1 : decode prog_1_method_24_code 1 = .ok (.iload_n 1, 1) := by decide +kernel
theorem d_X5_judge_2 : decode prog_1_method_24_code 2 = .ok (.iload_n 2, 1) := by decide +kernel
theorem d_X5_judge_3 : decode prog_1_method_24_code 3 = .ok (.invokevirtual 207, 3) := by decide +kernel
theorem d_X5_judge_6 : decode prog_1_method_24_code 6 = .ok (.istore_n 3, 1) := by decide +kernel
theorem d_X5_judge_7 : decode prog_1_method_24_code 7 = .ok (.iload_n 3, 1) := by decide +kernel
theorem d_X5_judge_8 : decode prog_1_method_24_code 8 = .ok (.ifCond .eq 5, 3) := by decide +kernel
theorem d_X5_judge_11 : decode prog_1_method_24_code 11 = .ok (.iload_n 3, 1) := by decide +kernel
theorem d_X5_judge_12 : decode prog_1_method_24_code 12 = .ok (.ireturn, 1) := by decide +kernel
theorem d_X5_judge_13 : decode prog_1_method_24_code 13 = .ok (.aload_n 0, 1) := by decide +kernel
theorem d_X5_judge_14 : decode prog_1_method_24_code 14 = .ok (.invokevirtual 180, 3) := by decide +kernel
theorem d_X5_judge_17 : decode prog_1_method_24_code 17 = .ok (.aload_n 0, 1) := by decide +kernel
theorem d_X5_judge_18 : decode prog_1_method_24_code 18 = .ok (.iload_n 1, 1) := by decide +kernel
theorem d_X5_judge_19 : decode prog_1_method_24_code 19 = .ok (.iload_n 2, 1) := by decide +kernel
theorem d_X5_judge_20 : decode prog_1_method_24_code 20 = .ok (.invokevirtual 210, 3) := by decide +kernel
theorem d_X5_judge_23 : decode prog_1_method_24_code 23 = .ok (.ireturn, 1) := by decide +kernel
def f_X5_judge (κ : it_KK) (x1 : Int32) (x2 : Int32) (S : it_SS) : Option (Int32 × it_SS) :=
it_bi (f_X5_refusalOfDays κ x1 x2 S) (fun r2 S1 =>
if r2 = 0 then
it_bi (f_X5_think κ  S1) (fun _ S4 =>
it_bi (f_X5_firstOtherwise κ x1 x2 S4) (fun r7 S6 =>
some (r7, S6)))
else
some (r2, S1))
set_option maxHeartbeats 4000000 in
set_option maxRecDepth 100000 in
theorem L_X5_judge {g : it_G} {l : Launch} {κ : it_KK} {x1 : Int32} {x2 : Int32} (hx : it_wx κ) {S : it_SS} {P : Int32 → it_SS → Prop} (h : it_ok (f_X5_judge κ x1 x2 S) P) : it_Cn g l 7 it_m_X5_judge [.ref 0, .int x1, .int x2] κ S (it_pi κ P) := by
  refine it_Cn.of (by decide +kernel) (Nat.le_of_ble_eq_true rfl) ?_
  rw [f_X5_judge] at h
  show it_Ev g l 7 it_m_X5_judge 0 0 0 [some (.ref 0), some (.int x1), some (.int x2), none] [] κ S (it_pi κ P)
  refine ev_aload_n d_X5_judge_0 rfl ?_
  refine ev_iload_n d_X5_judge_1 rfl ?_
  refine ev_iload_n d_X5_judge_2 rfl ?_
  refine ev_callV (ci := 5) (b := 0) (M' := it_m_X5_refusalOfDays) (d' := 4) (As := [.int x1, .int x2]) d_X5_judge_3 ml_IcedTooSoon_207 hx.1.1 hx.1.2.1 ⟨_, rfl, rfl⟩ rfl rfl (Nat.le_of_ble_eq_true rfl) (by decide) (by decide) (by decide) (L_X5_refusalOfDays hx (it_ok_b h)) (fun _ _ _ _ q => by cases q.1; rfl) ?_
  rintro _ _ S1 ⟨rfl, r2, rfl, h⟩
  show it_Ev g l 7 it_m_X5_judge 0 0 6 [some (.ref 0), some (.int x1), some (.int x2), none] [.int r2] κ S1 (it_pi κ P)
  refine ev_istore_n d_X5_judge_6 (by decide) ?_
  show it_Ev g l 7 it_m_X5_judge 0 0 7 [some (.ref 0), some (.int x1), some (.int x2), some (.int r2)] [] κ S1 (it_pi κ P)
  refine ev_iload_n d_X5_judge_7 rfl ?_
  refine ev_if_eq (tgt := 13) d_X5_judge_8 (by decide) (fun hc3 => ?_) (fun hc3 => ?_)
  · have h := it_ok_t h hc3
    refine ev_aload_n d_X5_judge_13 rfl ?_
    refine ev_callV (ci := 5) (b := 0) (M' := it_m_X5_think) (d' := 3) (As := []) d_X5_judge_14 ml_IcedTooSoon_180 hx.1.1 hx.1.2.1 ⟨_, rfl, rfl⟩ rfl rfl (Nat.le_of_ble_eq_true rfl) (by decide) (by decide) (by decide) (L_X5_think hx (it_ok_b h)) (fun _ _ _ _ q => by cases q.1; rfl) ?_
    rintro _ _ S4 ⟨rfl, rfl, h⟩
    show it_Ev g l 7 it_m_X5_judge 0 0 17 [some (.ref 0), some (.int x1), some (.int x2), some (.int r2)] [] κ S4 (it_pi κ P)
    refine ev_aload_n d_X5_judge_17 rfl ?_
    refine ev_iload_n d_X5_judge_18 rfl ?_
    refine ev_iload_n d_X5_judge_19 rfl ?_
    refine ev_callV (ci := 5) (b := 0) (M' := it_m_X5_firstOtherwise) (d' := 6) (As := [.int x1, .int x2]) d_X5_judge_20 ml_IcedTooSoon_210 hx.1.1 hx.1.2.1 ⟨_, rfl, rfl⟩ rfl rfl (Nat.le_of_ble_eq_true rfl) (by decide) (by decide) (by decide) (L_X5_firstOtherwise hx (it_ok_b h)) (fun _ _ _ _ q => by cases q.1; rfl) ?_
    rintro _ _ S6 ⟨rfl, r7, rfl, h⟩
    show it_Ev g l 7 it_m_X5_judge 0 0 23 [some (.ref 0), some (.int x1), some (.int x2), some (.int r2)] [.int r7] κ S6 (it_pi κ P)
    exact ev_ret (v := some (.int _)) ⟨d_X5_judge_23, _, rfl, rfl⟩ (by decide) (by decide) ⟨rfl, _, rfl, it_ok_r h⟩
  · have h := it_ok_f h hc3
    refine ev_iload_n d_X5_judge_11 rfl ?_
    exact ev_ret (v := some (.int _)) ⟨d_X5_judge_12, _, rfl, rfl⟩ (by decide) (by decide) ⟨rfl, _, rfl, it_ok_r h⟩
theorem d_X5_kinds_0 : decode prog_1_method_25_code 0 = .ok (.aload_n 0, 1) := by decide +kernel
theorem d_X5_kinds_1 : decode prog_1_method_25_code 1 = .ok (.iload_n 1, 1) := by decide +kernel
theorem d_X5_kinds_2 : decode prog_1_method_25_code 2 = .ok (.iload_n 2, 1) := by decide +kernel
theorem d_X5_kinds_3 : decode prog_1_method_25_code 3 = .ok (.invokevirtual 207, 3) := by decide +kernel
theorem d_X5_kinds_6 : decode prog_1_method_25_code 6 = .ok (.istore 4, 2) := by decide +kernel
theorem d_X5_kinds_8 : decode prog_1_method_25_code 8 = .ok (.iload 4, 2) := by decide +kernel
theorem d_X5_kinds_10 : decode prog_1_method_25_code 10 = .ok (.ifCond .eq 6, 3) := by decide +kernel
theorem d_X5_kinds_13 : decode prog_1_method_25_code 13 = .ok (.iload 4, 2) := by decide +kernel
theorem d_X5_kinds_15 : decode prog_1_method_25_code 15 = .ok (.ireturn, 1) := by decide +kernel
theorem d_X5_kinds_16 : decode prog_1_method_25_code 16 = .ok (.iload_n 3, 1) := by decide +kernel
theorem d_X5_kinds_17 : decode prog_1_method_25_code 17 = .ok (.iconst 0, 1) := by decide +kernel
theorem d_X5_kinds_18 : decode prog_1_method_25_code 18 = .ok (.iconst 1, 1) := by decide +kernel
theorem d_X5_kinds_19 : decode prog_1_method_25_code 19 = .ok (.invokestatic 96, 3) := by decide +kernel
theorem d_X5_kinds_22 : decode prog_1_method_25_code 22 = .ok (.ifCond .eq 6, 3) := by decide +kernel
theorem d_X5_kinds_25 : decode prog_1_method_25_code 25 = .ok (.bipush (-7), 2) := by decide +kernel
theorem d_X5_kinds_27 : decode prog_1_method_25_code 27 = .ok (.ireturn, 1) := by decide +kernel
theorem d_X5_kinds_28 : decode prog_1_method_25_code 28 = .ok (.iconst 0, 1) := by decide +kernel
theorem d_X5_kinds_29 : decode prog_1_method_25_code 29 = .ok (.istore 5, 2) := by decide +kernel
theorem d_X5_kinds_31 : decode prog_1_method_25_code 31 = .ok (.iconst 0, 1) := by decide +kernel
theorem d_X5_kinds_32 : decode prog_1_method_25_code 32 = .ok (.istore 6, 2) := by decide +kernel
theorem d_X5_kinds_34 : decode prog_1_method_25_code 34 = .ok (.iload 6, 2) := by decide +kernel
theorem d_X5_kinds_36 : decode prog_1_method_25_code 36 = .ok (.iload_n 3, 1) := by decide +kernel
theorem d_X5_kinds_37 : decode prog_1_method_25_code 37 = .ok (.ifCond .ne 8, 3) := by decide +kernel
theorem d_X5_kinds_40 : decode prog_1_method_25_code 40 = .ok (.bipush 6, 2) := by decide +kernel
theorem d_X5_kinds_42 : decode prog_1_method_25_code 42 = .ok (.goto 5, 3) := by decide +kernel
theorem d_X5_kinds_45 : decode prog_1_method_25_code 45 = .ok (.bipush 10, 2) := by decide +kernel
theorem d_X5_kinds_47 : decode prog_1_method_25_code 47 = .ok (.if_icmp .ge 43, 3) := by decide +kernel
theorem d_X5_kinds_50 : decode prog_1_method_25_code 50 = .ok (.aload_n 0, 1) := by decide +kernel
theorem d_X5_kinds_51 : decode prog_1_method_25_code 51 = .ok (.invokevirtual 180, 3) := by decide +kernel
theorem d_X5_kinds_54 : decode prog_1_method_25_code 54 = .ok (.aload_n 0, 1) := by decide +kernel
theorem d_X5_kinds_55 : decode prog_1_method_25_code 55 = .ok (.getfield 32, 3) := by decide +kernel
theorem d_X5_kinds_58 : decode prog_1_method_25_code 58 = .ok (.iload_n 2, 1) := by decide +kernel
theorem d_X5_kinds_59 : decode prog_1_method_25_code 59 = .ok (.iload_n 3, 1) := by decide +kernel
theorem d_X5_kinds_60 : decode prog_1_method_25_code 60 = .ok (.iload 6, 2) := by decide +kernel
theorem d_X5_kinds_62 : decode prog_1_method_25_code 62 = .ok (.invokevirtual 213, 3) := by decide +kernel
theorem d_X5_kinds_65 : decode prog_1_method_25_code 65 = .ok (.aload_n 0, 1) := by decide +kernel
theorem d_X5_kinds_66 : decode prog_1_method_25_code 66 = .ok (.iload_n 1, 1) := by decide +kernel
theorem d_X5_kinds_67 : decode prog_1_method_25_code 67 = .ok (.iload_n 2, 1) := by decide +kernel
theorem d_X5_kinds_68 : decode prog_1_method_25_code 68 = .ok (.invokevirtual 210, 3) := by decide +kernel
theorem d_X5_kinds_71 : decode prog_1_method_25_code 71 = .ok (.iconst (-1), 1) := by decide +kernel
theorem d_X5_kinds_72 : decode prog_1_method_25_code 72 = .ok (.if_icmp .ne 12, 3) := by decide +kernel
theorem d_X5_kinds_75 : decode prog_1_method_25_code 75 = .ok (.iload 5, 2) := by decide +kernel
theorem d_X5_kinds_77 : decode prog_1_method_25_code 77 = .ok (.iconst 1, 1) := by decide +kernel
theorem d_X5_kinds_78 : decode prog_1_method_25_code 78 = .ok (.iload 6, 2) := by decide +kernel
theorem d_X5_kinds_80 : decode prog_1_method_25_code 80 = .ok (.ishl, 1) := by decide +kernel
theorem d_X5_kinds_81 : decode prog_1_method_25_code 81 = .ok (.ior, 1) := by decide +kernel
theorem d_X5_kinds_82 : decode prog_1_method_25_code 82 = .ok (.istore 5, 2) := by decide +kernel
theorem d_X5_kinds_84 : decode prog_1_method_25_code 84 = .ok (.iinc 6 1, 3) := by decide +kernel
theorem d_X5_kinds_87 : decode prog_1_method_25_code 87 = .ok (.goto (-53), 3) := by decide +kernel
theorem d_X5_kinds_90 : decode prog_1_method_25_code 90 = .ok (.iload 5, 2) := by decide +kernel
theorem d_X5_kinds_92 : decode prog_1_method_25_code 92 = .ok (.ireturn, 1) := by decide +kernel
def lp_X5_kinds_34 (κ : it_KK) (x1 : Int32) (x2 : Int32) (x3 : Int32) (k34 : (Int32 → it_SS → Option (Int32 × it_SS))) : Nat → Int32 → Int32 → it_SS → Option (Int32 × it_SS)
  | 0, _, _, _ => none
  | n34 + 1, v5, v6, S => if x3 = 0 then
if 6 ≤ v6 then
k34 v5 S
else
it_bi (f_X5_think κ  S) (fun _ S17 =>
it_bi (f_X0_setKind κ 17 x2 x3 v6 S17) (fun _ S19 =>
it_bi (f_X5_firstOtherwise κ x1 x2 S19) (fun r22 S21 =>
if r22 = (-1) then
lp_X5_kinds_34 κ x1 x2 x3 k34 n34 (v5 ||| (1 <<< (v6 &&& 31))) (v6 + 1) S21
else
lp_X5_kinds_34 κ x1 x2 x3 k34 n34 v5 (v6 + 1) S21)))
else
if 10 ≤ v6 then
k34 v5 S
else
it_bi (f_X5_think κ  S) (fun _ S9 =>
it_bi (f_X0_setKind κ 17 x2 x3 v6 S9) (fun _ S11 =>
it_bi (f_X5_firstOtherwise κ x1 x2 S11) (fun r14 S13 =>
if r14 = (-1) then
lp_X5_kinds_34 κ x1 x2 x3 k34 n34 (v5 ||| (1 <<< (v6 &&& 31))) (v6 + 1) S13
else
lp_X5_kinds_34 κ x1 x2 x3 k34 n34 v5 (v6 + 1) S13)))
def f_X5_kinds (κ : it_KK) (x1 : Int32) (x2 : Int32) (x3 : Int32) (S : it_SS) : Option (Int32 × it_SS) :=
it_bi (f_X5_refusalOfDays κ x1 x2 S) (fun r2 S1 =>
if r2 = 0 then
it_bi (f_X5_isOutside κ x3 0 1 S1) (fun r5 S4 =>
if r5 = 0 then
lp_X5_kinds_34 κ x1 x2 x3 (fun v24 S25 =>
some (v24, S25)) it_FU 0 0 S4
else
some ((-7), S4))
else
some (r2, S1))
set_option maxHeartbeats 4000000 in
set_option maxRecDepth 100000 in
theorem Llp_X5_kinds_34 {g : it_G} {l : Launch} {κ : it_KK} {x1 : Int32} {x2 : Int32} {x3 : Int32} (hx : it_wx κ) {P : Int32 → it_SS → Prop} {k34 : (Int32 → it_SS → Option (Int32 × it_SS))} (hk34 : ∀ (v5 : Int32) (S : it_SS), it_ok (k34 v5 S) P → it_Ev g l 7 it_m_X5_kinds 0 0 90 [none, none, none, none, none, some (.int v5), none] [] κ S (it_pi κ P)) : ∀ (n : Nat) (v5 : Int32) (v6 : Int32) (S : it_SS), it_ok (lp_X5_kinds_34 κ x1 x2 x3 k34 n v5 v6 S) P → it_Ev g l 7 it_m_X5_kinds 0 0 34 [some (.ref 0), some (.int x1), some (.int x2), some (.int x3), none, some (.int v5), some (.int v6)] [] κ S (it_pi κ P) := by
  intro n
  induction n with
  | zero =>
    intro _ _ _ h
    exact (it_ok_n h).elim
  | succ n34 ih34 =>
    intro v5 v6 S h
    rw [lp_X5_kinds_34] at h
    refine ev_iload d_X5_kinds_34 rfl ?_
    refine ev_iload_n d_X5_kinds_36 rfl ?_
    refine ev_if_ne (tgt := 45) d_X5_kinds_37 (by decide) (fun hc7 => ?_) (fun hc7 => ?_)
    · have h := it_ok_f h hc7
      refine ev_bipush d_X5_kinds_45 kv_bipush_10 ?_
      refine ev_icmp_ge (tgt := 90) d_X5_kinds_47 (by decide) (fun hc8 => ?_) (fun hc8 => ?_)
      · have h := it_ok_t h hc8
        refine ev_keep [false, false, false, false, false, true, false] ?_
        exact hk34 _ _ h
      · have h := it_ok_f h hc8
        refine ev_aload_n d_X5_kinds_50 rfl ?_
        refine ev_callV (ci := 5) (b := 0) (M' := it_m_X5_think) (d' := 3) (As := []) d_X5_kinds_51 ml_IcedTooSoon_180 hx.1.1 hx.1.2.1 ⟨_, rfl, rfl⟩ rfl rfl (Nat.le_of_ble_eq_true rfl) (by decide) (by decide) (by decide) (L_X5_think hx (it_ok_b h)) (fun _ _ _ _ q => by cases q.1; rfl) ?_
        rintro _ _ S9 ⟨rfl, rfl, h⟩
        show it_Ev g l 7 it_m_X5_kinds 0 0 54 [some (.ref 0), some (.int x1), some (.int x2), some (.int x3), none, some (.int v5), some (.int v6)] [] κ S9 (it_pi κ P)
        refine ev_aload_n d_X5_kinds_54 rfl ?_
        refine ev_getRr (r := 17) rfl d_X5_kinds_55 fl_IcedTooSoon_32 hx.1 rfl ?_
        refine ev_iload_n d_X5_kinds_58 rfl ?_
        refine ev_iload_n d_X5_kinds_59 rfl ?_
        refine ev_iload d_X5_kinds_60 rfl ?_
        refine ev_callV (ci := 0) (b := 17) (M' := it_m_X0_setKind) (d' := 1) (As := [.int x2, .int x3, .int v6]) d_X5_kinds_62 ml_IcedTooSoon_213 ((hx).2.2.2.2.1).1.1 ((hx).2.2.2.2.1).1.2.1 ⟨_, rfl, rfl⟩ rfl rfl (Nat.le_of_ble_eq_true rfl) (by decide) (by decide) (by decide) (L_X0_setKind (hx.2.1) (hx).2.2.2.2.1 (it_ok_b h)) (fun _ _ _ _ q => by cases q.1; rfl) ?_
        rintro _ _ S11 ⟨rfl, rfl, h⟩
        show it_Ev g l 7 it_m_X5_kinds 0 0 65 [some (.ref 0), some (.int x1), some (.int x2), some (.int x3), none, some (.int v5), some (.int v6)] [] κ S11 (it_pi κ P)
        refine ev_aload_n d_X5_kinds_65 rfl ?_
        refine ev_iload_n d_X5_kinds_66 rfl ?_
        refine ev_iload_n d_X5_kinds_67 rfl ?_
        refine ev_callV (ci := 5) (b := 0) (M' := it_m_X5_firstOtherwise) (d' := 6) (As := [.int x1, .int x2]) d_X5_kinds_68 ml_IcedTooSoon_210 hx.1.1 hx.1.2.1 ⟨_, rfl, rfl⟩ rfl rfl (Nat.le_of_ble_eq_true rfl) (by decide) (by decide) (by decide) (L_X5_firstOtherwise hx (it_ok_b h)) (fun _ _ _ _ q => by cases q.1; rfl) ?_
        rintro _ _ S13 ⟨rfl, r14, rfl, h⟩
        show it_Ev g l 7 it_m_X5_kinds 0 0 71 [some (.ref 0), some (.int x1), some (.int x2), some (.int x3), none, some (.int v5), some (.int v6)] [.int r14] κ S13 (it_pi κ P)
        refine ev_iconst d_X5_kinds_71 kv_iconst_m1 ?_
        refine ev_icmp_ne (tgt := 84) d_X5_kinds_72 (by decide) (fun hc15 => ?_) (fun hc15 => ?_)
        · have h := it_ok_f h hc15
          refine ev_iinc d_X5_kinds_84 kv_iconst_1 rfl (by decide) ?_
          show it_Ev g l 7 it_m_X5_kinds 0 0 87 [some (.ref 0), some (.int x1), some (.int x2), some (.int x3), none, some (.int v5), some (.int (v6 + 1))] [] κ S13 (it_pi κ P)
          refine ev_goto (tgt := 34) d_X5_kinds_87 (by decide) ?_
          refine ev_keep [true, true, true, true, false, true, true] ?_
          exact ih34 _ _ _ h
        · have h := it_ok_t h hc15
          refine ev_iload d_X5_kinds_75 rfl ?_
          refine ev_iconst d_X5_kinds_77 kv_iconst_1 ?_
          refine ev_iload d_X5_kinds_78 rfl ?_
          refine ev_ishl d_X5_kinds_80 ?_
          refine ev_ior d_X5_kinds_81 ?_
          refine ev_istore d_X5_kinds_82 (by decide) ?_
          show it_Ev g l 7 it_m_X5_kinds 0 0 84 [some (.ref 0), some (.int x1), some (.int x2), some (.int x3), none, some (.int (v5 ||| (1 <<< (v6 &&& 31)))), some (.int v6)] [] κ S13 (it_pi κ P)
          refine ev_iinc d_X5_kinds_84 kv_iconst_1 rfl (by decide) ?_
          show it_Ev g l 7 it_m_X5_kinds 0 0 87 [some (.ref 0), some (.int x1), some (.int x2), some (.int x3), none, some (.int (v5 ||| (1 <<< (v6 &&& 31)))), some (.int (v6 + 1))] [] κ S13 (it_pi κ P)
          refine ev_goto (tgt := 34) d_X5_kinds_87 (by decide) ?_
          refine ev_keep [true, true, true, true, false, true, true] ?_
          exact ih34 _ _ _ h
    · have h := it_ok_t h hc7
      refine ev_bipush d_X5_kinds_40 kv_bipush_6 ?_
      refine ev_goto (tgt := 47) d_X5_kinds_42 (by decide) ?_
      refine ev_icmp_ge (tgt := 90) d_X5_kinds_47 (by decide) (fun hc16 => ?_) (fun hc16 => ?_)
      · have h := it_ok_t h hc16
        refine ev_keep [false, false, false, false, false, true, false] ?_
        exact hk34 _ _ h
      · have h := it_ok_f h hc16
        refine ev_aload_n d_X5_kinds_50 rfl ?_
        refine ev_callV (ci := 5) (b := 0) (M' := it_m_X5_think) (d' := 3) (As := []) d_X5_kinds_51 ml_IcedTooSoon_180 hx.1.1 hx.1.2.1 ⟨_, rfl, rfl⟩ rfl rfl (Nat.le_of_ble_eq_true rfl) (by decide) (by decide) (by decide) (L_X5_think hx (it_ok_b h)) (fun _ _ _ _ q => by cases q.1; rfl) ?_
        rintro _ _ S17 ⟨rfl, rfl, h⟩
        show it_Ev g l 7 it_m_X5_kinds 0 0 54 [some (.ref 0), some (.int x1), some (.int x2), some (.int x3), none, some (.int v5), some (.int v6)] [] κ S17 (it_pi κ P)
        refine ev_aload_n d_X5_kinds_54 rfl ?_
        refine ev_getRr (r := 17) rfl d_X5_kinds_55 fl_IcedTooSoon_32 hx.1 rfl ?_
        refine ev_iload_n d_X5_kinds_58 rfl ?_
        refine ev_iload_n d_X5_kinds_59 rfl ?_
        refine ev_iload d_X5_kinds_60 rfl ?_
        refine ev_callV (ci := 0) (b := 17) (M' := it_m_X0_setKind) (d' := 1) (As := [.int x2, .int x3, .int v6]) d_X5_kinds_62 ml_IcedTooSoon_213 ((hx).2.2.2.2.1).1.1 ((hx).2.2.2.2.1).1.2.1 ⟨_, rfl, rfl⟩ rfl rfl (Nat.le_of_ble_eq_true rfl) (by decide) (by decide) (by decide) (L_X0_setKind (hx.2.1) (hx).2.2.2.2.1 (it_ok_b h)) (fun _ _ _ _ q => by cases q.1; rfl) ?_
        rintro _ _ S19 ⟨rfl, rfl, h⟩
        show it_Ev g l 7 it_m_X5_kinds 0 0 65 [some (.ref 0), some (.int x1), some (.int x2), some (.int x3), none, some (.int v5), some (.int v6)] [] κ S19 (it_pi κ P)
        refine ev_aload_n d_X5_kinds_65 rfl ?_
        refine ev_iload_n d_X5_kinds_66 rfl ?_
        refine ev_iload_n d_X5_kinds_67 rfl ?_
        refine ev_callV (ci := 5) (b := 0) (M' := it_m_X5_firstOtherwise) (d' := 6) (As := [.int x1, .int x2]) d_X5_kinds_68 ml_IcedTooSoon_210 hx.1.1 hx.1.2.1 ⟨_, rfl, rfl⟩ rfl rfl (Nat.le_of_ble_eq_true rfl) (by decide) (by decide) (by decide) (L_X5_firstOtherwise hx (it_ok_b h)) (fun _ _ _ _ q => by cases q.1; rfl) ?_
        rintro _ _ S21 ⟨rfl, r22, rfl, h⟩
        show it_Ev g l 7 it_m_X5_kinds 0 0 71 [some (.ref 0), some (.int x1), some (.int x2), some (.int x3), none, some (.int v5), some (.int v6)] [.int r22] κ S21 (it_pi κ P)
        refine ev_iconst d_X5_kinds_71 kv_iconst_m1 ?_
        refine ev_icmp_ne (tgt := 84) d_X5_kinds_72 (by decide) (fun hc23 => ?_) (fun hc23 => ?_)
        · have h := it_ok_f h hc23
          refine ev_iinc d_X5_kinds_84 kv_iconst_1 rfl (by decide) ?_
          show it_Ev g l 7 it_m_X5_kinds 0 0 87 [some (.ref 0), some (.int x1), some (.int x2), some (.int x3), none, some (.int v5), some (.int (v6 + 1))] [] κ S21 (it_pi κ P)
          refine ev_goto (tgt := 34) d_X5_kinds_87 (by decide) ?_
          refine ev_keep [true, true, true, true, false, true, true] ?_
          exact ih34 _ _ _ h
        · have h := it_ok_t h hc23
          refine ev_iload d_X5_kinds_75 rfl ?_
          refine ev_iconst d_X5_kinds_77 kv_iconst_1 ?_
          refine ev_iload d_X5_kinds_78 rfl ?_
          refine ev_ishl d_X5_kinds_80 ?_
          refine ev_ior d_X5_kinds_81 ?_
          refine ev_istore d_X5_kinds_82 (by decide) ?_
          show it_Ev g l 7 it_m_X5_kinds 0 0 84 [some (.ref 0), some (.int x1), some (.int x2), some (.int x3), none, some (.int (v5 ||| (1 <<< (v6 &&& 31)))), some (.int v6)] [] κ S21 (it_pi κ P)
          refine ev_iinc d_X5_kinds_84 kv_iconst_1 rfl (by decide) ?_
          show it_Ev g l 7 it_m_X5_kinds 0 0 87 [some (.ref 0), some (.int x1), some (.int x2), some (.int x3), none, some (.int (v5 ||| (1 <<< (v6 &&& 31)))), some (.int (v6 + 1))] [] κ S21 (it_pi κ P)
          refine ev_goto (tgt := 34) d_X5_kinds_87 (by decide) ?_
          refine ev_keep [true, true, true, true, false, true, true] ?_
          exact ih34 _ _ _ h
set_option maxHeartbeats 4000000 in
set_option maxRecDepth 100000 in
theorem L_X5_kinds {g : it_G} {l : Launch} {κ : it_KK} {x1 : Int32} {x2 : Int32} {x3 : Int32} (hx : it_wx κ) {S : it_SS} {P : Int32 → it_SS → Prop} (h : it_ok (f_X5_kinds κ x1 x2 x3 S) P) : it_Cn g l 7 it_m_X5_kinds [.ref 0, .int x1, .int x2, .int x3] κ S (it_pi κ P) := by
  refine it_Cn.of (by decide +kernel) (Nat.le_of_ble_eq_true rfl) ?_
  rw [f_X5_kinds] at h
  show it_Ev g l 7 it_m_X5_kinds 0 0 0 [some (.ref 0), some (.int x1), some (.int x2), some (.int x3), none, none, none] [] κ S (it_pi κ P)
  refine ev_aload_n d_X5_kinds_0 rfl ?_
  refine ev_iload_n d_X5_kinds_1 rfl ?_
  refine ev_iload_n d_X5_kinds_2 rfl ?_
  refine ev_callV (ci := 5) (b := 0) (M' := it_m_X5_refusalOfDays) (d' := 4) (As := [.int x1, .int x2]) d_X5_kinds_3 ml_IcedTooSoon_207 hx.1.1 hx.1.2.1 ⟨_, rfl, rfl⟩ rfl rfl (Nat.le_of_ble_eq_true rfl) (by decide) (by decide) (by decide) (L_X5_refusalOfDays hx (it_ok_b h)) (fun _ _ _ _ q => by cases q.1; rfl) ?_
  rintro _ _ S1 ⟨rfl, r2, rfl, h⟩
  show it_Ev g l 7 it_m_X5_kinds 0 0 6 [some (.ref 0), some (.int x1), some (.int x2), some (.int x3), none, none, none] [.int r2] κ S1 (it_pi κ P)
  refine ev_istore d_X5_kinds_6 (by decide) ?_
  show it_Ev g l 7 it_m_X5_kinds 0 0 8 [some (.ref 0), some (.int x1), some (.int x2), some (.int x3), some (.int r2), none, none] [] κ S1 (it_pi κ P)
  refine ev_iload d_X5_kinds_8 rfl ?_
  refine ev_if_eq (tgt := 16) d_X5_kinds_10 (by decide) (fun hc3 => ?_) (fun hc3 => ?_)
  · have h := it_ok_t h hc3
    refine ev_iload_n d_X5_kinds_16 rfl ?_
    refine ev_iconst d_X5_kinds_17 kv_iconst_0 ?_
    refine ev_iconst d_X5_kinds_18 kv_iconst_1 ?_
    refine ev_callS (M' := it_m_X5_isOutside) (d' := 1) (As := [.int x3, .int 0, .int 1]) d_X5_kinds_19 ml_IcedTooSoon_96 rfl rfl (Nat.le_of_ble_eq_true rfl) (by decide) (by decide) (by decide) (L_X5_isOutside  (it_ok_b h)) (fun _ _ _ _ q => by cases q.1; rfl) ?_
    rintro _ _ S4 ⟨rfl, r5, rfl, h⟩
    show it_Ev g l 7 it_m_X5_kinds 0 0 22 [some (.ref 0), some (.int x1), some (.int x2), some (.int x3), some (.int r2), none, none] [.int r5] κ S4 (it_pi κ P)
    refine ev_if_eq (tgt := 28) d_X5_kinds_22 (by decide) (fun hc6 => ?_) (fun hc6 => ?_)
    · have h := it_ok_t h hc6
      refine ev_iconst d_X5_kinds_28 kv_iconst_0 ?_
      refine ev_istore d_X5_kinds_29 (by decide) ?_
      show it_Ev g l 7 it_m_X5_kinds 0 0 31 [some (.ref 0), some (.int x1), some (.int x2), some (.int x3), some (.int r2), some (.int 0), none] [] κ S4 (it_pi κ P)
      refine ev_iconst d_X5_kinds_31 kv_iconst_0 ?_
      refine ev_istore d_X5_kinds_32 (by decide) ?_
      show it_Ev g l 7 it_m_X5_kinds 0 0 34 [some (.ref 0), some (.int x1), some (.int x2), some (.int x3), some (.int r2), some (.int 0), some (.int 0)] [] κ S4 (it_pi κ P)
      refine ev_keep [true, true, true, true, false, true, true] ?_
      refine Llp_X5_kinds_34 hx (fun v24 S25 h => ?_) _ _ _ _ h
      show it_Ev g l 7 it_m_X5_kinds 0 0 90 [none, none, none, none, none, some (.int v24), none] [] κ S25 (it_pi κ P)
      refine ev_iload d_X5_kinds_90 rfl ?_
      exact ev_ret (v := some (.int _)) ⟨d_X5_kinds_92, _, rfl, rfl⟩ (by decide) (by decide) ⟨rfl, _, rfl, it_ok_r h⟩
    · have h := it_ok_f h hc6
      refine ev_bipush d_X5_kinds_25 kv_bipush_m7 ?_
      exact ev_ret (v := some (.int _)) ⟨d_X5_kinds_27, _, rfl, rfl⟩ (by decide) (by decide) ⟨rfl, _, rfl, it_ok_r h⟩
  · have h := it_ok_f h hc3
    refine ev_iload d_X5_kinds_13 rfl ?_
    exact ev_ret (v := some (.int _)) ⟨d_X5_kinds_15, _, rfl, rfl⟩ (by decide) (by decide) ⟨rfl, _, rfl, it_ok_r h⟩
theorem d_X5_states_0 : decode prog_1_method_26_code 0 = .ok (.aload_n 0, 1) := by decide +kernel
theorem d_X5_states_1 : decode prog_1_method_26_code 1 = .ok (.iload_n 1, 1) := by decide +kernel
theorem d_X5_states_2 : decode prog_1_method_26_code 2 = .ok (.iload_n 2, 1) := by decide +kernel
theorem d_X5_states_3 : decode prog_1_method_26_code 3 = .ok (.invokevirtual 207, 3) := by decide +kernel
theorem d_X5_states_6 : decode prog_1_method_26_code 6 = .ok (.istore 5, 2) := by decide +kernel
theorem d_X5_states_8 : decode prog_1_method_26_code 8 = .ok (.iload 5, 2) := by decide +kernel
theorem d_X5_states_10 : decode prog_1_method_26_code 10 = .ok (.ifCond .eq 10, 3) := by decide +kernel
theorem d_X5_states_13 : decode prog_1_method_26_code 13 = .ok (.iload 5, 2) := by decide +kernel
theorem d_X5_states_15 : decode prog_1_method_26_code 15 = .ok (.sipush 1000, 3) := by decide +kernel
theorem d_X5_states_18 : decode prog_1_method_26_code 18 = .ok (.isub, 1) := by decide +kernel
theorem d_X5_states_19 : decode prog_1_method_26_code 19 = .ok (.ireturn, 1) := by decide +kernel
theorem d_X5_states_20 : decode prog_1_method_26_code 20 = .ok (.iload_n 3, 1) := by decide +kernel
theorem d_X5_states_21 : decode prog_1_method_26_code 21 = .ok (.iconst 0, 1) := by decide +kernel
theorem d_X5_states_22 : decode prog_1_method_26_code 22 = .ok (.iconst 1, 1) := by decide +kernel
theorem d_X5_states_23 : decode prog_1_method_26_code 23 = .ok (.invokestatic 96, 3) := by decide +kernel
theorem d_X5_states_26 : decode prog_1_method_26_code 26 = .ok (.ifCond .ne 13, 3) := by decide +kernel
theorem d_X5_states_29 : decode prog_1_method_26_code 29 = .ok (.iload 4, 2) := by decide +kernel
theorem d_X5_states_31 : decode prog_1_method_26_code 31 = .ok (.iconst 0, 1) := by decide +kernel
theorem d_X5_states_32 : decode prog_1_method_26_code 32 = .ok (.iconst 1, 1) := by decide +kernel
theorem d_X5_states_33 : decode prog_1_method_26_code 33 = .ok (.invokestatic 96, 3) := by decide +kernel
theorem d_X5_states_36 : decode prog_1_method_26_code 36 = .ok (.ifCond .eq 7, 3) := by decide +kernel
theorem d_X5_states_39 : decode prog_1_method_26_code 39 = .ok (.sipush (-7000), 3) := by decide +kernel
theorem d_X5_states_42 : decode prog_1_method_26_code 42 = .ok (.ireturn, 1) := by decide +kernel
theorem d_X5_states_43 : decode prog_1_method_26_code 43 = .ok (.iconst 0, 1) := by decide +kernel
theorem d_X5_states_44 : decode prog_1_method_26_code 44 = .ok (.istore 6, 2) := by decide +kernel
theorem d_X5_states_46 : decode prog_1_method_26_code 46 = .ok (.sipush (-1000), 3) := by decide +kernel
theorem d_X5_states_49 : decode prog_1_method_26_code 49 = .ok (.istore 7, 2) := by decide +kernel
theorem d_X5_states_51 : decode prog_1_method_26_code 51 = .ok (.iload_n 3, 1) := by decide +kernel
theorem d_X5_states_52 : decode prog_1_method_26_code 52 = .ok (.ifCond .ne 8, 3) := by decide +kernel
theorem d_X5_states_55 : decode prog_1_method_26_code 55 = .ok (.bipush (-99), 2) := by decide +kernel
theorem d_X5_states_57 : decode prog_1_method_26_code 57 = .ok (.goto 4, 3) := by decide +kernel
theorem d_X5_states_60 : decode prog_1_method_26_code 60 = .ok (.iconst 0, 1) := by decide +kernel
theorem d_X5_states_61 : decode prog_1_method_26_code 61 = .ok (.istore 8, 2) := by decide +kernel
theorem d_X5_states_63 : decode prog_1_method_26_code 63 = .ok (.iload 8, 2) := by decide +kernel
theorem d_X5_states_65 : decode prog_1_method_26_code 65 = .ok (.bipush 99, 2) := by decide +kernel
theorem d_X5_states_67 : decode prog_1_method_26_code 67 = .ok (.if_icmp .gt 51, 3) := by decide +kernel
theorem d_X5_states_70 : decode prog_1_method_26_code 70 = .ok (.aload_n 0, 1) := by decide +kernel
theorem d_X5_states_71 : decode prog_1_method_26_code 71 = .ok (.invokevirtual 180, 3) := by decide +kernel
theorem d_X5_states_74 : decode prog_1_method_26_code 74 = .ok (.aload_n 0, 1) := by decide +kernel
theorem d_X5_states_75 : decode prog_1_method_26_code 75 = .ok (.getfield 32, 3) := by decide +kernel
theorem d_X5_states_78 : decode prog_1_method_26_code 78 = .ok (.iload_n 2, 1) := by decide +kernel
theorem d_X5_states_79 : decode prog_1_method_26_code 79 = .ok (.iload_n 3, 1) := by decide +kernel
theorem d_X5_states_80 : decode prog_1_method_26_code 80 = .ok (.iload 8, 2) := by decide +kernel
theorem d_X5_states_82 : decode prog_1_method_26_code 82 = .ok (.invokevirtual 131, 3) := by decide +kernel
theorem d_X5_states_85 : decode prog_1_method_26_code 85 = .ok (.aload_n 0, 1) := by decide +kernel
theorem d_X5_states_86 : decode prog_1_method_26_code 86 = .ok (.iload_n 1, 1) := by decide +kernel
theorem d_X5_states_87 : decode prog_1_method_26_code 87 = .ok (.iload_n 2, 1) := by decide +kernel
theorem d_X5_states_88 : decode prog_1_method_26_code 88 = .ok (.invokevirtual 210, 3) := by decide +kernel
theorem d_X5_states_91 : decode prog_1_method_26_code 91 = .ok (.iconst (-1), 1) := by decide +kernel
theorem d_X5_states_92 : decode prog_1_method_26_code 92 = .ok (.if_icmp .ne 20, 3) := by decide +kernel
theorem d_X5_states_95 : decode prog_1_method_26_code 95 = .ok (.iload 6, 2) := by decide +kernel
theorem d_X5_states_97 : decode prog_1_method_26_code 97 = .ok (.ifCond .ne 8, 3) := by decide +kernel
theorem d_X5_states_100 : decode prog_1_method_26_code 100 = .ok (.iload 8, 2) := by decide +kernel
theorem d_X5_states_102 : decode prog_1_method_26_code 102 = .ok (.goto 5, 3) := by decide +kernel
theorem d_X5_states_105 : decode prog_1_method_26_code 105 = .ok (.iload 7, 2) := by decide +kernel
theorem d_X5_states_107 : decode prog_1_method_26_code 107 = .ok (.istore 7, 2) := by decide +kernel
theorem d_X5_states_109 : decode prog_1_method_26_code 109 = .ok (.iinc 6 1, 3) := by decide +kernel
theorem d_X5_states_112 : decode prog_1_method_26_code 112 = .ok (.iinc 8 1, 3) := by decide +kernel
theorem d_X5_states_115 : decode prog_1_method_26_code 115 = .ok (.goto (-52), 3) := by decide +kernel
theorem d_X5_states_118 : decode prog_1_method_26_code 118 = .ok (.iload 4, 2) := by decide +kernel
theorem d_X5_states_120 : decode prog_1_method_26_code 120 = .ok (.ifCond .ne 8, 3) := by decide +kernel
theorem d_X5_states_123 : decode prog_1_method_26_code 123 = .ok (.iload 6, 2) := by decide +kernel
theorem d_X5_states_125 : decode prog_1_method_26_code 125 = .ok (.goto 5, 3) := by decide +kernel
theorem d_X5_states_128 : decode prog_1_method_26_code 128 = .ok (.iload 7, 2) := by decide +kernel
theorem d_X5_states_130 : decode prog_1_method_26_code 130 = .ok (.ireturn, 1) := by decide +kernel
def lp_X5_states_63 (κ : it_KK) (x1 : Int32) (x2 : Int32) (x3 : Int32) (x4 : Int32) (k63 : (Int32 → Int32 → it_SS → Option (Int32 × it_SS))) : Nat → Int32 → Int32 → Int32 → it_SS → Option (Int32 × it_SS)
  | 0, _, _, _, _ => none
  | n63 + 1, v6, v7, v8, S => if 99 < v8 then
k63 v6 v7 S
else
it_bi (f_X5_think κ  S) (fun _ S12 =>
it_bi (f_X0_set κ 17 x2 x3 v8 S12) (fun _ S14 =>
it_bi (f_X5_firstOtherwise κ x1 x2 S14) (fun r17 S16 =>
if r17 = (-1) then
if v6 = 0 then
lp_X5_states_63 κ x1 x2 x3 x4 k63 n63 (v6 + 1) v8 (v8 + 1) S16
else
lp_X5_states_63 κ x1 x2 x3 x4 k63 n63 (v6 + 1) v7 (v8 + 1) S16
else
lp_X5_states_63 κ x1 x2 x3 x4 k63 n63 v6 v7 (v8 + 1) S16)))
def f_X5_states (κ : it_KK) (x1 : Int32) (x2 : Int32) (x3 : Int32) (x4 : Int32) (S : it_SS) : Option (Int32 × it_SS) :=
it_bi (f_X5_refusalOfDays κ x1 x2 S) (fun r2 S1 =>
if r2 = 0 then
it_bi (f_X5_isOutside κ x3 0 1 S1) (fun r5 S4 =>
if r5 = 0 then
it_bi (f_X5_isOutside κ x4 0 1 S4) (fun r8 S7 =>
if r8 = 0 then
if x3 = 0 then
lp_X5_states_63 κ x1 x2 x3 x4 (fun v24 v25 S26 =>
if x4 = 0 then
some (v24, S26)
else
some (v25, S26)) it_FU 0 (-1000) (-99) S7
else
lp_X5_states_63 κ x1 x2 x3 x4 (fun v20 v21 S22 =>
if x4 = 0 then
some (v20, S22)
else
some (v21, S22)) it_FU 0 (-1000) 0 S7
else
some ((-7000), S7))
else
some ((-7000), S4))
else
some ((r2 - 1000), S1))
set_option maxHeartbeats 4000000 in
set_option maxRecDepth 100000 in
theorem Llp_X5_states_63 {g : it_G} {l : Launch} {κ : it_KK} {x1 : Int32} {x2 : Int32} {x3 : Int32} {x4 : Int32} (hx : it_wx κ) {P : Int32 → it_SS → Prop} {k63 : (Int32 → Int32 → it_SS → Option (Int32 × it_SS))} (hk63 : ∀ (v6 : Int32) (v7 : Int32) (S : it_SS), it_ok (k63 v6 v7 S) P → it_Ev g l 7 it_m_X5_states 0 0 118 [none, none, none, none, some (.int x4), none, some (.int v6), some (.int v7), none] [] κ S (it_pi κ P)) : ∀ (n : Nat) (v6 : Int32) (v7 : Int32) (v8 : Int32) (S : it_SS), it_ok (lp_X5_states_63 κ x1 x2 x3 x4 k63 n v6 v7 v8 S) P → it_Ev g l 7 it_m_X5_states 0 0 63 [some (.ref 0), some (.int x1), some (.int x2), some (.int x3), some (.int x4), none, some (.int v6), some (.int v7), some (.int v8)] [] κ S (it_pi κ P) := by
  intro n
  induction n with
  | zero =>
    intro _ _ _ _ h
    exact (it_ok_n h).elim
  | succ n63 ih63 =>
    intro v6 v7 v8 S h
    rw [lp_X5_states_63] at h
    refine ev_iload d_X5_states_63 rfl ?_
    refine ev_bipush d_X5_states_65 kv_bipush_99 ?_
    refine ev_icmp_gt (tgt := 118) d_X5_states_67 (by decide) (fun hc11 => ?_) (fun hc11 => ?_)
    · have h := it_ok_t h hc11
      refine ev_keep [false, false, false, false, true, false, true, true, false] ?_
      exact hk63 _ _ _ h
    · have h := it_ok_f h hc11
      refine ev_aload_n d_X5_states_70 rfl ?_
      refine ev_callV (ci := 5) (b := 0) (M' := it_m_X5_think) (d' := 3) (As := []) d_X5_states_71 ml_IcedTooSoon_180 hx.1.1 hx.1.2.1 ⟨_, rfl, rfl⟩ rfl rfl (Nat.le_of_ble_eq_true rfl) (by decide) (by decide) (by decide) (L_X5_think hx (it_ok_b h)) (fun _ _ _ _ q => by cases q.1; rfl) ?_
      rintro _ _ S12 ⟨rfl, rfl, h⟩
      show it_Ev g l 7 it_m_X5_states 0 0 74 [some (.ref 0), some (.int x1), some (.int x2), some (.int x3), some (.int x4), none, some (.int v6), some (.int v7), some (.int v8)] [] κ S12 (it_pi κ P)
      refine ev_aload_n d_X5_states_74 rfl ?_
      refine ev_getRr (r := 17) rfl d_X5_states_75 fl_IcedTooSoon_32 hx.1 rfl ?_
      refine ev_iload_n d_X5_states_78 rfl ?_
      refine ev_iload_n d_X5_states_79 rfl ?_
      refine ev_iload d_X5_states_80 rfl ?_
      refine ev_callV (ci := 0) (b := 17) (M' := it_m_X0_set) (d' := 1) (As := [.int x2, .int x3, .int v8]) d_X5_states_82 ml_IcedTooSoon_131 ((hx).2.2.2.2.1).1.1 ((hx).2.2.2.2.1).1.2.1 ⟨_, rfl, rfl⟩ rfl rfl (Nat.le_of_ble_eq_true rfl) (by decide) (by decide) (by decide) (L_X0_set (hx.2.1) (hx).2.2.2.2.1 (it_ok_b h)) (fun _ _ _ _ q => by cases q.1; rfl) ?_
      rintro _ _ S14 ⟨rfl, rfl, h⟩
      show it_Ev g l 7 it_m_X5_states 0 0 85 [some (.ref 0), some (.int x1), some (.int x2), some (.int x3), some (.int x4), none, some (.int v6), some (.int v7), some (.int v8)] [] κ S14 (it_pi κ P)
      refine ev_aload_n d_X5_states_85 rfl ?_
      refine ev_iload_n d_X5_states_86 rfl ?_
      refine ev_iload_n d_X5_states_87 rfl ?_
      refine ev_callV (ci := 5) (b := 0) (M' := it_m_X5_firstOtherwise) (d' := 6) (As := [.int x1, .int x2]) d_X5_states_88 ml_IcedTooSoon_210 hx.1.1 hx.1.2.1 ⟨_, rfl, rfl⟩ rfl rfl (Nat.le_of_ble_eq_true rfl) (by decide) (by decide) (by decide) (L_X5_firstOtherwise hx (it_ok_b h)) (fun _ _ _ _ q => by cases q.1; rfl) ?_
      rintro _ _ S16 ⟨rfl, r17, rfl, h⟩
      show it_Ev g l 7 it_m_X5_states 0 0 91 [some (.ref 0), some (.int x1), some (.int x2), some (.int x3), some (.int x4), none, some (.int v6), some (.int v7), some (.int v8)] [.int r17] κ S16 (it_pi κ P)
      refine ev_iconst d_X5_states_91 kv_iconst_m1 ?_
      refine ev_icmp_ne (tgt := 112) d_X5_states_92 (by decide) (fun hc18 => ?_) (fun hc18 => ?_)
      · have h := it_ok_f h hc18
        refine ev_iinc d_X5_states_112 kv_iconst_1 rfl (by decide) ?_
        show it_Ev g l 7 it_m_X5_states 0 0 115 [some (.ref 0), some (.int x1), some (.int x2), some (.int x3), some (.int x4), none, some (.int v6), some (.int v7), some (.int (v8 + 1))] [] κ S16 (it_pi κ P)
        refine ev_goto (tgt := 63) d_X5_states_115 (by decide) ?_
        refine ev_keep [true, true, true, true, true, false, true, true, true] ?_
        exact ih63 _ _ _ _ h
      · have h := it_ok_t h hc18
        refine ev_iload d_X5_states_95 rfl ?_
        refine ev_if_ne (tgt := 105) d_X5_states_97 (by decide) (fun hc19 => ?_) (fun hc19 => ?_)
        · have h := it_ok_f h hc19
          refine ev_iload d_X5_states_105 rfl ?_
          refine ev_istore d_X5_states_107 (by decide) ?_
          show it_Ev g l 7 it_m_X5_states 0 0 109 [some (.ref 0), some (.int x1), some (.int x2), some (.int x3), some (.int x4), none, some (.int v6), some (.int v7), some (.int v8)] [] κ S16 (it_pi κ P)
          refine ev_iinc d_X5_states_109 kv_iconst_1 rfl (by decide) ?_
          show it_Ev g l 7 it_m_X5_states 0 0 112 [some (.ref 0), some (.int x1), some (.int x2), some (.int x3), some (.int x4), none, some (.int (v6 + 1)), some (.int v7), some (.int v8)] [] κ S16 (it_pi κ P)
          refine ev_iinc d_X5_states_112 kv_iconst_1 rfl (by decide) ?_
          show it_Ev g l 7 it_m_X5_states 0 0 115 [some (.ref 0), some (.int x1), some (.int x2), some (.int x3), some (.int x4), none, some (.int (v6 + 1)), some (.int v7), some (.int (v8 + 1))] [] κ S16 (it_pi κ P)
          refine ev_goto (tgt := 63) d_X5_states_115 (by decide) ?_
          refine ev_keep [true, true, true, true, true, false, true, true, true] ?_
          exact ih63 _ _ _ _ h
        · have h := it_ok_t h hc19
          refine ev_iload d_X5_states_100 rfl ?_
          refine ev_goto (tgt := 107) d_X5_states_102 (by decide) ?_
          refine ev_istore d_X5_states_107 (by decide) ?_
          show it_Ev g l 7 it_m_X5_states 0 0 109 [some (.ref 0), some (.int x1), some (.int x2), some (.int x3), some (.int x4), none, some (.int v6), some (.int v8), some (.int v8)] [] κ S16 (it_pi κ P)
          refine ev_iinc d_X5_states_109 kv_iconst_1 rfl (by decide) ?_
          show it_Ev g l 7 it_m_X5_states 0 0 112 [some (.ref 0), some (.int x1), some (.int x2), some (.int x3), some (.int x4), none, some (.int (v6 + 1)), some (.int v8), some (.int v8)] [] κ S16 (it_pi κ P)
          refine ev_iinc d_X5_states_112 kv_iconst_1 rfl (by decide) ?_
          show it_Ev g l 7 it_m_X5_states 0 0 115 [some (.ref 0), some (.int x1), some (.int x2), some (.int x3), some (.int x4), none, some (.int (v6 + 1)), some (.int v8), some (.int (v8 + 1))] [] κ S16 (it_pi κ P)
          refine ev_goto (tgt := 63) d_X5_states_115 (by decide) ?_
          refine ev_keep [true, true, true, true, true, false, true, true, true] ?_
          exact ih63 _ _ _ _ h
set_option maxHeartbeats 4000000 in
set_option maxRecDepth 100000 in
theorem L_X5_states {g : it_G} {l : Launch} {κ : it_KK} {x1 : Int32} {x2 : Int32} {x3 : Int32} {x4 : Int32} (hx : it_wx κ) {S : it_SS} {P : Int32 → it_SS → Prop} (h : it_ok (f_X5_states κ x1 x2 x3 x4 S) P) : it_Cn g l 7 it_m_X5_states [.ref 0, .int x1, .int x2, .int x3, .int x4] κ S (it_pi κ P) := by
  refine it_Cn.of (by decide +kernel) (Nat.le_of_ble_eq_true rfl) ?_
  rw [f_X5_states] at h
  show it_Ev g l 7 it_m_X5_states 0 0 0 [some (.ref 0), some (.int x1), some (.int x2), some (.int x3), some (.int x4), none, none, none, none] [] κ S (it_pi κ P)
  refine ev_aload_n d_X5_states_0 rfl ?_
  refine ev_iload_n d_X5_states_1 rfl ?_
  refine ev_iload_n d_X5_states_2 rfl ?_
  refine ev_callV (ci := 5) (b := 0) (M' := it_m_X5_refusalOfDays) (d' := 4) (As := [.int x1, .int x2]) d_X5_states_3 ml_IcedTooSoon_207 hx.1.1 hx.1.2.1 ⟨_, rfl, rfl⟩ rfl rfl (Nat.le_of_ble_eq_true rfl) (by decide) (by decide) (by decide) (L_X5_refusalOfDays hx (it_ok_b h)) (fun _ _ _ _ q => by cases q.1; rfl) ?_
  rintro _ _ S1 ⟨rfl, r2, rfl, h⟩
  show it_Ev g l 7 it_m_X5_states 0 0 6 [some (.ref 0), some (.int x1), some (.int x2), some (.int x3), some (.int x4), none, none, none, none] [.int r2] κ S1 (it_pi κ P)
  refine ev_istore d_X5_states_6 (by decide) ?_
  show it_Ev g l 7 it_m_X5_states 0 0 8 [some (.ref 0), some (.int x1), some (.int x2), some (.int x3), some (.int x4), some (.int r2), none, none, none] [] κ S1 (it_pi κ P)
  refine ev_iload d_X5_states_8 rfl ?_
  refine ev_if_eq (tgt := 20) d_X5_states_10 (by decide) (fun hc3 => ?_) (fun hc3 => ?_)
  · have h := it_ok_t h hc3
    refine ev_iload_n d_X5_states_20 rfl ?_
    refine ev_iconst d_X5_states_21 kv_iconst_0 ?_
    refine ev_iconst d_X5_states_22 kv_iconst_1 ?_
    refine ev_callS (M' := it_m_X5_isOutside) (d' := 1) (As := [.int x3, .int 0, .int 1]) d_X5_states_23 ml_IcedTooSoon_96 rfl rfl (Nat.le_of_ble_eq_true rfl) (by decide) (by decide) (by decide) (L_X5_isOutside  (it_ok_b h)) (fun _ _ _ _ q => by cases q.1; rfl) ?_
    rintro _ _ S4 ⟨rfl, r5, rfl, h⟩
    show it_Ev g l 7 it_m_X5_states 0 0 26 [some (.ref 0), some (.int x1), some (.int x2), some (.int x3), some (.int x4), some (.int r2), none, none, none] [.int r5] κ S4 (it_pi κ P)
    refine ev_if_ne (tgt := 39) d_X5_states_26 (by decide) (fun hc6 => ?_) (fun hc6 => ?_)
    · have h := it_ok_f h hc6
      refine ev_sipush d_X5_states_39 kv_sipush_m7000 ?_
      exact ev_ret (v := some (.int _)) ⟨d_X5_states_42, _, rfl, rfl⟩ (by decide) (by decide) ⟨rfl, _, rfl, it_ok_r h⟩
    · have h := it_ok_t h hc6
      refine ev_iload d_X5_states_29 rfl ?_
      refine ev_iconst d_X5_states_31 kv_iconst_0 ?_
      refine ev_iconst d_X5_states_32 kv_iconst_1 ?_
      refine ev_callS (M' := it_m_X5_isOutside) (d' := 1) (As := [.int x4, .int 0, .int 1]) d_X5_states_33 ml_IcedTooSoon_96 rfl rfl (Nat.le_of_ble_eq_true rfl) (by decide) (by decide) (by decide) (L_X5_isOutside  (it_ok_b h)) (fun _ _ _ _ q => by cases q.1; rfl) ?_
      rintro _ _ S7 ⟨rfl, r8, rfl, h⟩
      show it_Ev g l 7 it_m_X5_states 0 0 36 [some (.ref 0), some (.int x1), some (.int x2), some (.int x3), some (.int x4), some (.int r2), none, none, none] [.int r8] κ S7 (it_pi κ P)
      refine ev_if_eq (tgt := 43) d_X5_states_36 (by decide) (fun hc9 => ?_) (fun hc9 => ?_)
      · have h := it_ok_t h hc9
        refine ev_iconst d_X5_states_43 kv_iconst_0 ?_
        refine ev_istore d_X5_states_44 (by decide) ?_
        show it_Ev g l 7 it_m_X5_states 0 0 46 [some (.ref 0), some (.int x1), some (.int x2), some (.int x3), some (.int x4), some (.int r2), some (.int 0), none, none] [] κ S7 (it_pi κ P)
        refine ev_sipush d_X5_states_46 kv_sipush_m1000 ?_
        refine ev_istore d_X5_states_49 (by decide) ?_
        show it_Ev g l 7 it_m_X5_states 0 0 51 [some (.ref 0), some (.int x1), some (.int x2), some (.int x3), some (.int x4), some (.int r2), some (.int 0), some (.int (-1000)), none] [] κ S7 (it_pi κ P)
        refine ev_iload_n d_X5_states_51 rfl ?_
        refine ev_if_ne (tgt := 60) d_X5_states_52 (by decide) (fun hc10 => ?_) (fun hc10 => ?_)
        · have h := it_ok_f h hc10
          refine ev_iconst d_X5_states_60 kv_iconst_0 ?_
          refine ev_istore d_X5_states_61 (by decide) ?_
          show it_Ev g l 7 it_m_X5_states 0 0 63 [some (.ref 0), some (.int x1), some (.int x2), some (.int x3), some (.int x4), some (.int r2), some (.int 0), some (.int (-1000)), some (.int 0)] [] κ S7 (it_pi κ P)
          refine ev_keep [true, true, true, true, true, false, true, true, true] ?_
          refine Llp_X5_states_63 hx (fun v20 v21 S22 h => ?_) _ _ _ _ _ h
          show it_Ev g l 7 it_m_X5_states 0 0 118 [none, none, none, none, some (.int x4), none, some (.int v20), some (.int v21), none] [] κ S22 (it_pi κ P)
          refine ev_iload d_X5_states_118 rfl ?_
          refine ev_if_ne (tgt := 128) d_X5_states_120 (by decide) (fun hc23 => ?_) (fun hc23 => ?_)
          · have h := it_ok_f h hc23
            refine ev_iload d_X5_states_128 rfl ?_
            exact ev_ret (v := some (.int _)) ⟨d_X5_states_130, _, rfl, rfl⟩ (by decide) (by decide) ⟨rfl, _, rfl, it_ok_r h⟩
          · have h := it_ok_t h hc23
            refine ev_iload d_X5_states_123 rfl ?_
            refine ev_goto (tgt := 130) d_X5_states_125 (by decide) ?_
            exact ev_ret (v := some (.int _)) ⟨d_X5_states_130, _, rfl, rfl⟩ (by decide) (by decide) ⟨rfl, _, rfl, it_ok_r h⟩
        · have h := it_ok_t h hc10
          refine ev_bipush d_X5_states_55 kv_bipush_m99 ?_
          refine ev_goto (tgt := 61) d_X5_states_57 (by decide) ?_
          refine ev_istore d_X5_states_61 (by decide) ?_
          show it_Ev g l 7 it_m_X5_states 0 0 63 [some (.ref 0), some (.int x1), some (.int x2), some (.int x3), some (.int x4), some (.int r2), some (.int 0), some (.int (-1000)), some (.int (-99))] [] κ S7 (it_pi κ P)
          refine ev_keep [true, true, true, true, true, false, true, true, true] ?_
          refine Llp_X5_states_63 hx (fun v24 v25 S26 h => ?_) _ _ _ _ _ h
          show it_Ev g l 7 it_m_X5_states 0 0 118 [none, none, none, none, some (.int x4), none, some (.int v24), some (.int v25), none] [] κ S26 (it_pi κ P)
          refine ev_iload d_X5_states_118 rfl ?_
          refine ev_if_ne (tgt := 128) d_X5_states_120 (by decide) (fun hc27 => ?_) (fun hc27 => ?_)
          · have h := it_ok_f h hc27
            refine ev_iload d_X5_states_128 rfl ?_
            exact ev_ret (v := some (.int _)) ⟨d_X5_states_130, _, rfl, rfl⟩ (by decide) (by decide) ⟨rfl, _, rfl, it_ok_r h⟩
          · have h := it_ok_t h hc27
            refine ev_iload d_X5_states_123 rfl ?_
            refine ev_goto (tgt := 130) d_X5_states_125 (by decide) ?_
            exact ev_ret (v := some (.int _)) ⟨d_X5_states_130, _, rfl, rfl⟩ (by decide) (by decide) ⟨rfl, _, rfl, it_ok_r h⟩
      · have h := it_ok_f h hc9
        refine ev_sipush d_X5_states_39 kv_sipush_m7000 ?_
        exact ev_ret (v := some (.int _)) ⟨d_X5_states_42, _, rfl, rfl⟩ (by decide) (by decide) ⟨rfl, _, rfl, it_ok_r h⟩
  · have h := it_ok_f h hc3
    refine ev_iload d_X5_states_13 rfl ?_
    refine ev_sipush d_X5_states_15 kv_sipush_1000 ?_
    refine ev_isub d_X5_states_18 ?_
    exact ev_ret (v := some (.int _)) ⟨d_X5_states_19, _, rfl, rfl⟩ (by decide) (by decide) ⟨rfl, _, rfl, it_ok_r h⟩
theorem d_X5_owners_0 : decode prog_1_method_27_code 0 = .ok (.aload_n 0, 1) := by decide +kernel
theorem d_X5_owners_1 : decode prog_1_method_27_code 1 = .ok (.iload_n 1, 1) := by decide +kernel
theorem d_X5_owners_2 : decode prog_1_method_27_code 2 = .ok (.iload_n 2, 1) := by decide +kernel
theorem d_X5_owners_3 : decode prog_1_method_27_code 3 = .ok (.invokevirtual 207, 3) := by decide +kernel
theorem d_X5_owners_6 : decode prog_1_method_27_code 6 = .ok (.istore_n 3, 1) := by decide +kernel
theorem d_X5_owners_7 : decode prog_1_method_27_code 7 = .ok (.iload_n 3, 1) := by decide +kernel
theorem d_X5_owners_8 : decode prog_1_method_27_code 8 = .ok (.ifCond .eq 5, 3) := by decide +kernel
theorem d_X5_owners_11 : decode prog_1_method_27_code 11 = .ok (.iload_n 3, 1) := by decide +kernel
theorem d_X5_owners_12 : decode prog_1_method_27_code 12 = .ok (.ireturn, 1) := by decide +kernel
theorem d_X5_owners_13 : decode prog_1_method_27_code 13 = .ok (.iconst 0, 1) := by decide +kernel
theorem d_X5_owners_14 : decode prog_1_method_27_code 14 = .ok (.istore 4, 2) := by decide +kernel
theorem d_X5_owners_16 : decode prog_1_method_27_code 16 = .ok (.iconst 0, 1) := by decide +kernel
theorem d_X5_owners_17 : decode prog_1_method_27_code 17 = .ok (.istore 5, 2) := by decide +kernel
theorem d_X5_owners_19 : decode prog_1_method_27_code 19 = .ok (.iload 5, 2) := by decide +kernel
theorem d_X5_owners_21 : decode prog_1_method_27_code 21 = .ok (.bipush 10, 2) := by decide +kernel
theorem d_X5_owners_23 : decode prog_1_method_27_code 23 = .ok (.if_icmp .ge 69, 3) := by decide +kernel
theorem d_X5_owners_26 : decode prog_1_method_27_code 26 = .ok (.aload_n 0, 1) := by decide +kernel
theorem d_X5_owners_27 : decode prog_1_method_27_code 27 = .ok (.getfield 28, 3) := by decide +kernel
theorem d_X5_owners_30 : decode prog_1_method_27_code 30 = .ok (.iload 5, 2) := by decide +kernel
theorem d_X5_owners_32 : decode prog_1_method_27_code 32 = .ok (.invokevirtual 107, 3) := by decide +kernel
theorem d_X5_owners_35 : decode prog_1_method_27_code 35 = .ok (.ifCond .eq 51, 3) := by decide +kernel
theorem d_X5_owners_38 : decode prog_1_method_27_code 38 = .ok (.aload_n 0, 1) := by decide +kernel
theorem d_X5_owners_39 : decode prog_1_method_27_code 39 = .ok (.getfield 28, 3) := by decide +kernel
theorem d_X5_owners_42 : decode prog_1_method_27_code 42 = .ok (.getfield 148, 3) := by decide +kernel
theorem d_X5_owners_45 : decode prog_1_method_27_code 45 = .ok (.iload 5, 2) := by decide +kernel
theorem d_X5_owners_47 : decode prog_1_method_27_code 47 = .ok (.iaload, 1) := by decide +kernel
theorem d_X5_owners_48 : decode prog_1_method_27_code 48 = .ok (.iload_n 2, 1) := by decide +kernel
theorem d_X5_owners_49 : decode prog_1_method_27_code 49 = .ok (.if_icmp .eq 37, 3) := by decide +kernel
theorem d_X5_owners_52 : decode prog_1_method_27_code 52 = .ok (.aload_n 0, 1) := by decide +kernel
theorem d_X5_owners_53 : decode prog_1_method_27_code 53 = .ok (.invokevirtual 180, 3) := by decide +kernel
theorem d_X5_owners_56 : decode prog_1_method_27_code 56 = .ok (.aload_n 0, 1) := by decide +kernel
theorem d_X5_owners_57 : decode prog_1_method_27_code 57 = .ok (.getfield 32, 3) := by decide +kernel
theorem d_X5_owners_60 : decode prog_1_method_27_code 60 = .ok (.getfield 148, 3) := by decide +kernel
theorem d_X5_owners_63 : decode prog_1_method_27_code 63 = .ok (.iload 5, 2) := by decide +kernel
theorem d_X5_owners_65 : decode prog_1_method_27_code 65 = .ok (.iload_n 2, 1) := by decide +kernel
theorem d_X5_owners_66 : decode prog_1_method_27_code 66 = .ok (.iastore, 1) := by decide +kernel
theorem d_X5_owners_67 : decode prog_1_method_27_code 67 = .ok (.aload_n 0, 1) := by decide +kernel
theorem d_X5_owners_68 : decode prog_1_method_27_code 68 = .ok (.iload_n 1, 1) := by decide +kernel
theorem d_X5_owners_69 : decode prog_1_method_27_code 69 = .ok (.iload_n 2, 1) := by decide +kernel
theorem d_X5_owners_70 : decode prog_1_method_27_code 70 = .ok (.invokevirtual 210, 3) := by decide +kernel
theorem d_X5_owners_73 : decode prog_1_method_27_code 73 = .ok (.iconst (-1), 1) := by decide +kernel
theorem d_X5_owners_74 : decode prog_1_method_27_code 74 = .ok (.if_icmp .ne 12, 3) := by decide +kernel
theorem d_X5_owners_77 : decode prog_1_method_27_code 77 = .ok (.iload 4, 2) := by decide +kernel
theorem d_X5_owners_79 : decode prog_1_method_27_code 79 = .ok (.iconst 1, 1) := by decide +kernel
theorem d_X5_owners_80 : decode prog_1_method_27_code 80 = .ok (.iload 5, 2) := by decide +kernel
theorem d_X5_owners_82 : decode prog_1_method_27_code 82 = .ok (.ishl, 1) := by decide +kernel
theorem d_X5_owners_83 : decode prog_1_method_27_code 83 = .ok (.ior, 1) := by decide +kernel
theorem d_X5_owners_84 : decode prog_1_method_27_code 84 = .ok (.istore 4, 2) := by decide +kernel
theorem d_X5_owners_86 : decode prog_1_method_27_code 86 = .ok (.iinc 5 1, 3) := by decide +kernel
theorem d_X5_owners_89 : decode prog_1_method_27_code 89 = .ok (.goto (-70), 3) := by decide +kernel
theorem d_X5_owners_92 : decode prog_1_method_27_code 92 = .ok (.iload 4, 2) := by decide +kernel
theorem d_X5_owners_94 : decode prog_1_method_27_code 94 = .ok (.ireturn, 1) := by decide +kernel
def lp_X5_owners_19 (κ : it_KK) (x1 : Int32) (x2 : Int32) (k19 : (Int32 → it_SS → Option (Int32 × it_SS))) : Nat → Int32 → Int32 → it_SS → Option (Int32 × it_SS)
  | 0, _, _, _ => none
  | n19 + 1, v4, v5, S => if 10 ≤ v5 then
k19 v4 S
else
it_bi (f_X0_hasGlass κ 9 v5 S) (fun r6 S5 =>
if r6 = 0 then
lp_X5_owners_19 κ x1 x2 k19 n19 v4 (v5 + 1) S5
else
if it_bd v5 10 = true then
if (S5 (9 + 5) (v5 : Int32).toNatClampNeg) = x2 then
lp_X5_owners_19 κ x1 x2 k19 n19 v4 (v5 + 1) S5
else
it_bi (f_X5_think κ  S5) (fun _ S10 =>
it_bi (f_X5_firstOtherwise κ x1 x2 (it_up S10 (17 + 5) (v5 : Int32).toNatClampNeg x2)) (fun r13 S12 =>
if r13 = (-1) then
lp_X5_owners_19 κ x1 x2 k19 n19 (v4 ||| (1 <<< (v5 &&& 31))) (v5 + 1) S12
else
lp_X5_owners_19 κ x1 x2 k19 n19 v4 (v5 + 1) S12))
else none)
def f_X5_owners (κ : it_KK) (x1 : Int32) (x2 : Int32) (S : it_SS) : Option (Int32 × it_SS) :=
it_bi (f_X5_refusalOfDays κ x1 x2 S) (fun r2 S1 =>
if r2 = 0 then
lp_X5_owners_19 κ x1 x2 (fun v15 S16 =>
some (v15, S16)) it_FU 0 0 S1
else
some (r2, S1))
set_option maxHeartbeats 4000000 in
set_option maxRecDepth 100000 in
theorem Llp_X5_owners_19 {g : it_G} {l : Launch} {κ : it_KK} {x1 : Int32} {x2 : Int32} (hx : it_wx κ) {P : Int32 → it_SS → Prop} {k19 : (Int32 → it_SS → Option (Int32 × it_SS))} (hk19 : ∀ (v4 : Int32) (S : it_SS), it_ok (k19 v4 S) P → it_Ev g l 7 it_m_X5_owners 0 0 92 [none, none, none, none, some (.int v4), none] [] κ S (it_pi κ P)) : ∀ (n : Nat) (v4 : Int32) (v5 : Int32) (S : it_SS), it_ok (lp_X5_owners_19 κ x1 x2 k19 n v4 v5 S) P → it_Ev g l 7 it_m_X5_owners 0 0 19 [some (.ref 0), some (.int x1), some (.int x2), none, some (.int v4), some (.int v5)] [] κ S (it_pi κ P) := by
  intro n
  induction n with
  | zero =>
    intro _ _ _ h
    exact (it_ok_n h).elim
  | succ n19 ih19 =>
    intro v4 v5 S h
    rw [lp_X5_owners_19] at h
    refine ev_iload d_X5_owners_19 rfl ?_
    refine ev_bipush d_X5_owners_21 kv_bipush_10 ?_
    refine ev_icmp_ge (tgt := 92) d_X5_owners_23 (by decide) (fun hc4 => ?_) (fun hc4 => ?_)
    · have h := it_ok_t h hc4
      refine ev_keep [false, false, false, false, true, false] ?_
      exact hk19 _ _ h
    · have h := it_ok_f h hc4
      refine ev_aload_n d_X5_owners_26 rfl ?_
      refine ev_getRr (r := 9) rfl d_X5_owners_27 fl_IcedTooSoon_28 hx.1 rfl ?_
      refine ev_iload d_X5_owners_30 rfl ?_
      refine ev_callV (ci := 0) (b := 9) (M' := it_m_X0_hasGlass) (d' := 2) (As := [.int v5]) d_X5_owners_32 ml_IcedTooSoon_107 ((hx).2.2.2.1).1.1 ((hx).2.2.2.1).1.2.1 ⟨_, rfl, rfl⟩ rfl rfl (Nat.le_of_ble_eq_true rfl) (by decide) (by decide) (by decide) (L_X0_hasGlass (hx.2.1) (hx).2.2.2.1 (it_ok_b h)) (fun _ _ _ _ q => by cases q.1; rfl) ?_
      rintro _ _ S5 ⟨rfl, r6, rfl, h⟩
      show it_Ev g l 7 it_m_X5_owners 0 0 35 [some (.ref 0), some (.int x1), some (.int x2), none, some (.int v4), some (.int v5)] [.int r6] κ S5 (it_pi κ P)
      refine ev_if_eq (tgt := 86) d_X5_owners_35 (by decide) (fun hc7 => ?_) (fun hc7 => ?_)
      · have h := it_ok_t h hc7
        refine ev_iinc d_X5_owners_86 kv_iconst_1 rfl (by decide) ?_
        show it_Ev g l 7 it_m_X5_owners 0 0 89 [some (.ref 0), some (.int x1), some (.int x2), none, some (.int v4), some (.int (v5 + 1))] [] κ S5 (it_pi κ P)
        refine ev_goto (tgt := 19) d_X5_owners_89 (by decide) ?_
        refine ev_keep [true, true, true, false, true, true] ?_
        exact ih19 _ _ _ h
      · have h := it_ok_f h hc7
        refine ev_aload_n d_X5_owners_38 rfl ?_
        refine ev_getRr (r := 9) rfl d_X5_owners_39 fl_IcedTooSoon_28 hx.1 rfl ?_
        refine ev_getRr (r := (9 + 5)) rfl d_X5_owners_42 fl_IcedTooSoon_148 ((hx).2.2.2.1).1 rfl ?_
        refine ev_iload d_X5_owners_45 rfl ?_
        obtain ⟨hb8, h⟩ := it_ok_g h
        refine ev_iald d_X5_owners_47 ((hx).2.2.2.1).2.2.2.2.2.1 (it_bd_in hb8) ?_
        refine ev_iload_n d_X5_owners_48 rfl ?_
        refine ev_icmp_eq (tgt := 86) d_X5_owners_49 (by decide) (fun hc9 => ?_) (fun hc9 => ?_)
        · have h := it_ok_t h hc9
          refine ev_iinc d_X5_owners_86 kv_iconst_1 rfl (by decide) ?_
          show it_Ev g l 7 it_m_X5_owners 0 0 89 [some (.ref 0), some (.int x1), some (.int x2), none, some (.int v4), some (.int (v5 + 1))] [] κ S5 (it_pi κ P)
          refine ev_goto (tgt := 19) d_X5_owners_89 (by decide) ?_
          refine ev_keep [true, true, true, false, true, true] ?_
          exact ih19 _ _ _ h
        · have h := it_ok_f h hc9
          refine ev_aload_n d_X5_owners_52 rfl ?_
          refine ev_callV (ci := 5) (b := 0) (M' := it_m_X5_think) (d' := 3) (As := []) d_X5_owners_53 ml_IcedTooSoon_180 hx.1.1 hx.1.2.1 ⟨_, rfl, rfl⟩ rfl rfl (Nat.le_of_ble_eq_true rfl) (by decide) (by decide) (by decide) (L_X5_think hx (it_ok_b h)) (fun _ _ _ _ q => by cases q.1; rfl) ?_
          rintro _ _ S10 ⟨rfl, rfl, h⟩
          show it_Ev g l 7 it_m_X5_owners 0 0 56 [some (.ref 0), some (.int x1), some (.int x2), none, some (.int v4), some (.int v5)] [] κ S10 (it_pi κ P)
          refine ev_aload_n d_X5_owners_56 rfl ?_
          refine ev_getRr (r := 17) rfl d_X5_owners_57 fl_IcedTooSoon_32 hx.1 rfl ?_
          refine ev_getRr (r := (17 + 5)) rfl d_X5_owners_60 fl_IcedTooSoon_148 ((hx).2.2.2.2.1).1 rfl ?_
          refine ev_iload d_X5_owners_63 rfl ?_
          refine ev_iload_n d_X5_owners_65 rfl ?_
          refine ev_iast d_X5_owners_66 (by decide) ((hx).2.2.2.2.1).2.2.2.2.2.1 (it_bd_in hb8) ?_
          refine ev_aload_n d_X5_owners_67 rfl ?_
          refine ev_iload_n d_X5_owners_68 rfl ?_
          refine ev_iload_n d_X5_owners_69 rfl ?_
          refine ev_callV (ci := 5) (b := 0) (M' := it_m_X5_firstOtherwise) (d' := 6) (As := [.int x1, .int x2]) d_X5_owners_70 ml_IcedTooSoon_210 hx.1.1 hx.1.2.1 ⟨_, rfl, rfl⟩ rfl rfl (Nat.le_of_ble_eq_true rfl) (by decide) (by decide) (by decide) (L_X5_firstOtherwise hx (it_ok_b h)) (fun _ _ _ _ q => by cases q.1; rfl) ?_
          rintro _ _ S12 ⟨rfl, r13, rfl, h⟩
          show it_Ev g l 7 it_m_X5_owners 0 0 73 [some (.ref 0), some (.int x1), some (.int x2), none, some (.int v4), some (.int v5)] [.int r13] κ S12 (it_pi κ P)
          refine ev_iconst d_X5_owners_73 kv_iconst_m1 ?_
          refine ev_icmp_ne (tgt := 86) d_X5_owners_74 (by decide) (fun hc14 => ?_) (fun hc14 => ?_)
          · have h := it_ok_f h hc14
            refine ev_iinc d_X5_owners_86 kv_iconst_1 rfl (by decide) ?_
            show it_Ev g l 7 it_m_X5_owners 0 0 89 [some (.ref 0), some (.int x1), some (.int x2), none, some (.int v4), some (.int (v5 + 1))] [] κ S12 (it_pi κ P)
            refine ev_goto (tgt := 19) d_X5_owners_89 (by decide) ?_
            refine ev_keep [true, true, true, false, true, true] ?_
            exact ih19 _ _ _ h
          · have h := it_ok_t h hc14
            refine ev_iload d_X5_owners_77 rfl ?_
            refine ev_iconst d_X5_owners_79 kv_iconst_1 ?_
            refine ev_iload d_X5_owners_80 rfl ?_
            refine ev_ishl d_X5_owners_82 ?_
            refine ev_ior d_X5_owners_83 ?_
            refine ev_istore d_X5_owners_84 (by decide) ?_
            show it_Ev g l 7 it_m_X5_owners 0 0 86 [some (.ref 0), some (.int x1), some (.int x2), none, some (.int (v4 ||| (1 <<< (v5 &&& 31)))), some (.int v5)] [] κ S12 (it_pi κ P)
            refine ev_iinc d_X5_owners_86 kv_iconst_1 rfl (by decide) ?_
            show it_Ev g l 7 it_m_X5_owners 0 0 89 [some (.ref 0), some (.int x1), some (.int x2), none, some (.int (v4 ||| (1 <<< (v5 &&& 31)))), some (.int (v5 + 1))] [] κ S12 (it_pi κ P)
            refine ev_goto (tgt := 19) d_X5_owners_89 (by decide) ?_
            refine ev_keep [true, true, true, false, true, true] ?_
            exact ih19 _ _ _ h
set_option maxHeartbeats 4000000 in
set_option maxRecDepth 100000 in
theorem L_X5_owners {g : it_G} {l : Launch} {κ : it_KK} {x1 : Int32} {x2 : Int32} (hx : it_wx κ) {S : it_SS} {P : Int32 → it_SS → Prop} (h : it_ok (f_X5_owners κ x1 x2 S) P) : it_Cn g l 7 it_m_X5_owners [.ref 0, .int x1, .int x2] κ S (it_pi κ P) := by
  refine it_Cn.of (by decide +kernel) (Nat.le_of_ble_eq_true rfl) ?_
  rw [f_X5_owners] at h
  show it_Ev g l 7 it_m_X5_owners 0 0 0 [some (.ref 0), some (.int x1), some (.int x2), none, none, none] [] κ S (it_pi κ P)
  refine ev_aload_n d_X5_owners_0 rfl ?_
  refine ev_iload_n d_X5_owners_1 rfl ?_
  refine ev_iload_n d_X5_owners_2 rfl ?_
  refine ev_callV (ci := 5) (b := 0) (M' := it_m_X5_refusalOfDays) (d' := 4) (As := [.int x1, .int x2]) d_X5_owners_3 ml_IcedTooSoon_207 hx.1.1 hx.1.2.1 ⟨_, rfl, rfl⟩ rfl rfl (Nat.le_of_ble_eq_true rfl) (by decide) (by decide) (by decide) (L_X5_refusalOfDays hx (it_ok_b h)) (fun _ _ _ _ q => by cases q.1; rfl) ?_
  rintro _ _ S1 ⟨rfl, r2, rfl, h⟩
  show it_Ev g l 7 it_m_X5_owners 0 0 6 [some (.ref 0), some (.int x1), some (.int x2), none, none, none] [.int r2] κ S1 (it_pi κ P)
  refine ev_istore_n d_X5_owners_6 (by decide) ?_
  show it_Ev g l 7 it_m_X5_owners 0 0 7 [some (.ref 0), some (.int x1), some (.int x2), some (.int r2), none, none] [] κ S1 (it_pi κ P)
  refine ev_iload_n d_X5_owners_7 rfl ?_
  refine ev_if_eq (tgt := 13) d_X5_owners_8 (by decide) (fun hc3 => ?_) (fun hc3 => ?_)
  · have h := it_ok_t h hc3
    refine ev_iconst d_X5_owners_13 kv_iconst_0 ?_
    refine ev_istore d_X5_owners_14 (by decide) ?_
    show it_Ev g l 7 it_m_X5_owners 0 0 16 [some (.ref 0), some (.int x1), some (.int x2), some (.int r2), some (.int 0), none] [] κ S1 (it_pi κ P)
    refine ev_iconst d_X5_owners_16 kv_iconst_0 ?_
    refine ev_istore d_X5_owners_17 (by decide) ?_
    show it_Ev g l 7 it_m_X5_owners 0 0 19 [some (.ref 0), some (.int x1), some (.int x2), some (.int r2), some (.int 0), some (.int 0)] [] κ S1 (it_pi κ P)
    refine ev_keep [true, true, true, false, true, true] ?_
    refine Llp_X5_owners_19 hx (fun v15 S16 h => ?_) _ _ _ _ h
    show it_Ev g l 7 it_m_X5_owners 0 0 92 [none, none, none, none, some (.int v15), none] [] κ S16 (it_pi κ P)
    refine ev_iload d_X5_owners_92 rfl ?_
    exact ev_ret (v := some (.int _)) ⟨d_X5_owners_94, _, rfl, rfl⟩ (by decide) (by decide) ⟨rfl, _, rfl, it_ok_r h⟩
  · have h := it_ok_f h hc3
    refine ev_iload_n d_X5_owners_11 rfl ?_
    exact ev_ret (v := some (.int _)) ⟨d_X5_owners_12, _, rfl, rfl⟩ (by decide) (by decide) ⟨rfl, _, rfl, it_ok_r h⟩
theorem d_X5_who_0 : decode prog_1_method_28_code 0 = .ok (.aload_n 0, 1) := by decide +kernel
theorem d_X5_who_1 : decode prog_1_method_28_code 1 = .ok (.iload_n 1, 1) := by decide +kernel
theorem d_X5_who_2 : decode prog_1_method_28_code 2 = .ok (.invokevirtual 216, 3) := by decide +kernel
theorem d_X5_who_5 : decode prog_1_method_28_code 5 = .ok (.istore_n 2, 1) := by decide +kernel
theorem d_X5_who_6 : decode prog_1_method_28_code 6 = .ok (.iload_n 2, 1) := by decide +kernel
theorem d_X5_who_7 : decode prog_1_method_28_code 7 = .ok (.ifCond .eq 5, 3) := by decide +kernel
theorem d_X5_who_10 : decode prog_1_method_28_code 10 = .ok (.iload_n 2, 1) := by decide +kernel
theorem d_X5_who_11 : decode prog_1_method_28_code 11 = .ok (.ireturn, 1) := by decide +kernel
theorem d_X5_who_12 : decode prog_1_method_28_code 12 = .ok (.iconst 0, 1) := by decide +kernel
theorem d_X5_who_13 : decode prog_1_method_28_code 13 = .ok (.istore_n 3, 1) := by decide +kernel
theorem d_X5_who_14 : decode prog_1_method_28_code 14 = .ok (.iconst 0, 1) := by decide +kernel
theorem d_X5_who_15 : decode prog_1_method_28_code 15 = .ok (.istore 4, 2) := by decide +kernel
theorem d_X5_who_17 : decode prog_1_method_28_code 17 = .ok (.iload 4, 2) := by decide +kernel
theorem d_X5_who_19 : decode prog_1_method_28_code 19 = .ok (.aload_n 0, 1) := by decide +kernel
theorem d_X5_who_20 : decode prog_1_method_28_code 20 = .ok (.getfield 28, 3) := by decide +kernel
theorem d_X5_who_23 : decode prog_1_method_28_code 23 = .ok (.getfield 79, 3) := by decide +kernel
theorem d_X5_who_26 : decode prog_1_method_28_code 26 = .ok (.if_icmp .ge 31, 3) := by decide +kernel
theorem d_X5_who_29 : decode prog_1_method_28_code 29 = .ok (.aload_n 0, 1) := by decide +kernel
theorem d_X5_who_30 : decode prog_1_method_28_code 30 = .ok (.invokevirtual 180, 3) := by decide +kernel
theorem d_X5_who_33 : decode prog_1_method_28_code 33 = .ok (.aload_n 0, 1) := by decide +kernel
theorem d_X5_who_34 : decode prog_1_method_28_code 34 = .ok (.iload_n 1, 1) := by decide +kernel
theorem d_X5_who_35 : decode prog_1_method_28_code 35 = .ok (.iload 4, 2) := by decide +kernel
theorem d_X5_who_37 : decode prog_1_method_28_code 37 = .ok (.invokevirtual 210, 3) := by decide +kernel
theorem d_X5_who_40 : decode prog_1_method_28_code 40 = .ok (.iconst (-1), 1) := by decide +kernel
theorem d_X5_who_41 : decode prog_1_method_28_code 41 = .ok (.if_icmp .ne 10, 3) := by decide +kernel
theorem d_X5_who_44 : decode prog_1_method_28_code 44 = .ok (.iload_n 3, 1) := by decide +kernel
theorem d_X5_who_45 : decode prog_1_method_28_code 45 = .ok (.iconst 1, 1) := by decide +kernel
theorem d_X5_who_46 : decode prog_1_method_28_code 46 = .ok (.iload 4, 2) := by decide +kernel
theorem d_X5_who_48 : decode prog_1_method_28_code 48 = .ok (.ishl, 1) := by decide +kernel
theorem d_X5_who_49 : decode prog_1_method_28_code 49 = .ok (.ior, 1) := by decide +kernel
theorem d_X5_who_50 : decode prog_1_method_28_code 50 = .ok (.istore_n 3, 1) := by decide +kernel
theorem d_X5_who_51 : decode prog_1_method_28_code 51 = .ok (.iinc 4 1, 3) := by decide +kernel
theorem d_X5_who_54 : decode prog_1_method_28_code 54 = .ok (.goto (-37), 3) := by decide +kernel
theorem d_X5_who_57 : decode prog_1_method_28_code 57 = .ok (.iload_n 3, 1) := by decide +kernel
theorem d_X5_who_58 : decode prog_1_method_28_code 58 = .ok (.ireturn, 1) := by decide +kernel
def lp_X5_who_17 (κ : it_KK) (x1 : Int32) (k17 : (Int32 → it_SS → Option (Int32 × it_SS))) : Nat → Int32 → Int32 → it_SS → Option (Int32 × it_SS)
  | 0, _, _, _ => none
  | n17 + 1, v3, v4, S => if (S 9 1) ≤ v4 then
k17 v3 S
else
it_bi (f_X5_think κ  S) (fun _ S5 =>
it_bi (f_X5_firstOtherwise κ x1 v4 S5) (fun r8 S7 =>
if r8 = (-1) then
lp_X5_who_17 κ x1 k17 n17 (v3 ||| (1 <<< (v4 &&& 31))) (v4 + 1) S7
else
lp_X5_who_17 κ x1 k17 n17 v3 (v4 + 1) S7))
def f_X5_who (κ : it_KK) (x1 : Int32) (S : it_SS) : Option (Int32 × it_SS) :=
it_bi (f_X5_refusalOfSheet κ x1 S) (fun r2 S1 =>
if r2 = 0 then
lp_X5_who_17 κ x1 (fun v10 S11 =>
some (v10, S11)) it_FU 0 0 S1
else
some (r2, S1))
set_option maxHeartbeats 4000000 in
set_option maxRecDepth 100000 in
theorem Llp_X5_who_17 {g : it_G} {l : Launch} {κ : it_KK} {x1 : Int32} (hx : it_wx κ) {P : Int32 → it_SS → Prop} {k17 : (Int32 → it_SS → Option (Int32 × it_SS))} (hk17 : ∀ (v3 : Int32) (S : it_SS), it_ok (k17 v3 S) P → it_Ev g l 7 it_m_X5_who 0 0 57 [none, none, none, some (.int v3), none] [] κ S (it_pi κ P)) : ∀ (n : Nat) (v3 : Int32) (v4 : Int32) (S : it_SS), it_ok (lp_X5_who_17 κ x1 k17 n v3 v4 S) P → it_Ev g l 7 it_m_X5_who 0 0 17 [some (.ref 0), some (.int x1), none, some (.int v3), some (.int v4)] [] κ S (it_pi κ P) := by
  intro n
  induction n with
  | zero =>
    intro _ _ _ h
    exact (it_ok_n h).elim
  | succ n17 ih17 =>
    intro v3 v4 S h
    rw [lp_X5_who_17] at h
    refine ev_iload d_X5_who_17 rfl ?_
    refine ev_aload_n d_X5_who_19 rfl ?_
    refine ev_getRr (r := 9) rfl d_X5_who_20 fl_IcedTooSoon_28 hx.1 rfl ?_
    refine ev_getI d_X5_who_23 fl_IcedTooSoon_79 ((hx).2.2.2.1).1 rfl ?_
    refine ev_icmp_ge (tgt := 57) d_X5_who_26 (by decide) (fun hc4 => ?_) (fun hc4 => ?_)
    · have h := it_ok_t h hc4
      refine ev_keep [false, false, false, true, false] ?_
      exact hk17 _ _ h
    · have h := it_ok_f h hc4
      refine ev_aload_n d_X5_who_29 rfl ?_
      refine ev_callV (ci := 5) (b := 0) (M' := it_m_X5_think) (d' := 3) (As := []) d_X5_who_30 ml_IcedTooSoon_180 hx.1.1 hx.1.2.1 ⟨_, rfl, rfl⟩ rfl rfl (Nat.le_of_ble_eq_true rfl) (by decide) (by decide) (by decide) (L_X5_think hx (it_ok_b h)) (fun _ _ _ _ q => by cases q.1; rfl) ?_
      rintro _ _ S5 ⟨rfl, rfl, h⟩
      show it_Ev g l 7 it_m_X5_who 0 0 33 [some (.ref 0), some (.int x1), none, some (.int v3), some (.int v4)] [] κ S5 (it_pi κ P)
      refine ev_aload_n d_X5_who_33 rfl ?_
      refine ev_iload_n d_X5_who_34 rfl ?_
      refine ev_iload d_X5_who_35 rfl ?_
      refine ev_callV (ci := 5) (b := 0) (M' := it_m_X5_firstOtherwise) (d' := 6) (As := [.int x1, .int v4]) d_X5_who_37 ml_IcedTooSoon_210 hx.1.1 hx.1.2.1 ⟨_, rfl, rfl⟩ rfl rfl (Nat.le_of_ble_eq_true rfl) (by decide) (by decide) (by decide) (L_X5_firstOtherwise hx (it_ok_b h)) (fun _ _ _ _ q => by cases q.1; rfl) ?_
      rintro _ _ S7 ⟨rfl, r8, rfl, h⟩
      show it_Ev g l 7 it_m_X5_who 0 0 40 [some (.ref 0), some (.int x1), none, some (.int v3), some (.int v4)] [.int r8] κ S7 (it_pi κ P)
      refine ev_iconst d_X5_who_40 kv_iconst_m1 ?_
      refine ev_icmp_ne (tgt := 51) d_X5_who_41 (by decide) (fun hc9 => ?_) (fun hc9 => ?_)
      · have h := it_ok_f h hc9
        refine ev_iinc d_X5_who_51 kv_iconst_1 rfl (by decide) ?_
        show it_Ev g l 7 it_m_X5_who 0 0 54 [some (.ref 0), some (.int x1), none, some (.int v3), some (.int (v4 + 1))] [] κ S7 (it_pi κ P)
        refine ev_goto (tgt := 17) d_X5_who_54 (by decide) ?_
        refine ev_keep [true, true, false, true, true] ?_
        exact ih17 _ _ _ h
      · have h := it_ok_t h hc9
        refine ev_iload_n d_X5_who_44 rfl ?_
        refine ev_iconst d_X5_who_45 kv_iconst_1 ?_
        refine ev_iload d_X5_who_46 rfl ?_
        refine ev_ishl d_X5_who_48 ?_
        refine ev_ior d_X5_who_49 ?_
        refine ev_istore_n d_X5_who_50 (by decide) ?_
        show it_Ev g l 7 it_m_X5_who 0 0 51 [some (.ref 0), some (.int x1), none, some (.int (v3 ||| (1 <<< (v4 &&& 31)))), some (.int v4)] [] κ S7 (it_pi κ P)
        refine ev_iinc d_X5_who_51 kv_iconst_1 rfl (by decide) ?_
        show it_Ev g l 7 it_m_X5_who 0 0 54 [some (.ref 0), some (.int x1), none, some (.int (v3 ||| (1 <<< (v4 &&& 31)))), some (.int (v4 + 1))] [] κ S7 (it_pi κ P)
        refine ev_goto (tgt := 17) d_X5_who_54 (by decide) ?_
        refine ev_keep [true, true, false, true, true] ?_
        exact ih17 _ _ _ h
set_option maxHeartbeats 4000000 in
set_option maxRecDepth 100000 in
theorem L_X5_who {g : it_G} {l : Launch} {κ : it_KK} {x1 : Int32} (hx : it_wx κ) {S : it_SS} {P : Int32 → it_SS → Prop} (h : it_ok (f_X5_who κ x1 S) P) : it_Cn g l 7 it_m_X5_who [.ref 0, .int x1] κ S (it_pi κ P) := by
  refine it_Cn.of (by decide +kernel) (Nat.le_of_ble_eq_true rfl) ?_
  rw [f_X5_who] at h
  show it_Ev g l 7 it_m_X5_who 0 0 0 [some (.ref 0), some (.int x1), none, none, none] [] κ S (it_pi κ P)
  refine ev_aload_n d_X5_who_0 rfl ?_
  refine ev_iload_n d_X5_who_1 rfl ?_
  refine ev_callV (ci := 5) (b := 0) (M' := it_m_X5_refusalOfSheet) (d' := 3) (As := [.int x1]) d_X5_who_2 ml_IcedTooSoon_216 hx.1.1 hx.1.2.1 ⟨_, rfl, rfl⟩ rfl rfl (Nat.le_of_ble_eq_true rfl) (by decide) (by decide) (by decide) (L_X5_refusalOfSheet hx (it_ok_b h)) (fun _ _ _ _ q => by cases q.1; rfl) ?_
  rintro _ _ S1 ⟨rfl, r2, rfl, h⟩
  show it_Ev g l 7 it_m_X5_who 0 0 5 [some (.ref 0), some (.int x1), none, none, none] [.int r2] κ S1 (it_pi κ P)
  refine ev_istore_n d_X5_who_5 (by decide) ?_
  show it_Ev g l 7 it_m_X5_who 0 0 6 [some (.ref 0), some (.int x1), some (.int r2), none, none] [] κ S1 (it_pi κ P)
  refine ev_iload_n d_X5_who_6 rfl ?_
  refine ev_if_eq (tgt := 12) d_X5_who_7 (by decide) (fun hc3 => ?_) (fun hc3 => ?_)
  · have h := it_ok_t h hc3
    refine ev_iconst d_X5_who_12 kv_iconst_0 ?_
    refine ev_istore_n d_X5_who_13 (by decide) ?_
    show it_Ev g l 7 it_m_X5_who 0 0 14 [some (.ref 0), some (.int x1), some (.int r2), some (.int 0), none] [] κ S1 (it_pi κ P)
    refine ev_iconst d_X5_who_14 kv_iconst_0 ?_
    refine ev_istore d_X5_who_15 (by decide) ?_
    show it_Ev g l 7 it_m_X5_who 0 0 17 [some (.ref 0), some (.int x1), some (.int r2), some (.int 0), some (.int 0)] [] κ S1 (it_pi κ P)
    refine ev_keep [true, true, false, true, true] ?_
    refine Llp_X5_who_17 hx (fun v10 S11 h => ?_) _ _ _ _ h
    show it_Ev g l 7 it_m_X5_who 0 0 57 [none, none, none, some (.int v10), none] [] κ S11 (it_pi κ P)
    refine ev_iload_n d_X5_who_57 rfl ?_
    exact ev_ret (v := some (.int _)) ⟨d_X5_who_58, _, rfl, rfl⟩ (by decide) (by decide) ⟨rfl, _, rfl, it_ok_r h⟩
  · have h := it_ok_f h hc3
    refine ev_iload_n d_X5_who_10 rfl ?_
    exact ev_ret (v := some (.int _)) ⟨d_X5_who_11, _, rfl, rfl⟩ (by decide) (by decide) ⟨rfl, _, rfl, it_ok_r h⟩
theorem d_X5_laws_0 : decode prog_1_method_29_code 0 = .ok (.aload_n 0, 1) := by decide +kernel
theorem d_X5_laws_1 : decode prog_1_method_29_code 1 = .ok (.iload_n 1, 1) := by decide +kernel
theorem d_X5_laws_2 : decode prog_1_method_29_code 2 = .ok (.iload_n 2, 1) := by decide +kernel
theorem d_X5_laws_3 : decode prog_1_method_29_code 3 = .ok (.invokevirtual 207, 3) := by decide +kernel
theorem d_X5_laws_6 : decode prog_1_method_29_code 6 = .ok (.istore_n 3, 1) := by decide +kernel
theorem d_X5_laws_7 : decode prog_1_method_29_code 7 = .ok (.iload_n 3, 1) := by decide +kernel
theorem d_X5_laws_8 : decode prog_1_method_29_code 8 = .ok (.ifCond .eq 5, 3) := by decide +kernel
theorem d_X5_laws_11 : decode prog_1_method_29_code 11 = .ok (.iload_n 3, 1) := by decide +kernel
theorem d_X5_laws_12 : decode prog_1_method_29_code 12 = .ok (.ireturn, 1) := by decide +kernel
theorem d_X5_laws_13 : decode prog_1_method_29_code 13 = .ok (.iconst 0, 1) := by decide +kernel
theorem d_X5_laws_14 : decode prog_1_method_29_code 14 = .ok (.istore 4, 2) := by decide +kernel
theorem d_X5_laws_16 : decode prog_1_method_29_code 16 = .ok (.iconst 0, 1) := by decide +kernel
theorem d_X5_laws_17 : decode prog_1_method_29_code 17 = .ok (.istore 5, 2) := by decide +kernel
theorem d_X5_laws_19 : decode prog_1_method_29_code 19 = .ok (.iload 5, 2) := by decide +kernel
theorem d_X5_laws_21 : decode prog_1_method_29_code 21 = .ok (.aload_n 0, 1) := by decide +kernel
theorem d_X5_laws_22 : decode prog_1_method_29_code 22 = .ok (.getfield 10, 3) := by decide +kernel
theorem d_X5_laws_25 : decode prog_1_method_29_code 25 = .ok (.getfield 89, 3) := by decide +kernel
theorem d_X5_laws_28 : decode prog_1_method_29_code 28 = .ok (.if_icmp .ge 41, 3) := by decide +kernel
theorem d_X5_laws_31 : decode prog_1_method_29_code 31 = .ok (.aload_n 0, 1) := by decide +kernel
theorem d_X5_laws_32 : decode prog_1_method_29_code 32 = .ok (.invokevirtual 180, 3) := by decide +kernel
theorem d_X5_laws_35 : decode prog_1_method_29_code 35 = .ok (.aload_n 0, 1) := by decide +kernel
theorem d_X5_laws_36 : decode prog_1_method_29_code 36 = .ok (.getfield 32, 3) := by decide +kernel
theorem d_X5_laws_39 : decode prog_1_method_29_code 39 = .ok (.iload 5, 2) := by decide +kernel
theorem d_X5_laws_41 : decode prog_1_method_29_code 41 = .ok (.putfield 92, 3) := by decide +kernel
theorem d_X5_laws_44 : decode prog_1_method_29_code 44 = .ok (.aload_n 0, 1) := by decide +kernel
theorem d_X5_laws_45 : decode prog_1_method_29_code 45 = .ok (.iload_n 1, 1) := by decide +kernel
theorem d_X5_laws_46 : decode prog_1_method_29_code 46 = .ok (.iload_n 2, 1) := by decide +kernel
theorem d_X5_laws_47 : decode prog_1_method_29_code 47 = .ok (.invokevirtual 210, 3) := by decide +kernel
theorem d_X5_laws_50 : decode prog_1_method_29_code 50 = .ok (.iconst (-1), 1) := by decide +kernel
theorem d_X5_laws_51 : decode prog_1_method_29_code 51 = .ok (.if_icmp .ne 12, 3) := by decide +kernel
theorem d_X5_laws_54 : decode prog_1_method_29_code 54 = .ok (.iload 4, 2) := by decide +kernel
theorem d_X5_laws_56 : decode prog_1_method_29_code 56 = .ok (.iconst 1, 1) := by decide +kernel
theorem d_X5_laws_57 : decode prog_1_method_29_code 57 = .ok (.iload 5, 2) := by decide +kernel
theorem d_X5_laws_59 : decode prog_1_method_29_code 59 = .ok (.ishl, 1) := by decide +kernel
theorem d_X5_laws_60 : decode prog_1_method_29_code 60 = .ok (.ior, 1) := by decide +kernel
theorem d_X5_laws_61 : decode prog_1_method_29_code 61 = .ok (.istore 4, 2) := by decide +kernel
theorem d_X5_laws_63 : decode prog_1_method_29_code 63 = .ok (.iinc 5 1, 3) := by decide +kernel
theorem d_X5_laws_66 : decode prog_1_method_29_code 66 = .ok (.goto (-47), 3) := by decide +kernel
theorem d_X5_laws_69 : decode prog_1_method_29_code 69 = .ok (.iload 4, 2) := by decide +kernel
theorem d_X5_laws_71 : decode prog_1_method_29_code 71 = .ok (.ireturn, 1) := by decide +kernel
def lp_X5_laws_19 (κ : it_KK) (x1 : Int32) (x2 : Int32) (k19 : (Int32 → it_SS → Option (Int32 × it_SS))) : Nat → Int32 → Int32 → it_SS → Option (Int32 × it_SS)
  | 0, _, _, _ => none
  | n19 + 1, v4, v5, S => if (S 1 3) ≤ v5 then
k19 v4 S
else
it_bi (f_X5_think κ  S) (fun _ S5 =>
it_bi (f_X5_firstOtherwise κ x1 x2 (it_up S5 17 10 v5)) (fun r8 S7 =>
if r8 = (-1) then
lp_X5_laws_19 κ x1 x2 k19 n19 (v4 ||| (1 <<< (v5 &&& 31))) (v5 + 1) S7
else
lp_X5_laws_19 κ x1 x2 k19 n19 v4 (v5 + 1) S7))
def f_X5_laws (κ : it_KK) (x1 : Int32) (x2 : Int32) (S : it_SS) : Option (Int32 × it_SS) :=
it_bi (f_X5_refusalOfDays κ x1 x2 S) (fun r2 S1 =>
if r2 = 0 then
lp_X5_laws_19 κ x1 x2 (fun v10 S11 =>
some (v10, S11)) it_FU 0 0 S1
else
some (r2, S1))
set_option maxHeartbeats 4000000 in
set_option maxRecDepth 100000 in
theorem Llp_X5_laws_19 {g : it_G} {l : Launch} {κ : it_KK} {x1 : Int32} {x2 : Int32} (hx : it_wx κ) {P : Int32 → it_SS → Prop} {k19 : (Int32 → it_SS → Option (Int32 × it_SS))} (hk19 : ∀ (v4 : Int32) (S : it_SS), it_ok (k19 v4 S) P → it_Ev g l 7 it_m_X5_laws 0 0 69 [none, none, none, none, some (.int v4), none] [] κ S (it_pi κ P)) : ∀ (n : Nat) (v4 : Int32) (v5 : Int32) (S : it_SS), it_ok (lp_X5_laws_19 κ x1 x2 k19 n v4 v5 S) P → it_Ev g l 7 it_m_X5_laws 0 0 19 [some (.ref 0), some (.int x1), some (.int x2), none, some (.int v4), some (.int v5)] [] κ S (it_pi κ P) := by
  intro n
  induction n with
  | zero =>
    intro _ _ _ h
    exact (it_ok_n h).elim
  | succ n19 ih19 =>
    intro v4 v5 S h
    rw [lp_X5_laws_19] at h
    refine ev_iload d_X5_laws_19 rfl ?_
    refine ev_aload_n d_X5_laws_21 rfl ?_
    refine ev_getRr (r := 1) rfl d_X5_laws_22 fl_IcedTooSoon_10 hx.1 rfl ?_
    refine ev_getI d_X5_laws_25 fl_IcedTooSoon_89 (hx.2.1).1 rfl ?_
    refine ev_icmp_ge (tgt := 69) d_X5_laws_28 (by decide) (fun hc4 => ?_) (fun hc4 => ?_)
    · have h := it_ok_t h hc4
      refine ev_keep [false, false, false, false, true, false] ?_
      exact hk19 _ _ h
    · have h := it_ok_f h hc4
      refine ev_aload_n d_X5_laws_31 rfl ?_
      refine ev_callV (ci := 5) (b := 0) (M' := it_m_X5_think) (d' := 3) (As := []) d_X5_laws_32 ml_IcedTooSoon_180 hx.1.1 hx.1.2.1 ⟨_, rfl, rfl⟩ rfl rfl (Nat.le_of_ble_eq_true rfl) (by decide) (by decide) (by decide) (L_X5_think hx (it_ok_b h)) (fun _ _ _ _ q => by cases q.1; rfl) ?_
      rintro _ _ S5 ⟨rfl, rfl, h⟩
      show it_Ev g l 7 it_m_X5_laws 0 0 35 [some (.ref 0), some (.int x1), some (.int x2), none, some (.int v4), some (.int v5)] [] κ S5 (it_pi κ P)
      refine ev_aload_n d_X5_laws_35 rfl ?_
      refine ev_getRr (r := 17) rfl d_X5_laws_36 fl_IcedTooSoon_32 hx.1 rfl ?_
      refine ev_iload d_X5_laws_39 rfl ?_
      refine ev_putI d_X5_laws_41 (by decide) fl_IcedTooSoon_92 fw_0_10 ((hx).2.2.2.2.1).1 rfl ?_
      refine ev_aload_n d_X5_laws_44 rfl ?_
      refine ev_iload_n d_X5_laws_45 rfl ?_
      refine ev_iload_n d_X5_laws_46 rfl ?_
      refine ev_callV (ci := 5) (b := 0) (M' := it_m_X5_firstOtherwise) (d' := 6) (As := [.int x1, .int x2]) d_X5_laws_47 ml_IcedTooSoon_210 hx.1.1 hx.1.2.1 ⟨_, rfl, rfl⟩ rfl rfl (Nat.le_of_ble_eq_true rfl) (by decide) (by decide) (by decide) (L_X5_firstOtherwise hx (it_ok_b h)) (fun _ _ _ _ q => by cases q.1; rfl) ?_
      rintro _ _ S7 ⟨rfl, r8, rfl, h⟩
      show it_Ev g l 7 it_m_X5_laws 0 0 50 [some (.ref 0), some (.int x1), some (.int x2), none, some (.int v4), some (.int v5)] [.int r8] κ S7 (it_pi κ P)
      refine ev_iconst d_X5_laws_50 kv_iconst_m1 ?_
      refine ev_icmp_ne (tgt := 63) d_X5_laws_51 (by decide) (fun hc9 => ?_) (fun hc9 => ?_)
      · have h := it_ok_f h hc9
        refine ev_iinc d_X5_laws_63 kv_iconst_1 rfl (by decide) ?_
        show it_Ev g l 7 it_m_X5_laws 0 0 66 [some (.ref 0), some (.int x1), some (.int x2), none, some (.int v4), some (.int (v5 + 1))] [] κ S7 (it_pi κ P)
        refine ev_goto (tgt := 19) d_X5_laws_66 (by decide) ?_
        refine ev_keep [true, true, true, false, true, true] ?_
        exact ih19 _ _ _ h
      · have h := it_ok_t h hc9
        refine ev_iload d_X5_laws_54 rfl ?_
        refine ev_iconst d_X5_laws_56 kv_iconst_1 ?_
        refine ev_iload d_X5_laws_57 rfl ?_
        refine ev_ishl d_X5_laws_59 ?_
        refine ev_ior d_X5_laws_60 ?_
        refine ev_istore d_X5_laws_61 (by decide) ?_
        show it_Ev g l 7 it_m_X5_laws 0 0 63 [some (.ref 0), some (.int x1), some (.int x2), none, some (.int (v4 ||| (1 <<< (v5 &&& 31)))), some (.int v5)] [] κ S7 (it_pi κ P)
        refine ev_iinc d_X5_laws_63 kv_iconst_1 rfl (by decide) ?_
        show it_Ev g l 7 it_m_X5_laws 0 0 66 [some (.ref 0), some (.int x1), some (.int x2), none, some (.int (v4 ||| (1 <<< (v5 &&& 31)))), some (.int (v5 + 1))] [] κ S7 (it_pi κ P)
        refine ev_goto (tgt := 19) d_X5_laws_66 (by decide) ?_
        refine ev_keep [true, true, true, false, true, true] ?_
        exact ih19 _ _ _ h
set_option maxHeartbeats 4000000 in
set_option maxRecDepth 100000 in
theorem L_X5_laws {g : it_G} {l : Launch} {κ : it_KK} {x1 : Int32} {x2 : Int32} (hx : it_wx κ) {S : it_SS} {P : Int32 → it_SS → Prop} (h : it_ok (f_X5_laws κ x1 x2 S) P) : it_Cn g l 7 it_m_X5_laws [.ref 0, .int x1, .int x2] κ S (it_pi κ P) := by
  refine it_Cn.of (by decide +kernel) (Nat.le_of_ble_eq_true rfl) ?_
  rw [f_X5_laws] at h
  show it_Ev g l 7 it_m_X5_laws 0 0 0 [some (.ref 0), some (.int x1), some (.int x2), none, none, none] [] κ S (it_pi κ P)
  refine ev_aload_n d_X5_laws_0 rfl ?_
  refine ev_iload_n d_X5_laws_1 rfl ?_
  refine ev_iload_n d_X5_laws_2 rfl ?_
  refine ev_callV (ci := 5) (b := 0) (M' := it_m_X5_refusalOfDays) (d' := 4) (As := [.int x1, .int x2]) d_X5_laws_3 ml_IcedTooSoon_207 hx.1.1 hx.1.2.1 ⟨_, rfl, rfl⟩ rfl rfl (Nat.le_of_ble_eq_true rfl) (by decide) (by decide) (by decide) (L_X5_refusalOfDays hx (it_ok_b h)) (fun _ _ _ _ q => by cases q.1; rfl) ?_
  rintro _ _ S1 ⟨rfl, r2, rfl, h⟩
  show it_Ev g l 7 it_m_X5_laws 0 0 6 [some (.ref 0), some (.int x1), some (.int x2), none, none, none] [.int r2] κ S1 (it_pi κ P)
  refine ev_istore_n d_X5_laws_6 (by decide) ?_
  show it_Ev g l 7 it_m_X5_laws 0 0 7 [some (.ref 0), some (.int x1), some (.int x2), some (.int r2), none, none] [] κ S1 (it_pi κ P)
  refine ev_iload_n d_X5_laws_7 rfl ?_
  refine ev_if_eq (tgt := 13) d_X5_laws_8 (by decide) (fun hc3 => ?_) (fun hc3 => ?_)
  · have h := it_ok_t h hc3
    refine ev_iconst d_X5_laws_13 kv_iconst_0 ?_
    refine ev_istore d_X5_laws_14 (by decide) ?_
    show it_Ev g l 7 it_m_X5_laws 0 0 16 [some (.ref 0), some (.int x1), some (.int x2), some (.int r2), some (.int 0), none] [] κ S1 (it_pi κ P)
    refine ev_iconst d_X5_laws_16 kv_iconst_0 ?_
    refine ev_istore d_X5_laws_17 (by decide) ?_
    show it_Ev g l 7 it_m_X5_laws 0 0 19 [some (.ref 0), some (.int x1), some (.int x2), some (.int r2), some (.int 0), some (.int 0)] [] κ S1 (it_pi κ P)
    refine ev_keep [true, true, true, false, true, true] ?_
    refine Llp_X5_laws_19 hx (fun v10 S11 h => ?_) _ _ _ _ h
    show it_Ev g l 7 it_m_X5_laws 0 0 69 [none, none, none, none, some (.int v10), none] [] κ S11 (it_pi κ P)
    refine ev_iload d_X5_laws_69 rfl ?_
    exact ev_ret (v := some (.int _)) ⟨d_X5_laws_71, _, rfl, rfl⟩ (by decide) (by decide) ⟨rfl, _, rfl, it_ok_r h⟩
  · have h := it_ok_f h hc3
    refine ev_iload_n d_X5_laws_11 rfl ?_
    exact ev_ret (v := some (.int _)) ⟨d_X5_laws_12, _, rfl, rfl⟩ (by decide) (by decide) ⟨rfl, _, rfl, it_ok_r h⟩
theorem d_X5_film_0 : decode prog_1_method_30_code 0 = .ok (.iload_n 1, 1) := by decide +kernel
theorem d_X5_film_1 : decode prog_1_method_30_code 1 = .ok (.invokestatic 219, 3) := by decide +kernel
theorem d_X5_film_4 : decode prog_1_method_30_code 4 = .ok (.ifCond .eq 6, 3) := by decide +kernel
theorem d_X5_film_7 : decode prog_1_method_30_code 7 = .ok (.bipush (-2), 2) := by decide +kernel
theorem d_X5_film_9 : decode prog_1_method_30_code 9 = .ok (.ireturn, 1) := by decide +kernel
theorem d_X5_film_10 : decode prog_1_method_30_code 10 = .ok (.aload_n 0, 1) := by decide +kernel
theorem d_X5_film_11 : decode prog_1_method_30_code 11 = .ok (.getfield 28, 3) := by decide +kernel
theorem d_X5_film_14 : decode prog_1_method_30_code 14 = .ok (.iload_n 2, 1) := by decide +kernel
theorem d_X5_film_15 : decode prog_1_method_30_code 15 = .ok (.invokevirtual 117, 3) := by decide +kernel
theorem d_X5_film_18 : decode prog_1_method_30_code 18 = .ok (.ifCond .ne 6, 3) := by decide +kernel
theorem d_X5_film_21 : decode prog_1_method_30_code 21 = .ok (.bipush (-5), 2) := by decide +kernel
theorem d_X5_film_23 : decode prog_1_method_30_code 23 = .ok (.ireturn, 1) := by decide +kernel
theorem d_X5_film_24 : decode prog_1_method_30_code 24 = .ok (.iload_n 3, 1) := by decide +kernel
theorem d_X5_film_25 : decode prog_1_method_30_code 25 = .ok (.iconst 0, 1) := by decide +kernel
theorem d_X5_film_26 : decode prog_1_method_30_code 26 = .ok (.bipush 20, 2) := by decide +kernel
theorem d_X5_film_28 : decode prog_1_method_30_code 28 = .ok (.invokestatic 96, 3) := by decide +kernel
theorem d_X5_film_31 : decode prog_1_method_30_code 31 = .ok (.ifCond .eq 6, 3) := by decide +kernel
theorem d_X5_film_34 : decode prog_1_method_30_code 34 = .ok (.bipush (-7), 2) := by decide +kernel
theorem d_X5_film_36 : decode prog_1_method_30_code 36 = .ok (.ireturn, 1) := by decide +kernel
theorem d_X5_film_37 : decode prog_1_method_30_code 37 = .ok (.aload_n 0, 1) := by decide +kernel
theorem d_X5_film_38 : decode prog_1_method_30_code 38 = .ok (.getfield 44, 3) := by decide +kernel
theorem d_X5_film_41 : decode prog_1_method_30_code 41 = .ok (.iload_n 1, 1) := by decide +kernel
theorem d_X5_film_42 : decode prog_1_method_30_code 42 = .ok (.aaload, 1) := by decide +kernel
theorem d_X5_film_43 : decode prog_1_method_30_code 43 = .ok (.iconst 0, 1) := by decide +kernel
theorem d_X5_film_44 : decode prog_1_method_30_code 44 = .ok (.iload_n 3, 1) := by decide +kernel
theorem d_X5_film_45 : decode prog_1_method_30_code 45 = .ok (.invokevirtual 222, 3) := by decide +kernel
theorem d_X5_film_48 : decode prog_1_method_30_code 48 = .ok (.aload_n 0, 1) := by decide +kernel
theorem d_X5_film_49 : decode prog_1_method_30_code 49 = .ok (.invokevirtual 180, 3) := by decide +kernel
theorem d_X5_film_52 : decode prog_1_method_30_code 52 = .ok (.iconst 0, 1) := by decide +kernel
theorem d_X5_film_53 : decode prog_1_method_30_code 53 = .ok (.istore 4, 2) := by decide +kernel
theorem d_X5_film_55 : decode prog_1_method_30_code 55 = .ok (.iload 4, 2) := by decide +kernel
theorem d_X5_film_57 : decode prog_1_method_30_code 57 = .ok (.iload_n 3, 1) := by decide +kernel
theorem d_X5_film_58 : decode prog_1_method_30_code 58 = .ok (.if_icmp .ge 37, 3) := by decide +kernel
theorem d_X5_film_61 : decode prog_1_method_30_code 61 = .ok (.aload_n 0, 1) := by decide +kernel
theorem d_X5_film_62 : decode prog_1_method_30_code 62 = .ok (.getfield 32, 3) := by decide +kernel
theorem d_X5_film_65 : decode prog_1_method_30_code 65 = .ok (.invokevirtual 166, 3) := by decide +kernel
theorem d_X5_film_68 : decode prog_1_method_30_code 68 = .ok (.pop, 1) := by decide +kernel
theorem d_X5_film_69 : decode prog_1_method_30_code 69 = .ok (.aload_n 0, 1) := by decide +kernel
theorem d_X5_film_70 : decode prog_1_method_30_code 70 = .ok (.getfield 44, 3) := by decide +kernel
theorem d_X5_film_73 : decode prog_1_method_30_code 73 = .ok (.iload_n 1, 1) := by decide +kernel
theorem d_X5_film_74 : decode prog_1_method_30_code 74 = .ok (.aaload, 1) := by decide +kernel
theorem d_X5_film_75 : decode prog_1_method_30_code 75 = .ok (.iload 4, 2) := by decide +kernel
theorem d_X5_film_77 : decode prog_1_method_30_code 77 = .ok (.aload_n 0, 1) := by decide +kernel
theorem d_X5_film_78 : decode prog_1_method_30_code 78 = .ok (.getfield 32, 3) := by decide +kernel
theorem d_X5_film_81 : decode prog_1_method_30_code 81 = .ok (.getfield 124, 3) := by decide +kernel
theorem d_X5_film_84 : decode prog_1_method_30_code 84 = .ok (.iload_n 2, 1) := by decide +kernel
theorem d_X5_film_85 : decode prog_1_method_30_code 85 = .ok (.iaload, 1) := by decide +kernel
theorem d_X5_film_86 : decode prog_1_method_30_code 86 = .ok (.invokevirtual 225, 3) := by decide +kernel
theorem d_X5_film_89 : decode prog_1_method_30_code 89 = .ok (.iinc 4 1, 3) := by decide +kernel
theorem d_X5_film_92 : decode prog_1_method_30_code 92 = .ok (.goto (-37), 3) := by decide +kernel
theorem d_X5_film_95 : decode prog_1_method_30_code 95 = .ok (.iload_n 3, 1) := by decide +kernel
theorem d_X5_film_96 : decode prog_1_method_30_code 96 = .ok (.ireturn, 1) := by decide +kernel
def lp_X5_film_55 (κ : it_KK) (x1 : Int32) (x2 : Int32) (x3 : Int32) (k55 : (it_SS → Option (Int32 × it_SS))) : Nat → Int32 → it_SS → Option (Int32 × it_SS)
  | 0, _, _ => none
  | n55 + 1, v4, S => if x3 ≤ v4 then
k55  S
else
it_bi (f_X0_passDay κ 17 S) (fun r17 S16 =>
if it_bd x2 6 = true then
it_bi (f_X2_write κ (it_el 2 (x1 : Int32).toNatClampNeg) v4 (S16 (17 + 3) (x2 : Int32).toNatClampNeg) S16) (fun _ S19 =>
lp_X5_film_55 κ x1 x2 x3 k55 n55 (v4 + 1) S19)
else none)
def f_X5_film (κ : it_KK) (x1 : Int32) (x2 : Int32) (x3 : Int32) (S : it_SS) : Option (Int32 × it_SS) :=
it_bi (f_X5_isNoSheet κ x1 S) (fun r2 S1 =>
if r2 = 0 then
it_bi (f_X0_hasGuest κ 9 x2 S1) (fun r5 S4 =>
if r5 = 0 then
some ((-5), S4)
else
it_bi (f_X5_isOutside κ x3 0 20 S4) (fun r8 S7 =>
if r8 = 0 then
if it_bd x1 4 = true then
it_bi (f_X2_renew κ (it_el 2 (x1 : Int32).toNatClampNeg) 0 x3 S7) (fun _ S11 =>
it_bi (f_X5_think κ  S11) (fun _ S13 =>
lp_X5_film_55 κ x1 x2 x3 (fun  S21 =>
some (x3, S21)) it_FU 0 S13))
else none
else
some ((-7), S7)))
else
some ((-2), S1))
set_option maxHeartbeats 4000000 in
set_option maxRecDepth 100000 in
theorem Llp_X5_film_55 {g : it_G} {l : Launch} {κ : it_KK} {x1 : Int32} {x2 : Int32} {x3 : Int32} (hx : it_wx κ) (hb10 : it_bd x1 4 = true) {P : Int32 → it_SS → Prop} {k55 : (it_SS → Option (Int32 × it_SS))} (hk55 : ∀  (S : it_SS), it_ok (k55  S) P → it_Ev g l 6 it_m_X5_film 0 0 95 [none, none, none, some (.int x3), none] [] κ S (it_pi κ P)) : ∀ (n : Nat) (v4 : Int32) (S : it_SS), it_ok (lp_X5_film_55 κ x1 x2 x3 k55 n v4 S) P → it_Ev g l 6 it_m_X5_film 0 0 55 [some (.ref 0), some (.int x1), some (.int x2), some (.int x3), some (.int v4)] [] κ S (it_pi κ P) := by
  intro n
  induction n with
  | zero =>
    intro _ _ h
    exact (it_ok_n h).elim
  | succ n55 ih55 =>
    intro v4 S h
    rw [lp_X5_film_55] at h
    refine ev_iload d_X5_film_55 rfl ?_
    refine ev_iload_n d_X5_film_57 rfl ?_
    refine ev_icmp_ge (tgt := 95) d_X5_film_58 (by decide) (fun hc15 => ?_) (fun hc15 => ?_)
    · have h := it_ok_t h hc15
      refine ev_keep [false, false, false, true, false] ?_
      exact hk55  _ h
    · have h := it_ok_f h hc15
      refine ev_aload_n d_X5_film_61 rfl ?_
      refine ev_getRr (r := 17) rfl d_X5_film_62 fl_IcedTooSoon_32 hx.1 rfl ?_
      refine ev_callV (ci := 0) (b := 17) (M' := it_m_X0_passDay) (d' := 5) (As := []) d_X5_film_65 ml_IcedTooSoon_166 ((hx).2.2.2.2.1).1.1 ((hx).2.2.2.2.1).1.2.1 ⟨_, rfl, rfl⟩ rfl rfl (Nat.le_of_ble_eq_true rfl) (by decide) (by decide) (by decide) (L_X0_passDay (hx.2.1) (hx).2.2.2.2.1 (it_ok_b h)) (fun _ _ _ _ q => by cases q.1; rfl) ?_
      rintro _ _ S16 ⟨rfl, r17, rfl, h⟩
      show it_Ev g l 6 it_m_X5_film 0 0 68 [some (.ref 0), some (.int x1), some (.int x2), some (.int x3), some (.int v4)] [.int r17] κ S16 (it_pi κ P)
      refine ev_pop d_X5_film_68 rfl ?_
      refine ev_aload_n d_X5_film_69 rfl ?_
      refine ev_getRr (r := 33) rfl d_X5_film_70 fl_IcedTooSoon_44 hx.1 rfl ?_
      refine ev_iload_n d_X5_film_73 rfl ?_
      refine ev_aald d_X5_film_74 (hx).2.2.2.2.2.2.1 (it_bd_in hb10) ((hx).2.2.2.2.2.2.2.1 _ (it_bd_lt hb10)) ?_
      refine ev_iload d_X5_film_75 rfl ?_
      refine ev_aload_n d_X5_film_77 rfl ?_
      refine ev_getRr (r := 17) rfl d_X5_film_78 fl_IcedTooSoon_32 hx.1 rfl ?_
      refine ev_getRr (r := (17 + 3)) rfl d_X5_film_81 fl_IcedTooSoon_124 ((hx).2.2.2.2.1).1 rfl ?_
      refine ev_iload_n d_X5_film_84 rfl ?_
      obtain ⟨hb18, h⟩ := it_ok_g h
      refine ev_iald d_X5_film_85 ((hx).2.2.2.2.1).2.2.2.1 (it_bd_in hb18) ?_
      refine ev_callV (ci := 2) (b := (it_el 2 (x1 : Int32).toNatClampNeg)) (M' := it_m_X2_write) (d' := 1) (As := [.int v4, .int (S16 (17 + 3) (x2 : Int32).toNatClampNeg)]) d_X5_film_86 ml_IcedTooSoon_225 ((hx).2.2.2.2.2.2.2.2 _ (it_bd_lt hb10)).1.1 ((hx).2.2.2.2.2.2.2.2 _ (it_bd_lt hb10)).1.2.1 ⟨_, rfl, rfl⟩ rfl rfl (Nat.le_of_ble_eq_true rfl) (by decide) (by decide) (by decide) (L_X2_write ((hx).2.2.2.2.2.2.2.2 _ (it_bd_lt hb10)) (it_ok_b h)) (fun _ _ _ _ q => by cases q.1; rfl) ?_
      rintro _ _ S19 ⟨rfl, rfl, h⟩
      show it_Ev g l 6 it_m_X5_film 0 0 89 [some (.ref 0), some (.int x1), some (.int x2), some (.int x3), some (.int v4)] [] κ S19 (it_pi κ P)
      refine ev_iinc d_X5_film_89 kv_iconst_1 rfl (by decide) ?_
      show it_Ev g l 6 it_m_X5_film 0 0 92 [some (.ref 0), some (.int x1), some (.int x2), some (.int x3), some (.int (v4 + 1))] [] κ S19 (it_pi κ P)
      refine ev_goto (tgt := 55) d_X5_film_92 (by decide) ?_
      refine ev_keep [true, true, true, true, true] ?_
      exact ih55 _ _ h
set_option maxHeartbeats 4000000 in
set_option maxRecDepth 100000 in
theorem L_X5_film {g : it_G} {l : Launch} {κ : it_KK} {x1 : Int32} {x2 : Int32} {x3 : Int32} (hx : it_wx κ) {S : it_SS} {P : Int32 → it_SS → Prop} (h : it_ok (f_X5_film κ x1 x2 x3 S) P) : it_Cn g l 6 it_m_X5_film [.ref 0, .int x1, .int x2, .int x3] κ S (it_pi κ P) := by
  refine it_Cn.of (by decide +kernel) (Nat.le_of_ble_eq_true rfl) ?_
  rw [f_X5_film] at h
  show it_Ev g l 6 it_m_X5_film 0 0 0 [some (.ref 0), some (.int x1), some (.int x2), some (.int x3), none] [] κ S (it_pi κ P)
  refine ev_iload_n d_X5_film_0 rfl ?_
  refine ev_callS (M' := it_m_X5_isNoSheet) (d' := 2) (As := [.int x1]) d_X5_film_1 ml_IcedTooSoon_219 rfl rfl (Nat.le_of_ble_eq_true rfl) (by decide) (by decide) (by decide) (L_X5_isNoSheet  (it_ok_b h)) (fun _ _ _ _ q => by cases q.1; rfl) ?_
  rintro _ _ S1 ⟨rfl, r2, rfl, h⟩
  show it_Ev g l 6 it_m_X5_film 0 0 4 [some (.ref 0), some (.int x1), some (.int x2), some (.int x3), none] [.int r2] κ S1 (it_pi κ P)
  refine ev_if_eq (tgt := 10) d_X5_film_4 (by decide) (fun hc3 => ?_) (fun hc3 => ?_)
  · have h := it_ok_t h hc3
    refine ev_aload_n d_X5_film_10 rfl ?_
    refine ev_getRr (r := 9) rfl d_X5_film_11 fl_IcedTooSoon_28 hx.1 rfl ?_
    refine ev_iload_n d_X5_film_14 rfl ?_
    refine ev_callV (ci := 0) (b := 9) (M' := it_m_X0_hasGuest) (d' := 1) (As := [.int x2]) d_X5_film_15 ml_IcedTooSoon_117 ((hx).2.2.2.1).1.1 ((hx).2.2.2.1).1.2.1 ⟨_, rfl, rfl⟩ rfl rfl (Nat.le_of_ble_eq_true rfl) (by decide) (by decide) (by decide) (L_X0_hasGuest (hx.2.1) (hx).2.2.2.1 (it_ok_b h)) (fun _ _ _ _ q => by cases q.1; rfl) ?_
    rintro _ _ S4 ⟨rfl, r5, rfl, h⟩
    show it_Ev g l 6 it_m_X5_film 0 0 18 [some (.ref 0), some (.int x1), some (.int x2), some (.int x3), none] [.int r5] κ S4 (it_pi κ P)
    refine ev_if_ne (tgt := 24) d_X5_film_18 (by decide) (fun hc6 => ?_) (fun hc6 => ?_)
    · have h := it_ok_f h hc6
      refine ev_iload_n d_X5_film_24 rfl ?_
      refine ev_iconst d_X5_film_25 kv_iconst_0 ?_
      refine ev_bipush d_X5_film_26 kv_bipush_20 ?_
      refine ev_callS (M' := it_m_X5_isOutside) (d' := 1) (As := [.int x3, .int 0, .int 20]) d_X5_film_28 ml_IcedTooSoon_96 rfl rfl (Nat.le_of_ble_eq_true rfl) (by decide) (by decide) (by decide) (L_X5_isOutside  (it_ok_b h)) (fun _ _ _ _ q => by cases q.1; rfl) ?_
      rintro _ _ S7 ⟨rfl, r8, rfl, h⟩
      show it_Ev g l 6 it_m_X5_film 0 0 31 [some (.ref 0), some (.int x1), some (.int x2), some (.int x3), none] [.int r8] κ S7 (it_pi κ P)
      refine ev_if_eq (tgt := 37) d_X5_film_31 (by decide) (fun hc9 => ?_) (fun hc9 => ?_)
      · have h := it_ok_t h hc9
        refine ev_aload_n d_X5_film_37 rfl ?_
        refine ev_getRr (r := 33) rfl d_X5_film_38 fl_IcedTooSoon_44 hx.1 rfl ?_
        refine ev_iload_n d_X5_film_41 rfl ?_
        obtain ⟨hb10, h⟩ := it_ok_g h
        refine ev_aald d_X5_film_42 (hx).2.2.2.2.2.2.1 (it_bd_in hb10) ((hx).2.2.2.2.2.2.2.1 _ (it_bd_lt hb10)) ?_
        refine ev_iconst d_X5_film_43 kv_iconst_0 ?_
        refine ev_iload_n d_X5_film_44 rfl ?_
        refine ev_callV (ci := 2) (b := (it_el 2 (x1 : Int32).toNatClampNeg)) (M' := it_m_X2_renew) (d' := 2) (As := [.int 0, .int x3]) d_X5_film_45 ml_IcedTooSoon_222 ((hx).2.2.2.2.2.2.2.2 _ (it_bd_lt hb10)).1.1 ((hx).2.2.2.2.2.2.2.2 _ (it_bd_lt hb10)).1.2.1 ⟨_, rfl, rfl⟩ rfl rfl (Nat.le_of_ble_eq_true rfl) (by decide) (by decide) (by decide) (L_X2_renew ((hx).2.2.2.2.2.2.2.2 _ (it_bd_lt hb10)) (it_ok_b h)) (fun _ _ _ _ q => by cases q.1; rfl) ?_
        rintro _ _ S11 ⟨rfl, rfl, h⟩
        show it_Ev g l 6 it_m_X5_film 0 0 48 [some (.ref 0), some (.int x1), some (.int x2), some (.int x3), none] [] κ S11 (it_pi κ P)
        refine ev_aload_n d_X5_film_48 rfl ?_
        refine ev_callV (ci := 5) (b := 0) (M' := it_m_X5_think) (d' := 3) (As := []) d_X5_film_49 ml_IcedTooSoon_180 hx.1.1 hx.1.2.1 ⟨_, rfl, rfl⟩ rfl rfl (Nat.le_of_ble_eq_true rfl) (by decide) (by decide) (by decide) (L_X5_think hx (it_ok_b h)) (fun _ _ _ _ q => by cases q.1; rfl) ?_
        rintro _ _ S13 ⟨rfl, rfl, h⟩
        show it_Ev g l 6 it_m_X5_film 0 0 52 [some (.ref 0), some (.int x1), some (.int x2), some (.int x3), none] [] κ S13 (it_pi κ P)
        refine ev_iconst d_X5_film_52 kv_iconst_0 ?_
        refine ev_istore d_X5_film_53 (by decide) ?_
        show it_Ev g l 6 it_m_X5_film 0 0 55 [some (.ref 0), some (.int x1), some (.int x2), some (.int x3), some (.int 0)] [] κ S13 (it_pi κ P)
        refine ev_keep [true, true, true, true, true] ?_
        refine Llp_X5_film_55 hx hb10 (fun  S21 h => ?_) _ _ _ h
        show it_Ev g l 6 it_m_X5_film 0 0 95 [none, none, none, some (.int x3), none] [] κ S21 (it_pi κ P)
        refine ev_iload_n d_X5_film_95 rfl ?_
        exact ev_ret (v := some (.int _)) ⟨d_X5_film_96, _, rfl, rfl⟩ (by decide) (by decide) ⟨rfl, _, rfl, it_ok_r h⟩
      · have h := it_ok_f h hc9
        refine ev_bipush d_X5_film_34 kv_bipush_m7 ?_
        exact ev_ret (v := some (.int _)) ⟨d_X5_film_36, _, rfl, rfl⟩ (by decide) (by decide) ⟨rfl, _, rfl, it_ok_r h⟩
    · have h := it_ok_t h hc6
      refine ev_bipush d_X5_film_21 kv_bipush_m5 ?_
      exact ev_ret (v := some (.int _)) ⟨d_X5_film_23, _, rfl, rfl⟩ (by decide) (by decide) ⟨rfl, _, rfl, it_ok_r h⟩
  · have h := it_ok_f h hc3
    refine ev_bipush d_X5_film_7 kv_bipush_m2 ?_
    exact ev_ret (v := some (.int _)) ⟨d_X5_film_9, _, rfl, rfl⟩ (by decide) (by decide) ⟨rfl, _, rfl, it_ok_r h⟩
theorem d_X5_thinkOfLots_0 : decode prog_1_method_56_code 0 = .ok (.aload_n 0, 1) := by decide +kernel
theorem d_X5_thinkOfLots_1 : decode prog_1_method_56_code 1 = .ok (.invokevirtual 180, 3) := by decide +kernel
theorem d_X5_thinkOfLots_4 : decode prog_1_method_56_code 4 = .ok (.iload_n 1, 1) := by decide +kernel
theorem d_X5_thinkOfLots_5 : decode prog_1_method_56_code 5 = .ok (.i2l, 1) := by decide +kernel
theorem d_X5_thinkOfLots_6 : decode prog_1_method_56_code 6 = .ok (.lconst 1, 1) := by decide +kernel
theorem d_X5_thinkOfLots_7 : decode prog_1_method_56_code 7 = .ok (.ladd, 1) := by decide +kernel
theorem d_X5_thinkOfLots_8 : decode prog_1_method_56_code 8 = .ok (.lstore_n 2, 1) := by decide +kernel
theorem d_X5_thinkOfLots_9 : decode prog_1_method_56_code 9 = .ok (.iconst 0, 1) := by decide +kernel
theorem d_X5_thinkOfLots_10 : decode prog_1_method_56_code 10 = .ok (.istore 4, 2) := by decide +kernel
theorem d_X5_thinkOfLots_12 : decode prog_1_method_56_code 12 = .ok (.iload 4, 2) := by decide +kernel
theorem d_X5_thinkOfLots_14 : decode prog_1_method_56_code 14 = .ok (.bipush 8, 2) := by decide +kernel
theorem d_X5_thinkOfLots_16 : decode prog_1_method_56_code 16 = .ok (.if_icmp .ge 87, 3) := by decide +kernel
theorem d_X5_thinkOfLots_19 : decode prog_1_method_56_code 19 = .ok (.lload_n 2, 1) := by decide +kernel
theorem d_X5_thinkOfLots_20 : decode prog_1_method_56_code 20 = .ok (.invokestatic 281, 3) := by decide +kernel
theorem d_X5_thinkOfLots_23 : decode prog_1_method_56_code 23 = .ok (.lstore_n 2, 1) := by decide +kernel
theorem d_X5_thinkOfLots_24 : decode prog_1_method_56_code 24 = .ok (.lload_n 2, 1) := by decide +kernel
theorem d_X5_thinkOfLots_25 : decode prog_1_method_56_code 25 = .ok (.ldc2_w 285, 3) := by decide +kernel
theorem d_X5_thinkOfLots_28 : decode prog_1_method_56_code 28 = .ok (.lrem, 1) := by decide +kernel
theorem d_X5_thinkOfLots_29 : decode prog_1_method_56_code 29 = .ok (.l2i, 1) := by decide +kernel
theorem d_X5_thinkOfLots_30 : decode prog_1_method_56_code 30 = .ok (.istore 5, 2) := by decide +kernel
theorem d_X5_thinkOfLots_32 : decode prog_1_method_56_code 32 = .ok (.lload_n 2, 1) := by decide +kernel
theorem d_X5_thinkOfLots_33 : decode prog_1_method_56_code 33 = .ok (.invokestatic 281, 3) := by decide +kernel
theorem d_X5_thinkOfLots_36 : decode prog_1_method_56_code 36 = .ok (.lstore_n 2, 1) := by decide +kernel
theorem d_X5_thinkOfLots_37 : decode prog_1_method_56_code 37 = .ok (.lload_n 2, 1) := by decide +kernel
theorem d_X5_thinkOfLots_38 : decode prog_1_method_56_code 38 = .ok (.ldc2_w 287, 3) := by decide +kernel
theorem d_X5_thinkOfLots_41 : decode prog_1_method_56_code 41 = .ok (.lrem, 1) := by decide +kernel
theorem d_X5_thinkOfLots_42 : decode prog_1_method_56_code 42 = .ok (.l2i, 1) := by decide +kernel
theorem d_X5_thinkOfLots_43 : decode prog_1_method_56_code 43 = .ok (.bipush 99, 2) := by decide +kernel
theorem d_X5_thinkOfLots_45 : decode prog_1_method_56_code 45 = .ok (.isub, 1) := by decide +kernel
theorem d_X5_thinkOfLots_46 : decode prog_1_method_56_code 46 = .ok (.istore 6, 2) := by decide +kernel
theorem d_X5_thinkOfLots_48 : decode prog_1_method_56_code 48 = .ok (.lload_n 2, 1) := by decide +kernel
theorem d_X5_thinkOfLots_49 : decode prog_1_method_56_code 49 = .ok (.invokestatic 281, 3) := by decide +kernel
theorem d_X5_thinkOfLots_52 : decode prog_1_method_56_code 52 = .ok (.lstore_n 2, 1) := by decide +kernel
theorem d_X5_thinkOfLots_53 : decode prog_1_method_56_code 53 = .ok (.iconst 1, 1) := by decide +kernel
theorem d_X5_thinkOfLots_54 : decode prog_1_method_56_code 54 = .ok (.lload_n 2, 1) := by decide +kernel
theorem d_X5_thinkOfLots_55 : decode prog_1_method_56_code 55 = .ok (.ldc2_w 289, 3) := by decide +kernel
theorem d_X5_thinkOfLots_58 : decode prog_1_method_56_code 58 = .ok (.lrem, 1) := by decide +kernel
theorem d_X5_thinkOfLots_59 : decode prog_1_method_56_code 59 = .ok (.l2i, 1) := by decide +kernel
theorem d_X5_thinkOfLots_60 : decode prog_1_method_56_code 60 = .ok (.iadd, 1) := by decide +kernel
theorem d_X5_thinkOfLots_61 : decode prog_1_method_56_code 61 = .ok (.istore 7, 2) := by decide +kernel
theorem d_X5_thinkOfLots_63 : decode prog_1_method_56_code 63 = .ok (.aload_n 0, 1) := by decide +kernel
theorem d_X5_thinkOfLots_64 : decode prog_1_method_56_code 64 = .ok (.getfield 32, 3) := by decide +kernel
theorem d_X5_thinkOfLots_67 : decode prog_1_method_56_code 67 = .ok (.iload 5, 2) := by decide +kernel
theorem d_X5_thinkOfLots_69 : decode prog_1_method_56_code 69 = .ok (.invokevirtual 117, 3) := by decide +kernel
theorem d_X5_thinkOfLots_72 : decode prog_1_method_56_code 72 = .ok (.ifCond .eq 17, 3) := by decide +kernel
theorem d_X5_thinkOfLots_75 : decode prog_1_method_56_code 75 = .ok (.aload_n 0, 1) := by decide +kernel
theorem d_X5_thinkOfLots_76 : decode prog_1_method_56_code 76 = .ok (.getfield 32, 3) := by decide +kernel
theorem d_X5_thinkOfLots_79 : decode prog_1_method_56_code 79 = .ok (.iload 5, 2) := by decide +kernel
theorem d_X5_thinkOfLots_81 : decode prog_1_method_56_code 81 = .ok (.iload 6, 2) := by decide +kernel
theorem d_X5_thinkOfLots_83 : decode prog_1_method_56_code 83 = .ok (.iload 7, 2) := by decide +kernel
theorem d_X5_thinkOfLots_85 : decode prog_1_method_56_code 85 = .ok (.invokevirtual 120, 3) := by decide +kernel
theorem d_X5_thinkOfLots_88 : decode prog_1_method_56_code 88 = .ok (.pop, 1) := by decide +kernel
theorem d_X5_thinkOfLots_89 : decode prog_1_method_56_code 89 = .ok (.aload_n 0, 1) := by decide +kernel
theorem d_X5_thinkOfLots_90 : decode prog_1_method_56_code 90 = .ok (.getfield 32, 3) := by decide +kernel
theorem d_X5_thinkOfLots_93 : decode prog_1_method_56_code 93 = .ok (.invokevirtual 166, 3) := by decide +kernel
theorem d_X5_thinkOfLots_96 : decode prog_1_method_56_code 96 = .ok (.pop, 1) := by decide +kernel
theorem d_X5_thinkOfLots_97 : decode prog_1_method_56_code 97 = .ok (.iinc 4 1, 3) := by decide +kernel
theorem d_X5_thinkOfLots_100 : decode prog_1_method_56_code 100 = .ok (.goto (-88), 3) := by decide +kernel
theorem d_X5_thinkOfLots_103 : decode prog_1_method_56_code 103 = .ok (.return_, 1) := by decide +kernel
def lp_X5_thinkOfLots_12 (κ : it_KK) (x1 : Int32) (k12 : (it_SS → Option (Unit × it_SS))) : Nat → Int64 → Int32 → it_SS → Option (Unit × it_SS)
  | 0, _, _, _ => none
  | n12 + 1, v2, v4, S => if 8 ≤ v4 then
k12  S
else
it_bi (f_X5_lotBehind κ v2 S) (fun r5 S4 =>
it_bi (f_X5_lotBehind κ r5 S4) (fun r7 S6 =>
it_bi (f_X5_lotBehind κ r7 S6) (fun r9 S8 =>
it_bi (f_X0_hasGuest κ 17 (((r5 - r5 / 6 * 6) : Int64).toInt32) S8) (fun r11 S10 =>
if r11 = 0 then
it_bi (f_X0_passDay κ 17 S10) (fun r14 S13 =>
lp_X5_thinkOfLots_12 κ x1 k12 n12 r9 (v4 + 1) S13)
else
it_bi (f_X0_serve κ 17 (((r5 - r5 / 6 * 6) : Int64).toInt32) ((((r7 - r7 / 199 * 199) : Int64).toInt32) - 99) (1 + (((r9 - r9 / 99 * 99) : Int64).toInt32)) S10) (fun r16 S15 =>
it_bi (f_X0_passDay κ 17 S15) (fun r18 S17 =>
lp_X5_thinkOfLots_12 κ x1 k12 n12 r9 (v4 + 1) S17))))))
def f_X5_thinkOfLots (κ : it_KK) (x1 : Int32) (S : it_SS) : Option (Unit × it_SS) :=
it_bi (f_X5_think κ  S) (fun _ S1 =>
lp_X5_thinkOfLots_12 κ x1 (fun  S19 =>
some ((), S19)) it_FU (((x1 : Int32).toInt64) + 1) 0 S1)
set_option maxHeartbeats 4000000 in
set_option maxRecDepth 100000 in
theorem Llp_X5_thinkOfLots_12 {g : it_G} {l : Launch} {κ : it_KK} {x1 : Int32} (hx : it_wx κ) {P : Unit → it_SS → Prop} {k12 : (it_SS → Option (Unit × it_SS))} (hk12 : ∀  (S : it_SS), it_ok (k12  S) P → it_Ev g l 6 it_m_X5_thinkOfLots 0 0 103 [none, none, none, none, none, none, none, none] [] κ S (it_pv κ P)) : ∀ (n : Nat) (v2 : Int64) (v4 : Int32) (S : it_SS), it_ok (lp_X5_thinkOfLots_12 κ x1 k12 n v2 v4 S) P → it_Ev g l 6 it_m_X5_thinkOfLots 0 0 12 [some (.ref 0), none, some (.long v2), none, some (.int v4), none, none, none] [] κ S (it_pv κ P) := by
  intro n
  induction n with
  | zero =>
    intro _ _ _ h
    exact (it_ok_n h).elim
  | succ n12 ih12 =>
    intro v2 v4 S h
    rw [lp_X5_thinkOfLots_12] at h
    refine ev_iload d_X5_thinkOfLots_12 rfl ?_
    refine ev_bipush d_X5_thinkOfLots_14 kv_bipush_8 ?_
    refine ev_icmp_ge (tgt := 103) d_X5_thinkOfLots_16 (by decide) (fun hc3 => ?_) (fun hc3 => ?_)
    · have h := it_ok_t h hc3
      refine ev_keep [false, false, false, false, false, false, false, false] ?_
      exact hk12  _ h
    · have h := it_ok_f h hc3
      refine ev_lload_n d_X5_thinkOfLots_19 rfl ?_
      refine ev_callS (M' := it_m_X5_lotBehind) (d' := 1) (As := [.long v2]) d_X5_thinkOfLots_20 ml_IcedTooSoon_281 rfl rfl (Nat.le_of_ble_eq_true rfl) (by decide) (by decide) (by decide) (L_X5_lotBehind  (it_ok_b h)) (fun _ _ _ _ q => by cases q.1; rfl) ?_
      rintro _ _ S4 ⟨rfl, r5, rfl, h⟩
      show it_Ev g l 6 it_m_X5_thinkOfLots 0 0 23 [some (.ref 0), none, some (.long v2), none, some (.int v4), none, none, none] [.long r5] κ S4 (it_pv κ P)
      refine ev_lstore_n d_X5_thinkOfLots_23 (by decide) ?_
      show it_Ev g l 6 it_m_X5_thinkOfLots 0 0 24 [some (.ref 0), none, some (.long r5), none, some (.int v4), none, none, none] [] κ S4 (it_pv κ P)
      refine ev_lload_n d_X5_thinkOfLots_24 rfl ?_
      refine ev_ldc2 d_X5_thinkOfLots_25 kn_IcedTooSoon_285 ?_
      refine ev_lrem d_X5_thinkOfLots_28 (by decide) ?_
      refine ev_l2i d_X5_thinkOfLots_29 ?_
      refine ev_istore d_X5_thinkOfLots_30 (by decide) ?_
      show it_Ev g l 6 it_m_X5_thinkOfLots 0 0 32 [some (.ref 0), none, some (.long r5), none, some (.int v4), some (.int (((r5 - r5 / 6 * 6) : Int64).toInt32)), none, none] [] κ S4 (it_pv κ P)
      refine ev_lload_n d_X5_thinkOfLots_32 rfl ?_
      refine ev_callS (M' := it_m_X5_lotBehind) (d' := 1) (As := [.long r5]) d_X5_thinkOfLots_33 ml_IcedTooSoon_281 rfl rfl (Nat.le_of_ble_eq_true rfl) (by decide) (by decide) (by decide) (L_X5_lotBehind  (it_ok_b h)) (fun _ _ _ _ q => by cases q.1; rfl) ?_
      rintro _ _ S6 ⟨rfl, r7, rfl, h⟩
      show it_Ev g l 6 it_m_X5_thinkOfLots 0 0 36 [some (.ref 0), none, some (.long r5), none, some (.int v4), some (.int (((r5 - r5 / 6 * 6) : Int64).toInt32)), none, none] [.long r7] κ S6 (it_pv κ P)
      refine ev_lstore_n d_X5_thinkOfLots_36 (by decide) ?_
      show it_Ev g l 6 it_m_X5_thinkOfLots 0 0 37 [some (.ref 0), none, some (.long r7), none, some (.int v4), some (.int (((r5 - r5 / 6 * 6) : Int64).toInt32)), none, none] [] κ S6 (it_pv κ P)
      refine ev_lload_n d_X5_thinkOfLots_37 rfl ?_
      refine ev_ldc2 d_X5_thinkOfLots_38 kn_IcedTooSoon_287 ?_
      refine ev_lrem d_X5_thinkOfLots_41 (by decide) ?_
      refine ev_l2i d_X5_thinkOfLots_42 ?_
      refine ev_bipush d_X5_thinkOfLots_43 kv_bipush_99 ?_
      refine ev_isub d_X5_thinkOfLots_45 ?_
      refine ev_istore d_X5_thinkOfLots_46 (by decide) ?_
      show it_Ev g l 6 it_m_X5_thinkOfLots 0 0 48 [some (.ref 0), none, some (.long r7), none, some (.int v4), some (.int (((r5 - r5 / 6 * 6) : Int64).toInt32)), some (.int ((((r7 - r7 / 199 * 199) : Int64).toInt32) - 99)), none] [] κ S6 (it_pv κ P)
      refine ev_lload_n d_X5_thinkOfLots_48 rfl ?_
      refine ev_callS (M' := it_m_X5_lotBehind) (d' := 1) (As := [.long r7]) d_X5_thinkOfLots_49 ml_IcedTooSoon_281 rfl rfl (Nat.le_of_ble_eq_true rfl) (by decide) (by decide) (by decide) (L_X5_lotBehind  (it_ok_b h)) (fun _ _ _ _ q => by cases q.1; rfl) ?_
      rintro _ _ S8 ⟨rfl, r9, rfl, h⟩
      show it_Ev g l 6 it_m_X5_thinkOfLots 0 0 52 [some (.ref 0), none, some (.long r7), none, some (.int v4), some (.int (((r5 - r5 / 6 * 6) : Int64).toInt32)), some (.int ((((r7 - r7 / 199 * 199) : Int64).toInt32) - 99)), none] [.long r9] κ S8 (it_pv κ P)
      refine ev_lstore_n d_X5_thinkOfLots_52 (by decide) ?_
      show it_Ev g l 6 it_m_X5_thinkOfLots 0 0 53 [some (.ref 0), none, some (.long r9), none, some (.int v4), some (.int (((r5 - r5 / 6 * 6) : Int64).toInt32)), some (.int ((((r7 - r7 / 199 * 199) : Int64).toInt32) - 99)), none] [] κ S8 (it_pv κ P)
      refine ev_iconst d_X5_thinkOfLots_53 kv_iconst_1 ?_
      refine ev_lload_n d_X5_thinkOfLots_54 rfl ?_
      refine ev_ldc2 d_X5_thinkOfLots_55 kn_IcedTooSoon_289 ?_
      refine ev_lrem d_X5_thinkOfLots_58 (by decide) ?_
      refine ev_l2i d_X5_thinkOfLots_59 ?_
      refine ev_iadd d_X5_thinkOfLots_60 ?_
      refine ev_istore d_X5_thinkOfLots_61 (by decide) ?_
      show it_Ev g l 6 it_m_X5_thinkOfLots 0 0 63 [some (.ref 0), none, some (.long r9), none, some (.int v4), some (.int (((r5 - r5 / 6 * 6) : Int64).toInt32)), some (.int ((((r7 - r7 / 199 * 199) : Int64).toInt32) - 99)), some (.int (1 + (((r9 - r9 / 99 * 99) : Int64).toInt32)))] [] κ S8 (it_pv κ P)
      refine ev_aload_n d_X5_thinkOfLots_63 rfl ?_
      refine ev_getRr (r := 17) rfl d_X5_thinkOfLots_64 fl_IcedTooSoon_32 hx.1 rfl ?_
      refine ev_iload d_X5_thinkOfLots_67 rfl ?_
      refine ev_callV (ci := 0) (b := 17) (M' := it_m_X0_hasGuest) (d' := 1) (As := [.int (((r5 - r5 / 6 * 6) : Int64).toInt32)]) d_X5_thinkOfLots_69 ml_IcedTooSoon_117 ((hx).2.2.2.2.1).1.1 ((hx).2.2.2.2.1).1.2.1 ⟨_, rfl, rfl⟩ rfl rfl (Nat.le_of_ble_eq_true rfl) (by decide) (by decide) (by decide) (L_X0_hasGuest (hx.2.1) (hx).2.2.2.2.1 (it_ok_b h)) (fun _ _ _ _ q => by cases q.1; rfl) ?_
      rintro _ _ S10 ⟨rfl, r11, rfl, h⟩
      show it_Ev g l 6 it_m_X5_thinkOfLots 0 0 72 [some (.ref 0), none, some (.long r9), none, some (.int v4), some (.int (((r5 - r5 / 6 * 6) : Int64).toInt32)), some (.int ((((r7 - r7 / 199 * 199) : Int64).toInt32) - 99)), some (.int (1 + (((r9 - r9 / 99 * 99) : Int64).toInt32)))] [.int r11] κ S10 (it_pv κ P)
      refine ev_if_eq (tgt := 89) d_X5_thinkOfLots_72 (by decide) (fun hc12 => ?_) (fun hc12 => ?_)
      · have h := it_ok_t h hc12
        refine ev_aload_n d_X5_thinkOfLots_89 rfl ?_
        refine ev_getRr (r := 17) rfl d_X5_thinkOfLots_90 fl_IcedTooSoon_32 hx.1 rfl ?_
        refine ev_callV (ci := 0) (b := 17) (M' := it_m_X0_passDay) (d' := 5) (As := []) d_X5_thinkOfLots_93 ml_IcedTooSoon_166 ((hx).2.2.2.2.1).1.1 ((hx).2.2.2.2.1).1.2.1 ⟨_, rfl, rfl⟩ rfl rfl (Nat.le_of_ble_eq_true rfl) (by decide) (by decide) (by decide) (L_X0_passDay (hx.2.1) (hx).2.2.2.2.1 (it_ok_b h)) (fun _ _ _ _ q => by cases q.1; rfl) ?_
        rintro _ _ S13 ⟨rfl, r14, rfl, h⟩
        show it_Ev g l 6 it_m_X5_thinkOfLots 0 0 96 [some (.ref 0), none, some (.long r9), none, some (.int v4), some (.int (((r5 - r5 / 6 * 6) : Int64).toInt32)), some (.int ((((r7 - r7 / 199 * 199) : Int64).toInt32) - 99)), some (.int (1 + (((r9 - r9 / 99 * 99) : Int64).toInt32)))] [.int r14] κ S13 (it_pv κ P)
        refine ev_pop d_X5_thinkOfLots_96 rfl ?_
        refine ev_iinc d_X5_thinkOfLots_97 kv_iconst_1 rfl (by decide) ?_
        show it_Ev g l 6 it_m_X5_thinkOfLots 0 0 100 [some (.ref 0), none, some (.long r9), none, some (.int (v4 + 1)), some (.int (((r5 - r5 / 6 * 6) : Int64).toInt32)), some (.int ((((r7 - r7 / 199 * 199) : Int64).toInt32) - 99)), some (.int (1 + (((r9 - r9 / 99 * 99) : Int64).toInt32)))] [] κ S13 (it_pv κ P)
        refine ev_goto (tgt := 12) d_X5_thinkOfLots_100 (by decide) ?_
        refine ev_keep [true, false, true, false, true, false, false, false] ?_
        exact ih12 _ _ _ h
      · have h := it_ok_f h hc12
        refine ev_aload_n d_X5_thinkOfLots_75 rfl ?_
        refine ev_getRr (r := 17) rfl d_X5_thinkOfLots_76 fl_IcedTooSoon_32 hx.1 rfl ?_
        refine ev_iload d_X5_thinkOfLots_79 rfl ?_
        refine ev_iload d_X5_thinkOfLots_81 rfl ?_
        refine ev_iload d_X5_thinkOfLots_83 rfl ?_
        refine ev_callV (ci := 0) (b := 17) (M' := it_m_X0_serve) (d' := 5) (As := [.int (((r5 - r5 / 6 * 6) : Int64).toInt32), .int ((((r7 - r7 / 199 * 199) : Int64).toInt32) - 99), .int (1 + (((r9 - r9 / 99 * 99) : Int64).toInt32))]) d_X5_thinkOfLots_85 ml_IcedTooSoon_120 ((hx).2.2.2.2.1).1.1 ((hx).2.2.2.2.1).1.2.1 ⟨_, rfl, rfl⟩ rfl rfl (Nat.le_of_ble_eq_true rfl) (by decide) (by decide) (by decide) (L_X0_serve (hx.2.1) (hx).2.2.2.2.1 (it_ok_b h)) (fun _ _ _ _ q => by cases q.1; rfl) ?_
        rintro _ _ S15 ⟨rfl, r16, rfl, h⟩
        show it_Ev g l 6 it_m_X5_thinkOfLots 0 0 88 [some (.ref 0), none, some (.long r9), none, some (.int v4), some (.int (((r5 - r5 / 6 * 6) : Int64).toInt32)), some (.int ((((r7 - r7 / 199 * 199) : Int64).toInt32) - 99)), some (.int (1 + (((r9 - r9 / 99 * 99) : Int64).toInt32)))] [.int r16] κ S15 (it_pv κ P)
        refine ev_pop d_X5_thinkOfLots_88 rfl ?_
        refine ev_aload_n d_X5_thinkOfLots_89 rfl ?_
        refine ev_getRr (r := 17) rfl d_X5_thinkOfLots_90 fl_IcedTooSoon_32 hx.1 rfl ?_
        refine ev_callV (ci := 0) (b := 17) (M' := it_m_X0_passDay) (d' := 5) (As := []) d_X5_thinkOfLots_93 ml_IcedTooSoon_166 ((hx).2.2.2.2.1).1.1 ((hx).2.2.2.2.1).1.2.1 ⟨_, rfl, rfl⟩ rfl rfl (Nat.le_of_ble_eq_true rfl) (by decide) (by decide) (by decide) (L_X0_passDay (hx.2.1) (hx).2.2.2.2.1 (it_ok_b h)) (fun _ _ _ _ q => by cases q.1; rfl) ?_
        rintro _ _ S17 ⟨rfl, r18, rfl, h⟩
        show it_Ev g l 6 it_m_X5_thinkOfLots 0 0 96 [some (.ref 0), none, some (.long r9), none, some (.int v4), some (.int (((r5 - r5 / 6 * 6) : Int64).toInt32)), some (.int ((((r7 - r7 / 199 * 199) : Int64).toInt32) - 99)), some (.int (1 + (((r9 - r9 / 99 * 99) : Int64).toInt32)))] [.int r18] κ S17 (it_pv κ P)
        refine ev_pop d_X5_thinkOfLots_96 rfl ?_
        refine ev_iinc d_X5_thinkOfLots_97 kv_iconst_1 rfl (by decide) ?_
        show it_Ev g l 6 it_m_X5_thinkOfLots 0 0 100 [some (.ref 0), none, some (.long r9), none, some (.int (v4 + 1)), some (.int (((r5 - r5 / 6 * 6) : Int64).toInt32)), some (.int ((((r7 - r7 / 199 * 199) : Int64).toInt32) - 99)), some (.int (1 + (((r9 - r9 / 99 * 99) : Int64).toInt32)))] [] κ S17 (it_pv κ P)
        refine ev_goto (tgt := 12) d_X5_thinkOfLots_100 (by decide) ?_
        refine ev_keep [true, false, true, false, true, false, false, false] ?_
        exact ih12 _ _ _ h
set_option maxHeartbeats 4000000 in
set_option maxRecDepth 100000 in
theorem L_X5_thinkOfLots {g : it_G} {l : Launch} {κ : it_KK} {x1 : Int32} (hx : it_wx κ) {S : it_SS} {P : Unit → it_SS → Prop} (h : it_ok (f_X5_thinkOfLots κ x1 S) P) : it_Cn g l 6 it_m_X5_thinkOfLots [.ref 0, .int x1] κ S (it_pv κ P) := by
  refine it_Cn.of (by decide +kernel) (Nat.le_of_ble_eq_true rfl) ?_
  rw [f_X5_thinkOfLots] at h
  show it_Ev g l 6 it_m_X5_thinkOfLots 0 0 0 [some (.ref 0), some (.int x1), none, none, none, none, none, none] [] κ S (it_pv κ P)
  refine ev_aload_n d_X5_thinkOfLots_0 rfl ?_
  refine ev_callV (ci := 5) (b := 0) (M' := it_m_X5_think) (d' := 3) (As := []) d_X5_thinkOfLots_1 ml_IcedTooSoon_180 hx.1.1 hx.1.2.1 ⟨_, rfl, rfl⟩ rfl rfl (Nat.le_of_ble_eq_true rfl) (by decide) (by decide) (by decide) (L_X5_think hx (it_ok_b h)) (fun _ _ _ _ q => by cases q.1; rfl) ?_
  rintro _ _ S1 ⟨rfl, rfl, h⟩
  show it_Ev g l 6 it_m_X5_thinkOfLots 0 0 4 [some (.ref 0), some (.int x1), none, none, none, none, none, none] [] κ S1 (it_pv κ P)
  refine ev_iload_n d_X5_thinkOfLots_4 rfl ?_
  refine ev_i2l d_X5_thinkOfLots_5 ?_
  refine ev_lconst d_X5_thinkOfLots_6 kv_lconst_1 ?_
  refine ev_ladd d_X5_thinkOfLots_7 ?_
  refine ev_lstore_n d_X5_thinkOfLots_8 (by decide) ?_
  show it_Ev g l 6 it_m_X5_thinkOfLots 0 0 9 [some (.ref 0), some (.int x1), some (.long (((x1 : Int32).toInt64) + 1)), none, none, none, none, none] [] κ S1 (it_pv κ P)
  refine ev_iconst d_X5_thinkOfLots_9 kv_iconst_0 ?_
  refine ev_istore d_X5_thinkOfLots_10 (by decide) ?_
  show it_Ev g l 6 it_m_X5_thinkOfLots 0 0 12 [some (.ref 0), some (.int x1), some (.long (((x1 : Int32).toInt64) + 1)), none, some (.int 0), none, none, none] [] κ S1 (it_pv κ P)
  refine ev_keep [true, false, true, false, true, false, false, false] ?_
  refine Llp_X5_thinkOfLots_12 hx (fun  S19 h => ?_) _ _ _ _ h
  show it_Ev g l 6 it_m_X5_thinkOfLots 0 0 103 [none, none, none, none, none, none, none, none] [] κ S19 (it_pv κ P)
  exact ev_ret (v := none) ⟨d_X5_thinkOfLots_103, rfl⟩ (by decide) (by decide) ⟨rfl, rfl, it_ok_r h⟩
theorem d_X5_drawn_0 : decode prog_1_method_31_code 0 = .ok (.iload_n 1, 1) := by decide +kernel
theorem d_X5_drawn_1 : decode prog_1_method_31_code 1 = .ok (.iconst 0, 1) := by decide +kernel
theorem d_X5_drawn_2 : decode prog_1_method_31_code 2 = .ok (.ldc 228, 2) := by decide +kernel
theorem d_X5_drawn_4 : decode prog_1_method_31_code 4 = .ok (.invokestatic 96, 3) := by decide +kernel
theorem d_X5_drawn_7 : decode prog_1_method_31_code 7 = .ok (.ifCond .ne 12, 3) := by decide +kernel
theorem d_X5_drawn_10 : decode prog_1_method_31_code 10 = .ok (.iload_n 2, 1) := by decide +kernel
theorem d_X5_drawn_11 : decode prog_1_method_31_code 11 = .ok (.iconst 0, 1) := by decide +kernel
theorem d_X5_drawn_12 : decode prog_1_method_31_code 12 = .ok (.iconst 1, 1) := by decide +kernel
theorem d_X5_drawn_13 : decode prog_1_method_31_code 13 = .ok (.invokestatic 96, 3) := by decide +kernel
theorem d_X5_drawn_16 : decode prog_1_method_31_code 16 = .ok (.ifCond .eq 7, 3) := by decide +kernel
theorem d_X5_drawn_19 : decode prog_1_method_31_code 19 = .ok (.sipush (-1000), 3) := by decide +kernel
theorem d_X5_drawn_22 : decode prog_1_method_31_code 22 = .ok (.ireturn, 1) := by decide +kernel
theorem d_X5_drawn_23 : decode prog_1_method_31_code 23 = .ok (.aload_n 0, 1) := by decide +kernel
theorem d_X5_drawn_24 : decode prog_1_method_31_code 24 = .ok (.iload_n 1, 1) := by decide +kernel
theorem d_X5_drawn_25 : decode prog_1_method_31_code 25 = .ok (.invokevirtual 229, 3) := by decide +kernel
theorem d_X5_drawn_28 : decode prog_1_method_31_code 28 = .ok (.iload_n 2, 1) := by decide +kernel
theorem d_X5_drawn_29 : decode prog_1_method_31_code 29 = .ok (.ifCond .ne 13, 3) := by decide +kernel
theorem d_X5_drawn_32 : decode prog_1_method_31_code 32 = .ok (.aload_n 0, 1) := by decide +kernel
theorem d_X5_drawn_33 : decode prog_1_method_31_code 33 = .ok (.getfield 32, 3) := by decide +kernel
theorem d_X5_drawn_36 : decode prog_1_method_31_code 36 = .ok (.invokevirtual 183, 3) := by decide +kernel
theorem d_X5_drawn_39 : decode prog_1_method_31_code 39 = .ok (.goto 10, 3) := by decide +kernel
theorem d_X5_drawn_42 : decode prog_1_method_31_code 42 = .ok (.aload_n 0, 1) := by decide +kernel
theorem d_X5_drawn_43 : decode prog_1_method_31_code 43 = .ok (.getfield 32, 3) := by decide +kernel
theorem d_X5_drawn_46 : decode prog_1_method_31_code 46 = .ok (.invokevirtual 83, 3) := by decide +kernel
theorem d_X5_drawn_49 : decode prog_1_method_31_code 49 = .ok (.ireturn, 1) := by decide +kernel
def f_X5_drawn (κ : it_KK) (x1 : Int32) (x2 : Int32) (S : it_SS) : Option (Int32 × it_SS) :=
it_bi (f_X5_isOutside κ x1 0 99999 S) (fun r2 S1 =>
if r2 = 0 then
it_bi (f_X5_isOutside κ x2 0 1 S1) (fun r5 S4 =>
if r5 = 0 then
it_bi (f_X5_thinkOfLots κ x1 S4) (fun _ S7 =>
if x2 = 0 then
it_bi (f_X0_moodOfAll κ 17 S7) (fun r13 S12 =>
some (r13, S12))
else
it_bi (f_X0_glassesThere κ 17 S7) (fun r11 S10 =>
some (r11, S10)))
else
some ((-1000), S4))
else
some ((-1000), S1))
set_option maxHeartbeats 4000000 in
set_option maxRecDepth 100000 in
theorem L_X5_drawn {g : it_G} {l : Launch} {κ : it_KK} {x1 : Int32} {x2 : Int32} (hx : it_wx κ) {S : it_SS} {P : Int32 → it_SS → Prop} (h : it_ok (f_X5_drawn κ x1 x2 S) P) : it_Cn g l 7 it_m_X5_drawn [.ref 0, .int x1, .int x2] κ S (it_pi κ P) := by
  refine it_Cn.of (by decide +kernel) (Nat.le_of_ble_eq_true rfl) ?_
  rw [f_X5_drawn] at h
  show it_Ev g l 7 it_m_X5_drawn 0 0 0 [some (.ref 0), some (.int x1), some (.int x2)] [] κ S (it_pi κ P)
  refine ev_iload_n d_X5_drawn_0 rfl ?_
  refine ev_iconst d_X5_drawn_1 kv_iconst_0 ?_
  refine ev_ldc d_X5_drawn_2 kn_IcedTooSoon_228 ?_
  refine ev_callS (M' := it_m_X5_isOutside) (d' := 1) (As := [.int x1, .int 0, .int 99999]) d_X5_drawn_4 ml_IcedTooSoon_96 rfl rfl (Nat.le_of_ble_eq_true rfl) (by decide) (by decide) (by decide) (L_X5_isOutside  (it_ok_b h)) (fun _ _ _ _ q => by cases q.1; rfl) ?_
  rintro _ _ S1 ⟨rfl, r2, rfl, h⟩
  show it_Ev g l 7 it_m_X5_drawn 0 0 7 [some (.ref 0), some (.int x1), some (.int x2)] [.int r2] κ S1 (it_pi κ P)
  refine ev_if_ne (tgt := 19) d_X5_drawn_7 (by decide) (fun hc3 => ?_) (fun hc3 => ?_)
  · have h := it_ok_f h hc3
    refine ev_sipush d_X5_drawn_19 kv_sipush_m1000 ?_
    exact ev_ret (v := some (.int _)) ⟨d_X5_drawn_22, _, rfl, rfl⟩ (by decide) (by decide) ⟨rfl, _, rfl, it_ok_r h⟩
  · have h := it_ok_t h hc3
    refine ev_iload_n d_X5_drawn_10 rfl ?_
    refine ev_iconst d_X5_drawn_11 kv_iconst_0 ?_
    refine ev_iconst d_X5_drawn_12 kv_iconst_1 ?_
    refine ev_callS (M' := it_m_X5_isOutside) (d' := 1) (As := [.int x2, .int 0, .int 1]) d_X5_drawn_13 ml_IcedTooSoon_96 rfl rfl (Nat.le_of_ble_eq_true rfl) (by decide) (by decide) (by decide) (L_X5_isOutside  (it_ok_b h)) (fun _ _ _ _ q => by cases q.1; rfl) ?_
    rintro _ _ S4 ⟨rfl, r5, rfl, h⟩
    show it_Ev g l 7 it_m_X5_drawn 0 0 16 [some (.ref 0), some (.int x1), some (.int x2)] [.int r5] κ S4 (it_pi κ P)
    refine ev_if_eq (tgt := 23) d_X5_drawn_16 (by decide) (fun hc6 => ?_) (fun hc6 => ?_)
    · have h := it_ok_t h hc6
      refine ev_aload_n d_X5_drawn_23 rfl ?_
      refine ev_iload_n d_X5_drawn_24 rfl ?_
      refine ev_callV (ci := 5) (b := 0) (M' := it_m_X5_thinkOfLots) (d' := 6) (As := [.int x1]) d_X5_drawn_25 ml_IcedTooSoon_229 hx.1.1 hx.1.2.1 ⟨_, rfl, rfl⟩ rfl rfl (Nat.le_of_ble_eq_true rfl) (by decide) (by decide) (by decide) (L_X5_thinkOfLots hx (it_ok_b h)) (fun _ _ _ _ q => by cases q.1; rfl) ?_
      rintro _ _ S7 ⟨rfl, rfl, h⟩
      show it_Ev g l 7 it_m_X5_drawn 0 0 28 [some (.ref 0), some (.int x1), some (.int x2)] [] κ S7 (it_pi κ P)
      refine ev_iload_n d_X5_drawn_28 rfl ?_
      refine ev_if_ne (tgt := 42) d_X5_drawn_29 (by decide) (fun hc9 => ?_) (fun hc9 => ?_)
      · have h := it_ok_f h hc9
        refine ev_aload_n d_X5_drawn_42 rfl ?_
        refine ev_getRr (r := 17) rfl d_X5_drawn_43 fl_IcedTooSoon_32 hx.1 rfl ?_
        refine ev_callV (ci := 0) (b := 17) (M' := it_m_X0_glassesThere) (d' := 3) (As := []) d_X5_drawn_46 ml_IcedTooSoon_83 ((hx).2.2.2.2.1).1.1 ((hx).2.2.2.2.1).1.2.1 ⟨_, rfl, rfl⟩ rfl rfl (Nat.le_of_ble_eq_true rfl) (by decide) (by decide) (by decide) (L_X0_glassesThere (hx.2.1) (hx).2.2.2.2.1 (it_ok_b h)) (fun _ _ _ _ q => by cases q.1; rfl) ?_
        rintro _ _ S10 ⟨rfl, r11, rfl, h⟩
        show it_Ev g l 7 it_m_X5_drawn 0 0 49 [some (.ref 0), some (.int x1), some (.int x2)] [.int r11] κ S10 (it_pi κ P)
        exact ev_ret (v := some (.int _)) ⟨d_X5_drawn_49, _, rfl, rfl⟩ (by decide) (by decide) ⟨rfl, _, rfl, it_ok_r h⟩
      · have h := it_ok_t h hc9
        refine ev_aload_n d_X5_drawn_32 rfl ?_
        refine ev_getRr (r := 17) rfl d_X5_drawn_33 fl_IcedTooSoon_32 hx.1 rfl ?_
        refine ev_callV (ci := 0) (b := 17) (M' := it_m_X0_moodOfAll) (d' := 1) (As := []) d_X5_drawn_36 ml_IcedTooSoon_183 ((hx).2.2.2.2.1).1.1 ((hx).2.2.2.2.1).1.2.1 ⟨_, rfl, rfl⟩ rfl rfl (Nat.le_of_ble_eq_true rfl) (by decide) (by decide) (by decide) (L_X0_moodOfAll (hx.2.1) (hx).2.2.2.2.1 (it_ok_b h)) (fun _ _ _ _ q => by cases q.1; rfl) ?_
        rintro _ _ S12 ⟨rfl, r13, rfl, h⟩
        show it_Ev g l 7 it_m_X5_drawn 0 0 39 [some (.ref 0), some (.int x1), some (.int x2)] [.int r13] κ S12 (it_pi κ P)
        refine ev_goto (tgt := 49) d_X5_drawn_39 (by decide) ?_
        exact ev_ret (v := some (.int _)) ⟨d_X5_drawn_49, _, rfl, rfl⟩ (by decide) (by decide) ⟨rfl, _, rfl, it_ok_r h⟩
    · have h := it_ok_f h hc6
      refine ev_sipush d_X5_drawn_19 kv_sipush_m1000 ?_
      exact ev_ret (v := some (.int _)) ⟨d_X5_drawn_22, _, rfl, rfl⟩ (by decide) (by decide) ⟨rfl, _, rfl, it_ok_r h⟩
theorem d_X5_odds_0 : decode prog_1_method_32_code 0 = .ok (.iload_n 1, 1) := by decide +kernel
theorem d_X5_odds_1 : decode prog_1_method_32_code 1 = .ok (.iconst 0, 1) := by decide +kernel
theorem d_X5_odds_2 : decode prog_1_method_32_code 2 = .ok (.ldc 228, 2) := by decide +kernel
theorem d_X5_odds_4 : decode prog_1_method_32_code 4 = .ok (.invokestatic 96, 3) := by decide +kernel
theorem d_X5_odds_7 : decode prog_1_method_32_code 7 = .ok (.ifCond .ne 36, 3) := by decide +kernel
theorem d_X5_odds_10 : decode prog_1_method_32_code 10 = .ok (.iload_n 2, 1) := by decide +kernel
theorem d_X5_odds_11 : decode prog_1_method_32_code 11 = .ok (.iconst 1, 1) := by decide +kernel
theorem d_X5_odds_12 : decode prog_1_method_32_code 12 = .ok (.bipush 40, 2) := by decide +kernel
theorem d_X5_odds_14 : decode prog_1_method_32_code 14 = .ok (.invokestatic 96, 3) := by decide +kernel
theorem d_X5_odds_17 : decode prog_1_method_32_code 17 = .ok (.ifCond .ne 26, 3) := by decide +kernel
theorem d_X5_odds_20 : decode prog_1_method_32_code 20 = .ok (.iload_n 3, 1) := by decide +kernel
theorem d_X5_odds_21 : decode prog_1_method_32_code 21 = .ok (.sipush (-999), 3) := by decide +kernel
theorem d_X5_odds_24 : decode prog_1_method_32_code 24 = .ok (.sipush 999, 3) := by decide +kernel
theorem d_X5_odds_27 : decode prog_1_method_32_code 27 = .ok (.invokestatic 96, 3) := by decide +kernel
theorem d_X5_odds_30 : decode prog_1_method_32_code 30 = .ok (.ifCond .ne 13, 3) := by decide +kernel
theorem d_X5_odds_33 : decode prog_1_method_32_code 33 = .ok (.iload 4, 2) := by decide +kernel
theorem d_X5_odds_35 : decode prog_1_method_32_code 35 = .ok (.iconst 0, 1) := by decide +kernel
theorem d_X5_odds_36 : decode prog_1_method_32_code 36 = .ok (.iconst 1, 1) := by decide +kernel
theorem d_X5_odds_37 : decode prog_1_method_32_code 37 = .ok (.invokestatic 96, 3) := by decide +kernel
theorem d_X5_odds_40 : decode prog_1_method_32_code 40 = .ok (.ifCond .eq 7, 3) := by decide +kernel
theorem d_X5_odds_43 : decode prog_1_method_32_code 43 = .ok (.ldc2_w 198, 3) := by decide +kernel
theorem d_X5_odds_46 : decode prog_1_method_32_code 46 = .ok (.lreturn, 1) := by decide +kernel
theorem d_X5_odds_47 : decode prog_1_method_32_code 47 = .ok (.iconst 0, 1) := by decide +kernel
theorem d_X5_odds_48 : decode prog_1_method_32_code 48 = .ok (.istore 5, 2) := by decide +kernel
theorem d_X5_odds_50 : decode prog_1_method_32_code 50 = .ok (.iconst 0, 1) := by decide +kernel
theorem d_X5_odds_51 : decode prog_1_method_32_code 51 = .ok (.istore 6, 2) := by decide +kernel
theorem d_X5_odds_53 : decode prog_1_method_32_code 53 = .ok (.iload 6, 2) := by decide +kernel
theorem d_X5_odds_55 : decode prog_1_method_32_code 55 = .ok (.iload_n 2, 1) := by decide +kernel
theorem d_X5_odds_56 : decode prog_1_method_32_code 56 = .ok (.if_icmp .ge 31, 3) := by decide +kernel
theorem d_X5_odds_59 : decode prog_1_method_32_code 59 = .ok (.aload_n 0, 1) := by decide +kernel
theorem d_X5_odds_60 : decode prog_1_method_32_code 60 = .ok (.iload_n 1, 1) := by decide +kernel
theorem d_X5_odds_61 : decode prog_1_method_32_code 61 = .ok (.iload 6, 2) := by decide +kernel
theorem d_X5_odds_63 : decode prog_1_method_32_code 63 = .ok (.iadd, 1) := by decide +kernel
theorem d_X5_odds_64 : decode prog_1_method_32_code 64 = .ok (.invokevirtual 229, 3) := by decide +kernel
theorem d_X5_odds_67 : decode prog_1_method_32_code 67 = .ok (.aload_n 0, 1) := by decide +kernel
theorem d_X5_odds_68 : decode prog_1_method_32_code 68 = .ok (.getfield 32, 3) := by decide +kernel
theorem d_X5_odds_71 : decode prog_1_method_32_code 71 = .ok (.invokevirtual 183, 3) := by decide +kernel
theorem d_X5_odds_74 : decode prog_1_method_32_code 74 = .ok (.iload_n 3, 1) := by decide +kernel
theorem d_X5_odds_75 : decode prog_1_method_32_code 75 = .ok (.if_icmp .lt 6, 3) := by decide +kernel
theorem d_X5_odds_78 : decode prog_1_method_32_code 78 = .ok (.iinc 5 1, 3) := by decide +kernel
theorem d_X5_odds_81 : decode prog_1_method_32_code 81 = .ok (.iinc 6 1, 3) := by decide +kernel
theorem d_X5_odds_84 : decode prog_1_method_32_code 84 = .ok (.goto (-31), 3) := by decide +kernel
theorem d_X5_odds_87 : decode prog_1_method_32_code 87 = .ok (.iload 5, 2) := by decide +kernel
theorem d_X5_odds_89 : decode prog_1_method_32_code 89 = .ok (.iload_n 2, 1) := by decide +kernel
theorem d_X5_odds_90 : decode prog_1_method_32_code 90 = .ok (.iload 4, 2) := by decide +kernel
theorem d_X5_odds_92 : decode prog_1_method_32_code 92 = .ok (.invokestatic 203, 3) := by decide +kernel
theorem d_X5_odds_95 : decode prog_1_method_32_code 95 = .ok (.lreturn, 1) := by decide +kernel
def lp_X5_odds_53 (κ : it_KK) (x1 : Int32) (x2 : Int32) (x3 : Int32) (x4 : Int32) (k53 : (Int32 → it_SS → Option (Int64 × it_SS))) : Nat → Int32 → Int32 → it_SS → Option (Int64 × it_SS)
  | 0, _, _, _ => none
  | n53 + 1, v5, v6, S => if x2 ≤ v6 then
k53 v5 S
else
it_bi (f_X5_thinkOfLots κ (x1 + v6) S) (fun _ S14 =>
it_bi (f_X0_moodOfAll κ 17 S14) (fun r17 S16 =>
if r17 < x3 then
lp_X5_odds_53 κ x1 x2 x3 x4 k53 n53 v5 (v6 + 1) S16
else
lp_X5_odds_53 κ x1 x2 x3 x4 k53 n53 (v5 + 1) (v6 + 1) S16))
def f_X5_odds (κ : it_KK) (x1 : Int32) (x2 : Int32) (x3 : Int32) (x4 : Int32) (S : it_SS) : Option (Int64 × it_SS) :=
it_bi (f_X5_isOutside κ x1 0 99999 S) (fun r2 S1 =>
if r2 = 0 then
it_bi (f_X5_isOutside κ x2 1 40 S1) (fun r5 S4 =>
if r5 = 0 then
it_bi (f_X5_isOutside κ x3 (-999) 999 S4) (fun r8 S7 =>
if r8 = 0 then
it_bi (f_X5_isOutside κ x4 0 1 S7) (fun r11 S10 =>
if r11 = 0 then
lp_X5_odds_53 κ x1 x2 x3 x4 (fun v19 S20 =>
it_bi (f_X5_inLowestTerms κ v19 x2 x4 S20) (fun r22 S21 =>
some (r22, S21))) it_FU 0 0 S10
else
some ((-4611686018427387904), S10))
else
some ((-4611686018427387904), S7))
else
some ((-4611686018427387904), S4))
else
some ((-4611686018427387904), S1))
set_option maxHeartbeats 4000000 in
set_option maxRecDepth 100000 in
theorem Llp_X5_odds_53 {g : it_G} {l : Launch} {κ : it_KK} {x1 : Int32} {x2 : Int32} {x3 : Int32} {x4 : Int32} (hx : it_wx κ) {P : Int64 → it_SS → Prop} {k53 : (Int32 → it_SS → Option (Int64 × it_SS))} (hk53 : ∀ (v5 : Int32) (S : it_SS), it_ok (k53 v5 S) P → it_Ev g l 7 it_m_X5_odds 0 0 87 [none, none, some (.int x2), none, some (.int x4), some (.int v5), none] [] κ S (it_pl κ P)) : ∀ (n : Nat) (v5 : Int32) (v6 : Int32) (S : it_SS), it_ok (lp_X5_odds_53 κ x1 x2 x3 x4 k53 n v5 v6 S) P → it_Ev g l 7 it_m_X5_odds 0 0 53 [some (.ref 0), some (.int x1), some (.int x2), some (.int x3), some (.int x4), some (.int v5), some (.int v6)] [] κ S (it_pl κ P) := by
  intro n
  induction n with
  | zero =>
    intro _ _ _ h
    exact (it_ok_n h).elim
  | succ n53 ih53 =>
    intro v5 v6 S h
    rw [lp_X5_odds_53] at h
    refine ev_iload d_X5_odds_53 rfl ?_
    refine ev_iload_n d_X5_odds_55 rfl ?_
    refine ev_icmp_ge (tgt := 87) d_X5_odds_56 (by decide) (fun hc13 => ?_) (fun hc13 => ?_)
    · have h := it_ok_t h hc13
      refine ev_keep [false, false, true, false, true, true, false] ?_
      exact hk53 _ _ h
    · have h := it_ok_f h hc13
      refine ev_aload_n d_X5_odds_59 rfl ?_
      refine ev_iload_n d_X5_odds_60 rfl ?_
      refine ev_iload d_X5_odds_61 rfl ?_
      refine ev_iadd d_X5_odds_63 ?_
      refine ev_callV (ci := 5) (b := 0) (M' := it_m_X5_thinkOfLots) (d' := 6) (As := [.int (x1 + v6)]) d_X5_odds_64 ml_IcedTooSoon_229 hx.1.1 hx.1.2.1 ⟨_, rfl, rfl⟩ rfl rfl (Nat.le_of_ble_eq_true rfl) (by decide) (by decide) (by decide) (L_X5_thinkOfLots hx (it_ok_b h)) (fun _ _ _ _ q => by cases q.1; rfl) ?_
      rintro _ _ S14 ⟨rfl, rfl, h⟩
      show it_Ev g l 7 it_m_X5_odds 0 0 67 [some (.ref 0), some (.int x1), some (.int x2), some (.int x3), some (.int x4), some (.int v5), some (.int v6)] [] κ S14 (it_pl κ P)
      refine ev_aload_n d_X5_odds_67 rfl ?_
      refine ev_getRr (r := 17) rfl d_X5_odds_68 fl_IcedTooSoon_32 hx.1 rfl ?_
      refine ev_callV (ci := 0) (b := 17) (M' := it_m_X0_moodOfAll) (d' := 1) (As := []) d_X5_odds_71 ml_IcedTooSoon_183 ((hx).2.2.2.2.1).1.1 ((hx).2.2.2.2.1).1.2.1 ⟨_, rfl, rfl⟩ rfl rfl (Nat.le_of_ble_eq_true rfl) (by decide) (by decide) (by decide) (L_X0_moodOfAll (hx.2.1) (hx).2.2.2.2.1 (it_ok_b h)) (fun _ _ _ _ q => by cases q.1; rfl) ?_
      rintro _ _ S16 ⟨rfl, r17, rfl, h⟩
      show it_Ev g l 7 it_m_X5_odds 0 0 74 [some (.ref 0), some (.int x1), some (.int x2), some (.int x3), some (.int x4), some (.int v5), some (.int v6)] [.int r17] κ S16 (it_pl κ P)
      refine ev_iload_n d_X5_odds_74 rfl ?_
      refine ev_icmp_lt (tgt := 81) d_X5_odds_75 (by decide) (fun hc18 => ?_) (fun hc18 => ?_)
      · have h := it_ok_t h hc18
        refine ev_iinc d_X5_odds_81 kv_iconst_1 rfl (by decide) ?_
        show it_Ev g l 7 it_m_X5_odds 0 0 84 [some (.ref 0), some (.int x1), some (.int x2), some (.int x3), some (.int x4), some (.int v5), some (.int (v6 + 1))] [] κ S16 (it_pl κ P)
        refine ev_goto (tgt := 53) d_X5_odds_84 (by decide) ?_
        refine ev_keep [true, true, true, true, true, true, true] ?_
        exact ih53 _ _ _ h
      · have h := it_ok_f h hc18
        refine ev_iinc d_X5_odds_78 kv_iconst_1 rfl (by decide) ?_
        show it_Ev g l 7 it_m_X5_odds 0 0 81 [some (.ref 0), some (.int x1), some (.int x2), some (.int x3), some (.int x4), some (.int (v5 + 1)), some (.int v6)] [] κ S16 (it_pl κ P)
        refine ev_iinc d_X5_odds_81 kv_iconst_1 rfl (by decide) ?_
        show it_Ev g l 7 it_m_X5_odds 0 0 84 [some (.ref 0), some (.int x1), some (.int x2), some (.int x3), some (.int x4), some (.int (v5 + 1)), some (.int (v6 + 1))] [] κ S16 (it_pl κ P)
        refine ev_goto (tgt := 53) d_X5_odds_84 (by decide) ?_
        refine ev_keep [true, true, true, true, true, true, true] ?_
        exact ih53 _ _ _ h
set_option maxHeartbeats 4000000 in
set_option maxRecDepth 100000 in
theorem L_X5_odds {g : it_G} {l : Launch} {κ : it_KK} {x1 : Int32} {x2 : Int32} {x3 : Int32} {x4 : Int32} (hx : it_wx κ) {S : it_SS} {P : Int64 → it_SS → Prop} (h : it_ok (f_X5_odds κ x1 x2 x3 x4 S) P) : it_Cn g l 7 it_m_X5_odds [.ref 0, .int x1, .int x2, .int x3, .int x4] κ S (it_pl κ P) := by
  refine it_Cn.of (by decide +kernel) (Nat.le_of_ble_eq_true rfl) ?_
  rw [f_X5_odds] at h
  show it_Ev g l 7 it_m_X5_odds 0 0 0 [some (.ref 0), some (.int x1), some (.int x2), some (.int x3), some (.int x4), none, none] [] κ S (it_pl κ P)
  refine ev_iload_n d_X5_odds_0 rfl ?_
  refine ev_iconst d_X5_odds_1 kv_iconst_0 ?_
  refine ev_ldc d_X5_odds_2 kn_IcedTooSoon_228 ?_
  refine ev_callS (M' := it_m_X5_isOutside) (d' := 1) (As := [.int x1, .int 0, .int 99999]) d_X5_odds_4 ml_IcedTooSoon_96 rfl rfl (Nat.le_of_ble_eq_true rfl) (by decide) (by decide) (by decide) (L_X5_isOutside  (it_ok_b h)) (fun _ _ _ _ q => by cases q.1; rfl) ?_
  rintro _ _ S1 ⟨rfl, r2, rfl, h⟩
  show it_Ev g l 7 it_m_X5_odds 0 0 7 [some (.ref 0), some (.int x1), some (.int x2), some (.int x3), some (.int x4), none, none] [.int r2] κ S1 (it_pl κ P)
  refine ev_if_ne (tgt := 43) d_X5_odds_7 (by decide) (fun hc3 => ?_) (fun hc3 => ?_)
  · have h := it_ok_f h hc3
    refine ev_ldc2 d_X5_odds_43 kn_IcedTooSoon_198 ?_
    exact ev_ret (v := some (.long _)) ⟨d_X5_odds_46, rfl⟩ (by decide) (by decide) ⟨rfl, _, rfl, it_ok_r h⟩
  · have h := it_ok_t h hc3
    refine ev_iload_n d_X5_odds_10 rfl ?_
    refine ev_iconst d_X5_odds_11 kv_iconst_1 ?_
    refine ev_bipush d_X5_odds_12 kv_bipush_40 ?_
    refine ev_callS (M' := it_m_X5_isOutside) (d' := 1) (As := [.int x2, .int 1, .int 40]) d_X5_odds_14 ml_IcedTooSoon_96 rfl rfl (Nat.le_of_ble_eq_true rfl) (by decide) (by decide) (by decide) (L_X5_isOutside  (it_ok_b h)) (fun _ _ _ _ q => by cases q.1; rfl) ?_
    rintro _ _ S4 ⟨rfl, r5, rfl, h⟩
    show it_Ev g l 7 it_m_X5_odds 0 0 17 [some (.ref 0), some (.int x1), some (.int x2), some (.int x3), some (.int x4), none, none] [.int r5] κ S4 (it_pl κ P)
    refine ev_if_ne (tgt := 43) d_X5_odds_17 (by decide) (fun hc6 => ?_) (fun hc6 => ?_)
    · have h := it_ok_f h hc6
      refine ev_ldc2 d_X5_odds_43 kn_IcedTooSoon_198 ?_
      exact ev_ret (v := some (.long _)) ⟨d_X5_odds_46, rfl⟩ (by decide) (by decide) ⟨rfl, _, rfl, it_ok_r h⟩
    · have h := it_ok_t h hc6
      refine ev_iload_n d_X5_odds_20 rfl ?_
      refine ev_sipush d_X5_odds_21 kv_sipush_m999 ?_
      refine ev_sipush d_X5_odds_24 kv_sipush_999 ?_
      refine ev_callS (M' := it_m_X5_isOutside) (d' := 1) (As := [.int x3, .int (-999), .int 999]) d_X5_odds_27 ml_IcedTooSoon_96 rfl rfl (Nat.le_of_ble_eq_true rfl) (by decide) (by decide) (by decide) (L_X5_isOutside  (it_ok_b h)) (fun _ _ _ _ q => by cases q.1; rfl) ?_
      rintro _ _ S7 ⟨rfl, r8, rfl, h⟩
      show it_Ev g l 7 it_m_X5_odds 0 0 30 [some (.ref 0), some (.int x1), some (.int x2), some (.int x3), some (.int x4), none, none] [.int r8] κ S7 (it_pl κ P)
      refine ev_if_ne (tgt := 43) d_X5_odds_30 (by decide) (fun hc9 => ?_) (fun hc9 => ?_)
      · have h := it_ok_f h hc9
        refine ev_ldc2 d_X5_odds_43 kn_IcedTooSoon_198 ?_
        exact ev_ret (v := some (.long _)) ⟨d_X5_odds_46, rfl⟩ (by decide) (by decide) ⟨rfl, _, rfl, it_ok_r h⟩
      · have h := it_ok_t h hc9
        refine ev_iload d_X5_odds_33 rfl ?_
        refine ev_iconst d_X5_odds_35 kv_iconst_0 ?_
        refine ev_iconst d_X5_odds_36 kv_iconst_1 ?_
        refine ev_callS (M' := it_m_X5_isOutside) (d' := 1) (As := [.int x4, .int 0, .int 1]) d_X5_odds_37 ml_IcedTooSoon_96 rfl rfl (Nat.le_of_ble_eq_true rfl) (by decide) (by decide) (by decide) (L_X5_isOutside  (it_ok_b h)) (fun _ _ _ _ q => by cases q.1; rfl) ?_
        rintro _ _ S10 ⟨rfl, r11, rfl, h⟩
        show it_Ev g l 7 it_m_X5_odds 0 0 40 [some (.ref 0), some (.int x1), some (.int x2), some (.int x3), some (.int x4), none, none] [.int r11] κ S10 (it_pl κ P)
        refine ev_if_eq (tgt := 47) d_X5_odds_40 (by decide) (fun hc12 => ?_) (fun hc12 => ?_)
        · have h := it_ok_t h hc12
          refine ev_iconst d_X5_odds_47 kv_iconst_0 ?_
          refine ev_istore d_X5_odds_48 (by decide) ?_
          show it_Ev g l 7 it_m_X5_odds 0 0 50 [some (.ref 0), some (.int x1), some (.int x2), some (.int x3), some (.int x4), some (.int 0), none] [] κ S10 (it_pl κ P)
          refine ev_iconst d_X5_odds_50 kv_iconst_0 ?_
          refine ev_istore d_X5_odds_51 (by decide) ?_
          show it_Ev g l 7 it_m_X5_odds 0 0 53 [some (.ref 0), some (.int x1), some (.int x2), some (.int x3), some (.int x4), some (.int 0), some (.int 0)] [] κ S10 (it_pl κ P)
          refine ev_keep [true, true, true, true, true, true, true] ?_
          refine Llp_X5_odds_53 hx (fun v19 S20 h => ?_) _ _ _ _ h
          show it_Ev g l 7 it_m_X5_odds 0 0 87 [none, none, some (.int x2), none, some (.int x4), some (.int v19), none] [] κ S20 (it_pl κ P)
          refine ev_iload d_X5_odds_87 rfl ?_
          refine ev_iload_n d_X5_odds_89 rfl ?_
          refine ev_iload d_X5_odds_90 rfl ?_
          refine ev_callS (M' := it_m_X5_inLowestTerms) (d' := 2) (As := [.int v19, .int x2, .int x4]) d_X5_odds_92 ml_IcedTooSoon_203 rfl rfl (Nat.le_of_ble_eq_true rfl) (by decide) (by decide) (by decide) (L_X5_inLowestTerms  (it_ok_b h)) (fun _ _ _ _ q => by cases q.1; rfl) ?_
          rintro _ _ S21 ⟨rfl, r22, rfl, h⟩
          show it_Ev g l 7 it_m_X5_odds 0 0 95 [none, none, some (.int x2), none, some (.int x4), some (.int v19), none] [.long r22] κ S21 (it_pl κ P)
          exact ev_ret (v := some (.long _)) ⟨d_X5_odds_95, rfl⟩ (by decide) (by decide) ⟨rfl, _, rfl, it_ok_r h⟩
        · have h := it_ok_f h hc12
          refine ev_ldc2 d_X5_odds_43 kn_IcedTooSoon_198 ?_
          exact ev_ret (v := some (.long _)) ⟨d_X5_odds_46, rfl⟩ (by decide) (by decide) ⟨rfl, _, rfl, it_ok_r h⟩
theorem d_X5_image_0 : decode prog_1_method_33_code 0 = .ok (.aload_n 0, 1) := by decide +kernel
theorem d_X5_image_1 : decode prog_1_method_33_code 1 = .ok (.getfield 35, 3) := by decide +kernel
theorem d_X5_image_4 : decode prog_1_method_33_code 4 = .ok (.aload_n 0, 1) := by decide +kernel
theorem d_X5_image_5 : decode prog_1_method_33_code 5 = .ok (.getfield 28, 3) := by decide +kernel
theorem d_X5_image_8 : decode prog_1_method_33_code 8 = .ok (.invokevirtual 232, 3) := by decide +kernel
theorem d_X5_image_11 : decode prog_1_method_33_code 11 = .ok (.aload_n 0, 1) := by decide +kernel
theorem d_X5_image_12 : decode prog_1_method_33_code 12 = .ok (.iconst 1, 1) := by decide +kernel
theorem d_X5_image_13 : decode prog_1_method_33_code 13 = .ok (.putfield 38, 3) := by decide +kernel
theorem d_X5_image_16 : decode prog_1_method_33_code 16 = .ok (.aload_n 0, 1) := by decide +kernel
theorem d_X5_image_17 : decode prog_1_method_33_code 17 = .ok (.getfield 28, 3) := by decide +kernel
theorem d_X5_image_20 : decode prog_1_method_33_code 20 = .ok (.getfield 79, 3) := by decide +kernel
theorem d_X5_image_23 : decode prog_1_method_33_code 23 = .ok (.ireturn, 1) := by decide +kernel
def f_X5_image (κ : it_KK)  (S : it_SS) : Option (Int32 × it_SS) :=
it_bi (f_X0_become κ 25 9 S) (fun _ S1 =>
some (((it_up S1 0 5 1) 9 1), it_up S1 0 5 1))
set_option maxHeartbeats 4000000 in
set_option maxRecDepth 100000 in
theorem L_X5_image {g : it_G} {l : Launch} {κ : it_KK} (hx : it_wx κ) {S : it_SS} {P : Int32 → it_SS → Prop} (h : it_ok (f_X5_image κ  S) P) : it_Cn g l 3 it_m_X5_image [.ref 0] κ S (it_pi κ P) := by
  refine it_Cn.of (by decide +kernel) (Nat.le_of_ble_eq_true rfl) ?_
  rw [f_X5_image] at h
  show it_Ev g l 3 it_m_X5_image 0 0 0 [some (.ref 0)] [] κ S (it_pi κ P)
  refine ev_aload_n d_X5_image_0 rfl ?_
  refine ev_getRr (r := 25) rfl d_X5_image_1 fl_IcedTooSoon_35 hx.1 rfl ?_
  refine ev_aload_n d_X5_image_4 rfl ?_
  refine ev_getRr (r := 9) rfl d_X5_image_5 fl_IcedTooSoon_28 hx.1 rfl ?_
  refine ev_callV (ci := 0) (b := 25) (M' := it_m_X0_become) (d' := 2) (As := [.ref 9]) d_X5_image_8 ml_IcedTooSoon_232 ((hx).2.2.2.2.2.1).1.1 ((hx).2.2.2.2.2.1).1.2.1 ⟨_, rfl, rfl⟩ rfl rfl (Nat.le_of_ble_eq_true rfl) (by decide) (by decide) (by decide) (L_X0_become (hx.2.1) (hx).2.2.2.2.2.1 ((hx).2.2.2.1) (it_ok_b h)) (fun _ _ _ _ q => by cases q.1; rfl) ?_
  rintro _ _ S1 ⟨rfl, rfl, h⟩
  show it_Ev g l 3 it_m_X5_image 0 0 11 [some (.ref 0)] [] κ S1 (it_pi κ P)
  refine ev_aload_n d_X5_image_11 rfl ?_
  refine ev_iconst d_X5_image_12 kv_iconst_1 ?_
  refine ev_put d_X5_image_13 (by decide) fl_IcedTooSoon_38 fw_5_5 hx.1.1 hx.1.2.1 rfl rfl rfl ?_
  refine ev_aload_n d_X5_image_16 rfl ?_
  refine ev_getRr (r := 9) rfl d_X5_image_17 fl_IcedTooSoon_28 hx.1 rfl ?_
  refine ev_getI d_X5_image_20 fl_IcedTooSoon_79 ((hx).2.2.2.1).1 rfl ?_
  exact ev_ret (v := some (.int _)) ⟨d_X5_image_23, _, rfl, rfl⟩ (by decide) (by decide) ⟨rfl, _, rfl, it_ok_r h⟩
theorem d_X5_back_0 : decode prog_1_method_34_code 0 = .ok (.aload_n 0, 1) := by decide +kernel
theorem d_X5_back_1 : decode prog_1_method_34_code 1 = .ok (.getfield 38, 3) := by decide +kernel
theorem d_X5_back_4 : decode prog_1_method_34_code 4 = .ok (.ifCond .ne 6, 3) := by decide +kernel
theorem d_X5_back_7 : decode prog_1_method_34_code 7 = .ok (.bipush (-3), 2) := by decide +kernel
theorem d_X5_back_9 : decode prog_1_method_34_code 9 = .ok (.ireturn, 1) := by decide +kernel
theorem d_X5_back_10 : decode prog_1_method_34_code 10 = .ok (.aload_n 0, 1) := by decide +kernel
theorem d_X5_back_11 : decode prog_1_method_34_code 11 = .ok (.getfield 28, 3) := by decide +kernel
theorem d_X5_back_14 : decode prog_1_method_34_code 14 = .ok (.aload_n 0, 1) := by decide +kernel
theorem d_X5_back_15 : decode prog_1_method_34_code 15 = .ok (.getfield 35, 3) := by decide +kernel
theorem d_X5_back_18 : decode prog_1_method_34_code 18 = .ok (.invokevirtual 232, 3) := by decide +kernel
theorem d_X5_back_21 : decode prog_1_method_34_code 21 = .ok (.aload_n 0, 1) := by decide +kernel
theorem d_X5_back_22 : decode prog_1_method_34_code 22 = .ok (.getfield 28, 3) := by decide +kernel
theorem d_X5_back_25 : decode prog_1_method_34_code 25 = .ok (.getfield 79, 3) := by decide +kernel
theorem d_X5_back_28 : decode prog_1_method_34_code 28 = .ok (.ireturn, 1) := by decide +kernel
def f_X5_back (κ : it_KK)  (S : it_SS) : Option (Int32 × it_SS) :=
if (S 0 5) = 0 then
some ((-3), S)
else
it_bi (f_X0_become κ 9 25 S) (fun _ S2 =>
some ((S2 9 1), S2))
set_option maxHeartbeats 4000000 in
set_option maxRecDepth 100000 in
theorem L_X5_back {g : it_G} {l : Launch} {κ : it_KK} (hx : it_wx κ) {S : it_SS} {P : Int32 → it_SS → Prop} (h : it_ok (f_X5_back κ  S) P) : it_Cn g l 3 it_m_X5_back [.ref 0] κ S (it_pi κ P) := by
  refine it_Cn.of (by decide +kernel) (Nat.le_of_ble_eq_true rfl) ?_
  rw [f_X5_back] at h
  show it_Ev g l 3 it_m_X5_back 0 0 0 [some (.ref 0)] [] κ S (it_pi κ P)
  refine ev_aload_n d_X5_back_0 rfl ?_
  refine ev_getI d_X5_back_1 fl_IcedTooSoon_38 hx.1 rfl ?_
  refine ev_if_ne (tgt := 10) d_X5_back_4 (by decide) (fun hc1 => ?_) (fun hc1 => ?_)
  · have h := it_ok_f h hc1
    refine ev_aload_n d_X5_back_10 rfl ?_
    refine ev_getRr (r := 9) rfl d_X5_back_11 fl_IcedTooSoon_28 hx.1 rfl ?_
    refine ev_aload_n d_X5_back_14 rfl ?_
    refine ev_getRr (r := 25) rfl d_X5_back_15 fl_IcedTooSoon_35 hx.1 rfl ?_
    refine ev_callV (ci := 0) (b := 9) (M' := it_m_X0_become) (d' := 2) (As := [.ref 25]) d_X5_back_18 ml_IcedTooSoon_232 ((hx).2.2.2.1).1.1 ((hx).2.2.2.1).1.2.1 ⟨_, rfl, rfl⟩ rfl rfl (Nat.le_of_ble_eq_true rfl) (by decide) (by decide) (by decide) (L_X0_become (hx.2.1) (hx).2.2.2.1 ((hx).2.2.2.2.2.1) (it_ok_b h)) (fun _ _ _ _ q => by cases q.1; rfl) ?_
    rintro _ _ S2 ⟨rfl, rfl, h⟩
    show it_Ev g l 3 it_m_X5_back 0 0 21 [some (.ref 0)] [] κ S2 (it_pi κ P)
    refine ev_aload_n d_X5_back_21 rfl ?_
    refine ev_getRr (r := 9) rfl d_X5_back_22 fl_IcedTooSoon_28 hx.1 rfl ?_
    refine ev_getI d_X5_back_25 fl_IcedTooSoon_79 ((hx).2.2.2.1).1 rfl ?_
    exact ev_ret (v := some (.int _)) ⟨d_X5_back_28, _, rfl, rfl⟩ (by decide) (by decide) ⟨rfl, _, rfl, it_ok_r h⟩
  · have h := it_ok_t h hc1
    refine ev_bipush d_X5_back_7 kv_bipush_m3 ?_
    exact ev_ret (v := some (.int _)) ⟨d_X5_back_9, _, rfl, rfl⟩ (by decide) (by decide) ⟨rfl, _, rfl, it_ok_r h⟩
theorem d_X5_sheet_0 : decode prog_1_method_35_code 0 = .ok (.iload_n 1, 1) := by decide +kernel
theorem d_X5_sheet_1 : decode prog_1_method_35_code 1 = .ok (.invokestatic 219, 3) := by decide +kernel
theorem d_X5_sheet_4 : decode prog_1_method_35_code 4 = .ok (.ifCond .ne 12, 3) := by decide +kernel
theorem d_X5_sheet_7 : decode prog_1_method_35_code 7 = .ok (.iload_n 2, 1) := by decide +kernel
theorem d_X5_sheet_8 : decode prog_1_method_35_code 8 = .ok (.iconst (-1), 1) := by decide +kernel
theorem d_X5_sheet_9 : decode prog_1_method_35_code 9 = .ok (.iconst 2, 1) := by decide +kernel
theorem d_X5_sheet_10 : decode prog_1_method_35_code 10 = .ok (.invokestatic 96, 3) := by decide +kernel
theorem d_X5_sheet_13 : decode prog_1_method_35_code 13 = .ok (.ifCond .eq 6, 3) := by decide +kernel
theorem d_X5_sheet_16 : decode prog_1_method_35_code 16 = .ok (.bipush (-2), 2) := by decide +kernel
theorem d_X5_sheet_18 : decode prog_1_method_35_code 18 = .ok (.ireturn, 1) := by decide +kernel
theorem d_X5_sheet_19 : decode prog_1_method_35_code 19 = .ok (.iload_n 2, 1) := by decide +kernel
theorem d_X5_sheet_20 : decode prog_1_method_35_code 20 = .ok (.iconst (-1), 1) := by decide +kernel
theorem d_X5_sheet_21 : decode prog_1_method_35_code 21 = .ok (.if_icmp .ne 16, 3) := by decide +kernel
theorem d_X5_sheet_24 : decode prog_1_method_35_code 24 = .ok (.aload_n 0, 1) := by decide +kernel
theorem d_X5_sheet_25 : decode prog_1_method_35_code 25 = .ok (.getfield 44, 3) := by decide +kernel
theorem d_X5_sheet_28 : decode prog_1_method_35_code 28 = .ok (.iload_n 1, 1) := by decide +kernel
theorem d_X5_sheet_29 : decode prog_1_method_35_code 29 = .ok (.aaload, 1) := by decide +kernel
theorem d_X5_sheet_30 : decode prog_1_method_35_code 30 = .ok (.iconst (-1), 1) := by decide +kernel
theorem d_X5_sheet_31 : decode prog_1_method_35_code 31 = .ok (.iconst 0, 1) := by decide +kernel
theorem d_X5_sheet_32 : decode prog_1_method_35_code 32 = .ok (.invokevirtual 222, 3) := by decide +kernel
theorem d_X5_sheet_35 : decode prog_1_method_35_code 35 = .ok (.iconst 1, 1) := by decide +kernel
theorem d_X5_sheet_36 : decode prog_1_method_35_code 36 = .ok (.ireturn, 1) := by decide +kernel
theorem d_X5_sheet_37 : decode prog_1_method_35_code 37 = .ok (.iload_n 3, 1) := by decide +kernel
theorem d_X5_sheet_38 : decode prog_1_method_35_code 38 = .ok (.bipush 40, 2) := by decide +kernel
theorem d_X5_sheet_40 : decode prog_1_method_35_code 40 = .ok (.if_icmp .le 6, 3) := by decide +kernel
theorem d_X5_sheet_43 : decode prog_1_method_35_code 43 = .ok (.bipush (-2), 2) := by decide +kernel
theorem d_X5_sheet_45 : decode prog_1_method_35_code 45 = .ok (.ireturn, 1) := by decide +kernel
theorem d_X5_sheet_46 : decode prog_1_method_35_code 46 = .ok (.iload_n 3, 1) := by decide +kernel
theorem d_X5_sheet_47 : decode prog_1_method_35_code 47 = .ok (.ifCond .ge 6, 3) := by decide +kernel
theorem d_X5_sheet_50 : decode prog_1_method_35_code 50 = .ok (.bipush (-14), 2) := by decide +kernel
theorem d_X5_sheet_52 : decode prog_1_method_35_code 52 = .ok (.ireturn, 1) := by decide +kernel
theorem d_X5_sheet_53 : decode prog_1_method_35_code 53 = .ok (.aload_n 0, 1) := by decide +kernel
theorem d_X5_sheet_54 : decode prog_1_method_35_code 54 = .ok (.getfield 44, 3) := by decide +kernel
theorem d_X5_sheet_57 : decode prog_1_method_35_code 57 = .ok (.iload_n 1, 1) := by decide +kernel
theorem d_X5_sheet_58 : decode prog_1_method_35_code 58 = .ok (.aaload, 1) := by decide +kernel
theorem d_X5_sheet_59 : decode prog_1_method_35_code 59 = .ok (.iload_n 2, 1) := by decide +kernel
theorem d_X5_sheet_60 : decode prog_1_method_35_code 60 = .ok (.iload_n 3, 1) := by decide +kernel
theorem d_X5_sheet_61 : decode prog_1_method_35_code 61 = .ok (.invokevirtual 222, 3) := by decide +kernel
theorem d_X5_sheet_64 : decode prog_1_method_35_code 64 = .ok (.iconst 1, 1) := by decide +kernel
theorem d_X5_sheet_65 : decode prog_1_method_35_code 65 = .ok (.ireturn, 1) := by decide +kernel
def f_X5_sheet (κ : it_KK) (x1 : Int32) (x2 : Int32) (x3 : Int32) (S : it_SS) : Option (Int32 × it_SS) :=
it_bi (f_X5_isNoSheet κ x1 S) (fun r2 S1 =>
if r2 = 0 then
it_bi (f_X5_isOutside κ x2 (-1) 2 S1) (fun r5 S4 =>
if r5 = 0 then
if x2 = (-1) then
if it_bd x1 4 = true then
it_bi (f_X2_renew κ (it_el 2 (x1 : Int32).toNatClampNeg) (-1) 0 S4) (fun _ S14 =>
some (1, S14))
else none
else
if x3 ≤ 40 then
if 0 ≤ x3 then
if it_bd x1 4 = true then
it_bi (f_X2_renew κ (it_el 2 (x1 : Int32).toNatClampNeg) x2 x3 S4) (fun _ S11 =>
some (1, S11))
else none
else
some ((-14), S4)
else
some ((-2), S4)
else
some ((-2), S4))
else
some ((-2), S1))
set_option maxHeartbeats 4000000 in
set_option maxRecDepth 100000 in
theorem L_X5_sheet {g : it_G} {l : Launch} {κ : it_KK} {x1 : Int32} {x2 : Int32} {x3 : Int32} (hx : it_wx κ) {S : it_SS} {P : Int32 → it_SS → Prop} (h : it_ok (f_X5_sheet κ x1 x2 x3 S) P) : it_Cn g l 3 it_m_X5_sheet [.ref 0, .int x1, .int x2, .int x3] κ S (it_pi κ P) := by
  refine it_Cn.of (by decide +kernel) (Nat.le_of_ble_eq_true rfl) ?_
  rw [f_X5_sheet] at h
  show it_Ev g l 3 it_m_X5_sheet 0 0 0 [some (.ref 0), some (.int x1), some (.int x2), some (.int x3)] [] κ S (it_pi κ P)
  refine ev_iload_n d_X5_sheet_0 rfl ?_
  refine ev_callS (M' := it_m_X5_isNoSheet) (d' := 2) (As := [.int x1]) d_X5_sheet_1 ml_IcedTooSoon_219 rfl rfl (Nat.le_of_ble_eq_true rfl) (by decide) (by decide) (by decide) (L_X5_isNoSheet  (it_ok_b h)) (fun _ _ _ _ q => by cases q.1; rfl) ?_
  rintro _ _ S1 ⟨rfl, r2, rfl, h⟩
  show it_Ev g l 3 it_m_X5_sheet 0 0 4 [some (.ref 0), some (.int x1), some (.int x2), some (.int x3)] [.int r2] κ S1 (it_pi κ P)
  refine ev_if_ne (tgt := 16) d_X5_sheet_4 (by decide) (fun hc3 => ?_) (fun hc3 => ?_)
  · have h := it_ok_f h hc3
    refine ev_bipush d_X5_sheet_16 kv_bipush_m2 ?_
    exact ev_ret (v := some (.int _)) ⟨d_X5_sheet_18, _, rfl, rfl⟩ (by decide) (by decide) ⟨rfl, _, rfl, it_ok_r h⟩
  · have h := it_ok_t h hc3
    refine ev_iload_n d_X5_sheet_7 rfl ?_
    refine ev_iconst d_X5_sheet_8 kv_iconst_m1 ?_
    refine ev_iconst d_X5_sheet_9 kv_iconst_2 ?_
    refine ev_callS (M' := it_m_X5_isOutside) (d' := 1) (As := [.int x2, .int (-1), .int 2]) d_X5_sheet_10 ml_IcedTooSoon_96 rfl rfl (Nat.le_of_ble_eq_true rfl) (by decide) (by decide) (by decide) (L_X5_isOutside  (it_ok_b h)) (fun _ _ _ _ q => by cases q.1; rfl) ?_
    rintro _ _ S4 ⟨rfl, r5, rfl, h⟩
    show it_Ev g l 3 it_m_X5_sheet 0 0 13 [some (.ref 0), some (.int x1), some (.int x2), some (.int x3)] [.int r5] κ S4 (it_pi κ P)
    refine ev_if_eq (tgt := 19) d_X5_sheet_13 (by decide) (fun hc6 => ?_) (fun hc6 => ?_)
    · have h := it_ok_t h hc6
      refine ev_iload_n d_X5_sheet_19 rfl ?_
      refine ev_iconst d_X5_sheet_20 kv_iconst_m1 ?_
      refine ev_icmp_ne (tgt := 37) d_X5_sheet_21 (by decide) (fun hc7 => ?_) (fun hc7 => ?_)
      · have h := it_ok_f h hc7
        refine ev_iload_n d_X5_sheet_37 rfl ?_
        refine ev_bipush d_X5_sheet_38 kv_bipush_40 ?_
        refine ev_icmp_le (tgt := 46) d_X5_sheet_40 (by decide) (fun hc8 => ?_) (fun hc8 => ?_)
        · have h := it_ok_t h hc8
          refine ev_iload_n d_X5_sheet_46 rfl ?_
          refine ev_if_ge (tgt := 53) d_X5_sheet_47 (by decide) (fun hc9 => ?_) (fun hc9 => ?_)
          · have h := it_ok_t h hc9
            refine ev_aload_n d_X5_sheet_53 rfl ?_
            refine ev_getRr (r := 33) rfl d_X5_sheet_54 fl_IcedTooSoon_44 hx.1 rfl ?_
            refine ev_iload_n d_X5_sheet_57 rfl ?_
            obtain ⟨hb10, h⟩ := it_ok_g h
            refine ev_aald d_X5_sheet_58 (hx).2.2.2.2.2.2.1 (it_bd_in hb10) ((hx).2.2.2.2.2.2.2.1 _ (it_bd_lt hb10)) ?_
            refine ev_iload_n d_X5_sheet_59 rfl ?_
            refine ev_iload_n d_X5_sheet_60 rfl ?_
            refine ev_callV (ci := 2) (b := (it_el 2 (x1 : Int32).toNatClampNeg)) (M' := it_m_X2_renew) (d' := 2) (As := [.int x2, .int x3]) d_X5_sheet_61 ml_IcedTooSoon_222 ((hx).2.2.2.2.2.2.2.2 _ (it_bd_lt hb10)).1.1 ((hx).2.2.2.2.2.2.2.2 _ (it_bd_lt hb10)).1.2.1 ⟨_, rfl, rfl⟩ rfl rfl (Nat.le_of_ble_eq_true rfl) (by decide) (by decide) (by decide) (L_X2_renew ((hx).2.2.2.2.2.2.2.2 _ (it_bd_lt hb10)) (it_ok_b h)) (fun _ _ _ _ q => by cases q.1; rfl) ?_
            rintro _ _ S11 ⟨rfl, rfl, h⟩
            show it_Ev g l 3 it_m_X5_sheet 0 0 64 [some (.ref 0), some (.int x1), some (.int x2), some (.int x3)] [] κ S11 (it_pi κ P)
            refine ev_iconst d_X5_sheet_64 kv_iconst_1 ?_
            exact ev_ret (v := some (.int _)) ⟨d_X5_sheet_65, _, rfl, rfl⟩ (by decide) (by decide) ⟨rfl, _, rfl, it_ok_r h⟩
          · have h := it_ok_f h hc9
            refine ev_bipush d_X5_sheet_50 kv_bipush_m14 ?_
            exact ev_ret (v := some (.int _)) ⟨d_X5_sheet_52, _, rfl, rfl⟩ (by decide) (by decide) ⟨rfl, _, rfl, it_ok_r h⟩
        · have h := it_ok_f h hc8
          refine ev_bipush d_X5_sheet_43 kv_bipush_m2 ?_
          exact ev_ret (v := some (.int _)) ⟨d_X5_sheet_45, _, rfl, rfl⟩ (by decide) (by decide) ⟨rfl, _, rfl, it_ok_r h⟩
      · have h := it_ok_t h hc7
        refine ev_aload_n d_X5_sheet_24 rfl ?_
        refine ev_getRr (r := 33) rfl d_X5_sheet_25 fl_IcedTooSoon_44 hx.1 rfl ?_
        refine ev_iload_n d_X5_sheet_28 rfl ?_
        obtain ⟨hb13, h⟩ := it_ok_g h
        refine ev_aald d_X5_sheet_29 (hx).2.2.2.2.2.2.1 (it_bd_in hb13) ((hx).2.2.2.2.2.2.2.1 _ (it_bd_lt hb13)) ?_
        refine ev_iconst d_X5_sheet_30 kv_iconst_m1 ?_
        refine ev_iconst d_X5_sheet_31 kv_iconst_0 ?_
        refine ev_callV (ci := 2) (b := (it_el 2 (x1 : Int32).toNatClampNeg)) (M' := it_m_X2_renew) (d' := 2) (As := [.int (-1), .int 0]) d_X5_sheet_32 ml_IcedTooSoon_222 ((hx).2.2.2.2.2.2.2.2 _ (it_bd_lt hb13)).1.1 ((hx).2.2.2.2.2.2.2.2 _ (it_bd_lt hb13)).1.2.1 ⟨_, rfl, rfl⟩ rfl rfl (Nat.le_of_ble_eq_true rfl) (by decide) (by decide) (by decide) (L_X2_renew ((hx).2.2.2.2.2.2.2.2 _ (it_bd_lt hb13)) (it_ok_b h)) (fun _ _ _ _ q => by cases q.1; rfl) ?_
        rintro _ _ S14 ⟨rfl, rfl, h⟩
        show it_Ev g l 3 it_m_X5_sheet 0 0 35 [some (.ref 0), some (.int x1), some (.int x2), some (.int x3)] [] κ S14 (it_pi κ P)
        refine ev_iconst d_X5_sheet_35 kv_iconst_1 ?_
        exact ev_ret (v := some (.int _)) ⟨d_X5_sheet_36, _, rfl, rfl⟩ (by decide) (by decide) ⟨rfl, _, rfl, it_ok_r h⟩
    · have h := it_ok_f h hc6
      refine ev_bipush d_X5_sheet_16 kv_bipush_m2 ?_
      exact ev_ret (v := some (.int _)) ⟨d_X5_sheet_18, _, rfl, rfl⟩ (by decide) (by decide) ⟨rfl, _, rfl, it_ok_r h⟩
theorem d_X5_cell_0 : decode prog_1_method_36_code 0 = .ok (.iload_n 1, 1) := by decide +kernel
theorem d_X5_cell_1 : decode prog_1_method_36_code 1 = .ok (.invokestatic 219, 3) := by decide +kernel
theorem d_X5_cell_4 : decode prog_1_method_36_code 4 = .ok (.ifCond .eq 6, 3) := by decide +kernel
theorem d_X5_cell_7 : decode prog_1_method_36_code 7 = .ok (.bipush (-2), 2) := by decide +kernel
theorem d_X5_cell_9 : decode prog_1_method_36_code 9 = .ok (.ireturn, 1) := by decide +kernel
theorem d_X5_cell_10 : decode prog_1_method_36_code 10 = .ok (.aload_n 0, 1) := by decide +kernel
theorem d_X5_cell_11 : decode prog_1_method_36_code 11 = .ok (.getfield 44, 3) := by decide +kernel
theorem d_X5_cell_14 : decode prog_1_method_36_code 14 = .ok (.iload_n 1, 1) := by decide +kernel
theorem d_X5_cell_15 : decode prog_1_method_36_code 15 = .ok (.aaload, 1) := by decide +kernel
theorem d_X5_cell_16 : decode prog_1_method_36_code 16 = .ok (.getfield 236, 3) := by decide +kernel
theorem d_X5_cell_19 : decode prog_1_method_36_code 19 = .ok (.iconst (-1), 1) := by decide +kernel
theorem d_X5_cell_20 : decode prog_1_method_36_code 20 = .ok (.if_icmp .ne 6, 3) := by decide +kernel
theorem d_X5_cell_23 : decode prog_1_method_36_code 23 = .ok (.bipush (-11), 2) := by decide +kernel
theorem d_X5_cell_25 : decode prog_1_method_36_code 25 = .ok (.ireturn, 1) := by decide +kernel
theorem d_X5_cell_26 : decode prog_1_method_36_code 26 = .ok (.aload_n 0, 1) := by decide +kernel
theorem d_X5_cell_27 : decode prog_1_method_36_code 27 = .ok (.getfield 44, 3) := by decide +kernel
theorem d_X5_cell_30 : decode prog_1_method_36_code 30 = .ok (.iload_n 1, 1) := by decide +kernel
theorem d_X5_cell_31 : decode prog_1_method_36_code 31 = .ok (.aaload, 1) := by decide +kernel
theorem d_X5_cell_32 : decode prog_1_method_36_code 32 = .ok (.iload_n 2, 1) := by decide +kernel
theorem d_X5_cell_33 : decode prog_1_method_36_code 33 = .ok (.invokevirtual 239, 3) := by decide +kernel
theorem d_X5_cell_36 : decode prog_1_method_36_code 36 = .ok (.ifCond .ne 6, 3) := by decide +kernel
theorem d_X5_cell_39 : decode prog_1_method_36_code 39 = .ok (.bipush (-12), 2) := by decide +kernel
theorem d_X5_cell_41 : decode prog_1_method_36_code 41 = .ok (.ireturn, 1) := by decide +kernel
theorem d_X5_cell_42 : decode prog_1_method_36_code 42 = .ok (.aload_n 0, 1) := by decide +kernel
theorem d_X5_cell_43 : decode prog_1_method_36_code 43 = .ok (.getfield 44, 3) := by decide +kernel
theorem d_X5_cell_46 : decode prog_1_method_36_code 46 = .ok (.iload_n 1, 1) := by decide +kernel
theorem d_X5_cell_47 : decode prog_1_method_36_code 47 = .ok (.aaload, 1) := by decide +kernel
theorem d_X5_cell_48 : decode prog_1_method_36_code 48 = .ok (.iload_n 2, 1) := by decide +kernel
theorem d_X5_cell_49 : decode prog_1_method_36_code 49 = .ok (.iload_n 3, 1) := by decide +kernel
theorem d_X5_cell_50 : decode prog_1_method_36_code 50 = .ok (.invokevirtual 225, 3) := by decide +kernel
theorem d_X5_cell_53 : decode prog_1_method_36_code 53 = .ok (.iconst 1, 1) := by decide +kernel
theorem d_X5_cell_54 : decode prog_1_method_36_code 54 = .ok (.ireturn, 1) := by decide +kernel
def f_X5_cell (κ : it_KK) (x1 : Int32) (x2 : Int32) (x3 : Int32) (S : it_SS) : Option (Int32 × it_SS) :=
it_bi (f_X5_isNoSheet κ x1 S) (fun r2 S1 =>
if r2 = 0 then
if it_bd x1 4 = true then
if (S1 (it_el 2 (x1 : Int32).toNatClampNeg) 0) = (-1) then
some ((-11), S1)
else
it_bi (f_X2_has κ (it_el 2 (x1 : Int32).toNatClampNeg) x2 S1) (fun r7 S6 =>
if r7 = 0 then
some ((-12), S6)
else
it_bi (f_X2_write κ (it_el 2 (x1 : Int32).toNatClampNeg) x2 x3 S6) (fun _ S9 =>
some (1, S9)))
else none
else
some ((-2), S1))
set_option maxHeartbeats 4000000 in
set_option maxRecDepth 100000 in
theorem L_X5_cell {g : it_G} {l : Launch} {κ : it_KK} {x1 : Int32} {x2 : Int32} {x3 : Int32} (hx : it_wx κ) {S : it_SS} {P : Int32 → it_SS → Prop} (h : it_ok (f_X5_cell κ x1 x2 x3 S) P) : it_Cn g l 3 it_m_X5_cell [.ref 0, .int x1, .int x2, .int x3] κ S (it_pi κ P) := by
  refine it_Cn.of (by decide +kernel) (Nat.le_of_ble_eq_true rfl) ?_
  rw [f_X5_cell] at h
  show it_Ev g l 3 it_m_X5_cell 0 0 0 [some (.ref 0), some (.int x1), some (.int x2), some (.int x3)] [] κ S (it_pi κ P)
  refine ev_iload_n d_X5_cell_0 rfl ?_
  refine ev_callS (M' := it_m_X5_isNoSheet) (d' := 2) (As := [.int x1]) d_X5_cell_1 ml_IcedTooSoon_219 rfl rfl (Nat.le_of_ble_eq_true rfl) (by decide) (by decide) (by decide) (L_X5_isNoSheet  (it_ok_b h)) (fun _ _ _ _ q => by cases q.1; rfl) ?_
  rintro _ _ S1 ⟨rfl, r2, rfl, h⟩
  show it_Ev g l 3 it_m_X5_cell 0 0 4 [some (.ref 0), some (.int x1), some (.int x2), some (.int x3)] [.int r2] κ S1 (it_pi κ P)
  refine ev_if_eq (tgt := 10) d_X5_cell_4 (by decide) (fun hc3 => ?_) (fun hc3 => ?_)
  · have h := it_ok_t h hc3
    refine ev_aload_n d_X5_cell_10 rfl ?_
    refine ev_getRr (r := 33) rfl d_X5_cell_11 fl_IcedTooSoon_44 hx.1 rfl ?_
    refine ev_iload_n d_X5_cell_14 rfl ?_
    obtain ⟨hb4, h⟩ := it_ok_g h
    refine ev_aald d_X5_cell_15 (hx).2.2.2.2.2.2.1 (it_bd_in hb4) ((hx).2.2.2.2.2.2.2.1 _ (it_bd_lt hb4)) ?_
    refine ev_getI d_X5_cell_16 fl_IcedTooSoon_236 ((hx).2.2.2.2.2.2.2.2 _ (it_bd_lt hb4)).1 rfl ?_
    refine ev_iconst d_X5_cell_19 kv_iconst_m1 ?_
    refine ev_icmp_ne (tgt := 26) d_X5_cell_20 (by decide) (fun hc5 => ?_) (fun hc5 => ?_)
    · have h := it_ok_f h hc5
      refine ev_aload_n d_X5_cell_26 rfl ?_
      refine ev_getRr (r := 33) rfl d_X5_cell_27 fl_IcedTooSoon_44 hx.1 rfl ?_
      refine ev_iload_n d_X5_cell_30 rfl ?_
      refine ev_aald d_X5_cell_31 (hx).2.2.2.2.2.2.1 (it_bd_in hb4) ((hx).2.2.2.2.2.2.2.1 _ (it_bd_lt hb4)) ?_
      refine ev_iload_n d_X5_cell_32 rfl ?_
      refine ev_callV (ci := 2) (b := (it_el 2 (x1 : Int32).toNatClampNeg)) (M' := it_m_X2_has) (d' := 1) (As := [.int x2]) d_X5_cell_33 ml_IcedTooSoon_239 ((hx).2.2.2.2.2.2.2.2 _ (it_bd_lt hb4)).1.1 ((hx).2.2.2.2.2.2.2.2 _ (it_bd_lt hb4)).1.2.1 ⟨_, rfl, rfl⟩ rfl rfl (Nat.le_of_ble_eq_true rfl) (by decide) (by decide) (by decide) (L_X2_has ((hx).2.2.2.2.2.2.2.2 _ (it_bd_lt hb4)) (it_ok_b h)) (fun _ _ _ _ q => by cases q.1; rfl) ?_
      rintro _ _ S6 ⟨rfl, r7, rfl, h⟩
      show it_Ev g l 3 it_m_X5_cell 0 0 36 [some (.ref 0), some (.int x1), some (.int x2), some (.int x3)] [.int r7] κ S6 (it_pi κ P)
      refine ev_if_ne (tgt := 42) d_X5_cell_36 (by decide) (fun hc8 => ?_) (fun hc8 => ?_)
      · have h := it_ok_f h hc8
        refine ev_aload_n d_X5_cell_42 rfl ?_
        refine ev_getRr (r := 33) rfl d_X5_cell_43 fl_IcedTooSoon_44 hx.1 rfl ?_
        refine ev_iload_n d_X5_cell_46 rfl ?_
        refine ev_aald d_X5_cell_47 (hx).2.2.2.2.2.2.1 (it_bd_in hb4) ((hx).2.2.2.2.2.2.2.1 _ (it_bd_lt hb4)) ?_
        refine ev_iload_n d_X5_cell_48 rfl ?_
        refine ev_iload_n d_X5_cell_49 rfl ?_
        refine ev_callV (ci := 2) (b := (it_el 2 (x1 : Int32).toNatClampNeg)) (M' := it_m_X2_write) (d' := 1) (As := [.int x2, .int x3]) d_X5_cell_50 ml_IcedTooSoon_225 ((hx).2.2.2.2.2.2.2.2 _ (it_bd_lt hb4)).1.1 ((hx).2.2.2.2.2.2.2.2 _ (it_bd_lt hb4)).1.2.1 ⟨_, rfl, rfl⟩ rfl rfl (Nat.le_of_ble_eq_true rfl) (by decide) (by decide) (by decide) (L_X2_write ((hx).2.2.2.2.2.2.2.2 _ (it_bd_lt hb4)) (it_ok_b h)) (fun _ _ _ _ q => by cases q.1; rfl) ?_
        rintro _ _ S9 ⟨rfl, rfl, h⟩
        show it_Ev g l 3 it_m_X5_cell 0 0 53 [some (.ref 0), some (.int x1), some (.int x2), some (.int x3)] [] κ S9 (it_pi κ P)
        refine ev_iconst d_X5_cell_53 kv_iconst_1 ?_
        exact ev_ret (v := some (.int _)) ⟨d_X5_cell_54, _, rfl, rfl⟩ (by decide) (by decide) ⟨rfl, _, rfl, it_ok_r h⟩
      · have h := it_ok_t h hc8
        refine ev_bipush d_X5_cell_39 kv_bipush_m12 ?_
        exact ev_ret (v := some (.int _)) ⟨d_X5_cell_41, _, rfl, rfl⟩ (by decide) (by decide) ⟨rfl, _, rfl, it_ok_r h⟩
    · have h := it_ok_t h hc5
      refine ev_bipush d_X5_cell_23 kv_bipush_m11 ?_
      exact ev_ret (v := some (.int _)) ⟨d_X5_cell_25, _, rfl, rfl⟩ (by decide) (by decide) ⟨rfl, _, rfl, it_ok_r h⟩
  · have h := it_ok_f h hc3
    refine ev_bipush d_X5_cell_7 kv_bipush_m2 ?_
    exact ev_ret (v := some (.int _)) ⟨d_X5_cell_9, _, rfl, rfl⟩ (by decide) (by decide) ⟨rfl, _, rfl, it_ok_r h⟩
theorem d_X5_copy_0 : decode prog_1_method_37_code 0 = .ok (.iload_n 1, 1) := by decide +kernel
theorem d_X5_copy_1 : decode prog_1_method_37_code 1 = .ok (.invokestatic 219, 3) := by decide +kernel
theorem d_X5_copy_4 : decode prog_1_method_37_code 4 = .ok (.ifCond .ne 10, 3) := by decide +kernel
theorem d_X5_copy_7 : decode prog_1_method_37_code 7 = .ok (.iload_n 3, 1) := by decide +kernel
theorem d_X5_copy_8 : decode prog_1_method_37_code 8 = .ok (.invokestatic 219, 3) := by decide +kernel
theorem d_X5_copy_11 : decode prog_1_method_37_code 11 = .ok (.ifCond .eq 6, 3) := by decide +kernel
theorem d_X5_copy_14 : decode prog_1_method_37_code 14 = .ok (.bipush (-2), 2) := by decide +kernel
theorem d_X5_copy_16 : decode prog_1_method_37_code 16 = .ok (.ireturn, 1) := by decide +kernel
theorem d_X5_copy_17 : decode prog_1_method_37_code 17 = .ok (.aload_n 0, 1) := by decide +kernel
theorem d_X5_copy_18 : decode prog_1_method_37_code 18 = .ok (.getfield 44, 3) := by decide +kernel
theorem d_X5_copy_21 : decode prog_1_method_37_code 21 = .ok (.iload_n 1, 1) := by decide +kernel
theorem d_X5_copy_22 : decode prog_1_method_37_code 22 = .ok (.aaload, 1) := by decide +kernel
theorem d_X5_copy_23 : decode prog_1_method_37_code 23 = .ok (.astore 6, 2) := by decide +kernel
theorem d_X5_copy_25 : decode prog_1_method_37_code 25 = .ok (.aload_n 0, 1) := by decide +kernel
theorem d_X5_copy_26 : decode prog_1_method_37_code 26 = .ok (.getfield 44, 3) := by decide +kernel
theorem d_X5_copy_29 : decode prog_1_method_37_code 29 = .ok (.iload_n 3, 1) := by decide +kernel
theorem d_X5_copy_30 : decode prog_1_method_37_code 30 = .ok (.aaload, 1) := by decide +kernel
theorem d_X5_copy_31 : decode prog_1_method_37_code 31 = .ok (.astore 7, 2) := by decide +kernel
theorem d_X5_copy_33 : decode prog_1_method_37_code 33 = .ok (.aload 6, 2) := by decide +kernel
theorem d_X5_copy_35 : decode prog_1_method_37_code 35 = .ok (.getfield 236, 3) := by decide +kernel
theorem d_X5_copy_38 : decode prog_1_method_37_code 38 = .ok (.iconst (-1), 1) := by decide +kernel
theorem d_X5_copy_39 : decode prog_1_method_37_code 39 = .ok (.if_icmp .eq 12, 3) := by decide +kernel
theorem d_X5_copy_42 : decode prog_1_method_37_code 42 = .ok (.aload 7, 2) := by decide +kernel
theorem d_X5_copy_44 : decode prog_1_method_37_code 44 = .ok (.getfield 236, 3) := by decide +kernel
theorem d_X5_copy_47 : decode prog_1_method_37_code 47 = .ok (.iconst (-1), 1) := by decide +kernel
theorem d_X5_copy_48 : decode prog_1_method_37_code 48 = .ok (.if_icmp .ne 6, 3) := by decide +kernel
theorem d_X5_copy_51 : decode prog_1_method_37_code 51 = .ok (.bipush (-11), 2) := by decide +kernel
theorem d_X5_copy_53 : decode prog_1_method_37_code 53 = .ok (.ireturn, 1) := by decide +kernel
theorem d_X5_copy_54 : decode prog_1_method_37_code 54 = .ok (.aload 6, 2) := by decide +kernel
theorem d_X5_copy_56 : decode prog_1_method_37_code 56 = .ok (.getfield 236, 3) := by decide +kernel
theorem d_X5_copy_59 : decode prog_1_method_37_code 59 = .ok (.aload 7, 2) := by decide +kernel
theorem d_X5_copy_61 : decode prog_1_method_37_code 61 = .ok (.getfield 236, 3) := by decide +kernel
theorem d_X5_copy_64 : decode prog_1_method_37_code 64 = .ok (.if_icmp .eq 6, 3) := by decide +kernel
theorem d_X5_copy_67 : decode prog_1_method_37_code 67 = .ok (.bipush (-13), 2) := by decide +kernel
theorem d_X5_copy_69 : decode prog_1_method_37_code 69 = .ok (.ireturn, 1) := by decide +kernel
theorem d_X5_copy_70 : decode prog_1_method_37_code 70 = .ok (.iload 5, 2) := by decide +kernel
theorem d_X5_copy_72 : decode prog_1_method_37_code 72 = .ok (.ifCond .lt 36, 3) := by decide +kernel
theorem d_X5_copy_75 : decode prog_1_method_37_code 75 = .ok (.iload_n 2, 1) := by decide +kernel
theorem d_X5_copy_76 : decode prog_1_method_37_code 76 = .ok (.iconst 0, 1) := by decide +kernel
theorem d_X5_copy_77 : decode prog_1_method_37_code 77 = .ok (.aload 6, 2) := by decide +kernel
theorem d_X5_copy_79 : decode prog_1_method_37_code 79 = .ok (.getfield 242, 3) := by decide +kernel
theorem d_X5_copy_82 : decode prog_1_method_37_code 82 = .ok (.iload 5, 2) := by decide +kernel
theorem d_X5_copy_84 : decode prog_1_method_37_code 84 = .ok (.isub, 1) := by decide +kernel
theorem d_X5_copy_85 : decode prog_1_method_37_code 85 = .ok (.invokestatic 96, 3) := by decide +kernel
theorem d_X5_copy_88 : decode prog_1_method_37_code 88 = .ok (.ifCond .ne 20, 3) := by decide +kernel
theorem d_X5_copy_91 : decode prog_1_method_37_code 91 = .ok (.iload 4, 2) := by decide +kernel
theorem d_X5_copy_93 : decode prog_1_method_37_code 93 = .ok (.iconst 0, 1) := by decide +kernel
theorem d_X5_copy_94 : decode prog_1_method_37_code 94 = .ok (.aload 7, 2) := by decide +kernel
theorem d_X5_copy_96 : decode prog_1_method_37_code 96 = .ok (.getfield 242, 3) := by decide +kernel
theorem d_X5_copy_99 : decode prog_1_method_37_code 99 = .ok (.iload 5, 2) := by decide +kernel
theorem d_X5_copy_101 : decode prog_1_method_37_code 101 = .ok (.isub, 1) := by decide +kernel
theorem d_X5_copy_102 : decode prog_1_method_37_code 102 = .ok (.invokestatic 96, 3) := by decide +kernel
theorem d_X5_copy_105 : decode prog_1_method_37_code 105 = .ok (.ifCond .eq 6, 3) := by decide +kernel
theorem d_X5_copy_108 : decode prog_1_method_37_code 108 = .ok (.bipush (-12), 2) := by decide +kernel
theorem d_X5_copy_110 : decode prog_1_method_37_code 110 = .ok (.ireturn, 1) := by decide +kernel
theorem d_X5_copy_111 : decode prog_1_method_37_code 111 = .ok (.aload 6, 2) := by decide +kernel
theorem d_X5_copy_113 : decode prog_1_method_37_code 113 = .ok (.getfield 243, 3) := by decide +kernel
theorem d_X5_copy_116 : decode prog_1_method_37_code 116 = .ok (.iload_n 2, 1) := by decide +kernel
theorem d_X5_copy_117 : decode prog_1_method_37_code 117 = .ok (.aload 7, 2) := by decide +kernel
theorem d_X5_copy_119 : decode prog_1_method_37_code 119 = .ok (.getfield 243, 3) := by decide +kernel
theorem d_X5_copy_122 : decode prog_1_method_37_code 122 = .ok (.iload 4, 2) := by decide +kernel
theorem d_X5_copy_124 : decode prog_1_method_37_code 124 = .ok (.iload 5, 2) := by decide +kernel
theorem d_X5_copy_126 : decode prog_1_method_37_code 126 = .ok (.invokestatic 246, 3) := by decide +kernel
theorem d_X5_copy_129 : decode prog_1_method_37_code 129 = .ok (.iload 5, 2) := by decide +kernel
theorem d_X5_copy_131 : decode prog_1_method_37_code 131 = .ok (.ireturn, 1) := by decide +kernel
def f_X5_copy (κ : it_KK) (x1 : Int32) (x2 : Int32) (x3 : Int32) (x4 : Int32) (x5 : Int32) (S : it_SS) : Option (Int32 × it_SS) :=
it_bi (f_X5_isNoSheet κ x1 S) (fun r2 S1 =>
if r2 = 0 then
it_bi (f_X5_isNoSheet κ x3 S1) (fun r5 S4 =>
if r5 = 0 then
if it_bd x1 4 = true then
if it_bd x3 4 = true then
if (S4 (it_el 2 (x1 : Int32).toNatClampNeg) 0) = (-1) then
some ((-11), S4)
else
if (S4 (it_el 2 (x3 : Int32).toNatClampNeg) 0) = (-1) then
some ((-11), S4)
else
if (S4 (it_el 2 (x1 : Int32).toNatClampNeg) 0) = (S4 (it_el 2 (x3 : Int32).toNatClampNeg) 0) then
if x5 < 0 then
some ((-12), S4)
else
it_bi (f_X5_isOutside κ x2 0 ((S4 (it_el 2 (x1 : Int32).toNatClampNeg) 1) - x5) S4) (fun r14 S13 =>
if r14 = 0 then
it_bi (f_X5_isOutside κ x4 0 ((S13 (it_el 2 (x3 : Int32).toNatClampNeg) 1) - x5) S13) (fun r17 S16 =>
if r17 = 0 then
if it_cg x2 x4 x5 40 40 = true then
some (x5, it_cpy S16 ((it_el 2 (x1 : Int32).toNatClampNeg) + 1) ((it_el 2 (x3 : Int32).toNatClampNeg) + 1) (x2 : Int32).toNatClampNeg (x4 : Int32).toNatClampNeg (x5 : Int32).toNatClampNeg)
else none
else
some ((-12), S16))
else
some ((-12), S13))
else
some ((-13), S4)
else none
else none
else
some ((-2), S4))
else
some ((-2), S1))
set_option maxHeartbeats 4000000 in
set_option maxRecDepth 100000 in
theorem L_X5_copy {g : it_G} {l : Launch} {κ : it_KK} {x1 : Int32} {x2 : Int32} {x3 : Int32} {x4 : Int32} {x5 : Int32} (hx : it_wx κ) {S : it_SS} {P : Int32 → it_SS → Prop} (h : it_ok (f_X5_copy κ x1 x2 x3 x4 x5 S) P) : it_Cn g l 3 it_m_X5_copy [.ref 0, .int x1, .int x2, .int x3, .int x4, .int x5] κ S (it_pi κ P) := by
  refine it_Cn.of (by decide +kernel) (Nat.le_of_ble_eq_true rfl) ?_
  rw [f_X5_copy] at h
  show it_Ev g l 3 it_m_X5_copy 0 0 0 [some (.ref 0), some (.int x1), some (.int x2), some (.int x3), some (.int x4), some (.int x5), none, none] [] κ S (it_pi κ P)
  refine ev_iload_n d_X5_copy_0 rfl ?_
  refine ev_callS (M' := it_m_X5_isNoSheet) (d' := 2) (As := [.int x1]) d_X5_copy_1 ml_IcedTooSoon_219 rfl rfl (Nat.le_of_ble_eq_true rfl) (by decide) (by decide) (by decide) (L_X5_isNoSheet  (it_ok_b h)) (fun _ _ _ _ q => by cases q.1; rfl) ?_
  rintro _ _ S1 ⟨rfl, r2, rfl, h⟩
  show it_Ev g l 3 it_m_X5_copy 0 0 4 [some (.ref 0), some (.int x1), some (.int x2), some (.int x3), some (.int x4), some (.int x5), none, none] [.int r2] κ S1 (it_pi κ P)
  refine ev_if_ne (tgt := 14) d_X5_copy_4 (by decide) (fun hc3 => ?_) (fun hc3 => ?_)
  · have h := it_ok_f h hc3
    refine ev_bipush d_X5_copy_14 kv_bipush_m2 ?_
    exact ev_ret (v := some (.int _)) ⟨d_X5_copy_16, _, rfl, rfl⟩ (by decide) (by decide) ⟨rfl, _, rfl, it_ok_r h⟩
  · have h := it_ok_t h hc3
    refine ev_iload_n d_X5_copy_7 rfl ?_
    refine ev_callS (M' := it_m_X5_isNoSheet) (d' := 2) (As := [.int x3]) d_X5_copy_8 ml_IcedTooSoon_219 rfl rfl (Nat.le_of_ble_eq_true rfl) (by decide) (by decide) (by decide) (L_X5_isNoSheet  (it_ok_b h)) (fun _ _ _ _ q => by cases q.1; rfl) ?_
    rintro _ _ S4 ⟨rfl, r5, rfl, h⟩
    show it_Ev g l 3 it_m_X5_copy 0 0 11 [some (.ref 0), some (.int x1), some (.int x2), some (.int x3), some (.int x4), some (.int x5), none, none] [.int r5] κ S4 (it_pi κ P)
    refine ev_if_eq (tgt := 17) d_X5_copy_11 (by decide) (fun hc6 => ?_) (fun hc6 => ?_)
    · have h := it_ok_t h hc6
      refine ev_aload_n d_X5_copy_17 rfl ?_
      refine ev_getRr (r := 33) rfl d_X5_copy_18 fl_IcedTooSoon_44 hx.1 rfl ?_
      refine ev_iload_n d_X5_copy_21 rfl ?_
      obtain ⟨hb7, h⟩ := it_ok_g h
      refine ev_aald d_X5_copy_22 (hx).2.2.2.2.2.2.1 (it_bd_in hb7) ((hx).2.2.2.2.2.2.2.1 _ (it_bd_lt hb7)) ?_
      refine ev_astore d_X5_copy_23 (by decide) ?_
      show it_Ev g l 3 it_m_X5_copy 0 0 25 [some (.ref 0), some (.int x1), some (.int x2), some (.int x3), some (.int x4), some (.int x5), some (.ref (it_el 2 (x1 : Int32).toNatClampNeg)), none] [] κ S4 (it_pi κ P)
      refine ev_aload_n d_X5_copy_25 rfl ?_
      refine ev_getRr (r := 33) rfl d_X5_copy_26 fl_IcedTooSoon_44 hx.1 rfl ?_
      refine ev_iload_n d_X5_copy_29 rfl ?_
      obtain ⟨hb8, h⟩ := it_ok_g h
      refine ev_aald d_X5_copy_30 (hx).2.2.2.2.2.2.1 (it_bd_in hb8) ((hx).2.2.2.2.2.2.2.1 _ (it_bd_lt hb8)) ?_
      refine ev_astore d_X5_copy_31 (by decide) ?_
      show it_Ev g l 3 it_m_X5_copy 0 0 33 [some (.ref 0), some (.int x1), some (.int x2), some (.int x3), some (.int x4), some (.int x5), some (.ref (it_el 2 (x1 : Int32).toNatClampNeg)), some (.ref (it_el 2 (x3 : Int32).toNatClampNeg))] [] κ S4 (it_pi κ P)
      refine ev_aload d_X5_copy_33 rfl ?_
      refine ev_getI d_X5_copy_35 fl_IcedTooSoon_236 ((hx).2.2.2.2.2.2.2.2 _ (it_bd_lt hb7)).1 rfl ?_
      refine ev_iconst d_X5_copy_38 kv_iconst_m1 ?_
      refine ev_icmp_eq (tgt := 51) d_X5_copy_39 (by decide) (fun hc9 => ?_) (fun hc9 => ?_)
      · have h := it_ok_t h hc9
        refine ev_bipush d_X5_copy_51 kv_bipush_m11 ?_
        exact ev_ret (v := some (.int _)) ⟨d_X5_copy_53, _, rfl, rfl⟩ (by decide) (by decide) ⟨rfl, _, rfl, it_ok_r h⟩
      · have h := it_ok_f h hc9
        refine ev_aload d_X5_copy_42 rfl ?_
        refine ev_getI d_X5_copy_44 fl_IcedTooSoon_236 ((hx).2.2.2.2.2.2.2.2 _ (it_bd_lt hb8)).1 rfl ?_
        refine ev_iconst d_X5_copy_47 kv_iconst_m1 ?_
        refine ev_icmp_ne (tgt := 54) d_X5_copy_48 (by decide) (fun hc10 => ?_) (fun hc10 => ?_)
        · have h := it_ok_f h hc10
          refine ev_aload d_X5_copy_54 rfl ?_
          refine ev_getI d_X5_copy_56 fl_IcedTooSoon_236 ((hx).2.2.2.2.2.2.2.2 _ (it_bd_lt hb7)).1 rfl ?_
          refine ev_aload d_X5_copy_59 rfl ?_
          refine ev_getI d_X5_copy_61 fl_IcedTooSoon_236 ((hx).2.2.2.2.2.2.2.2 _ (it_bd_lt hb8)).1 rfl ?_
          refine ev_icmp_eq (tgt := 70) d_X5_copy_64 (by decide) (fun hc11 => ?_) (fun hc11 => ?_)
          · have h := it_ok_t h hc11
            refine ev_iload d_X5_copy_70 rfl ?_
            refine ev_if_lt (tgt := 108) d_X5_copy_72 (by decide) (fun hc12 => ?_) (fun hc12 => ?_)
            · have h := it_ok_t h hc12
              refine ev_bipush d_X5_copy_108 kv_bipush_m12 ?_
              exact ev_ret (v := some (.int _)) ⟨d_X5_copy_110, _, rfl, rfl⟩ (by decide) (by decide) ⟨rfl, _, rfl, it_ok_r h⟩
            · have h := it_ok_f h hc12
              refine ev_iload_n d_X5_copy_75 rfl ?_
              refine ev_iconst d_X5_copy_76 kv_iconst_0 ?_
              refine ev_aload d_X5_copy_77 rfl ?_
              refine ev_getI d_X5_copy_79 fl_IcedTooSoon_242 ((hx).2.2.2.2.2.2.2.2 _ (it_bd_lt hb7)).1 rfl ?_
              refine ev_iload d_X5_copy_82 rfl ?_
              refine ev_isub d_X5_copy_84 ?_
              refine ev_callS (M' := it_m_X5_isOutside) (d' := 1) (As := [.int x2, .int 0, .int ((S4 (it_el 2 (x1 : Int32).toNatClampNeg) 1) - x5)]) d_X5_copy_85 ml_IcedTooSoon_96 rfl rfl (Nat.le_of_ble_eq_true rfl) (by decide) (by decide) (by decide) (L_X5_isOutside  (it_ok_b h)) (fun _ _ _ _ q => by cases q.1; rfl) ?_
              rintro _ _ S13 ⟨rfl, r14, rfl, h⟩
              show it_Ev g l 3 it_m_X5_copy 0 0 88 [some (.ref 0), some (.int x1), some (.int x2), some (.int x3), some (.int x4), some (.int x5), some (.ref (it_el 2 (x1 : Int32).toNatClampNeg)), some (.ref (it_el 2 (x3 : Int32).toNatClampNeg))] [.int r14] κ S13 (it_pi κ P)
              refine ev_if_ne (tgt := 108) d_X5_copy_88 (by decide) (fun hc15 => ?_) (fun hc15 => ?_)
              · have h := it_ok_f h hc15
                refine ev_bipush d_X5_copy_108 kv_bipush_m12 ?_
                exact ev_ret (v := some (.int _)) ⟨d_X5_copy_110, _, rfl, rfl⟩ (by decide) (by decide) ⟨rfl, _, rfl, it_ok_r h⟩
              · have h := it_ok_t h hc15
                refine ev_iload d_X5_copy_91 rfl ?_
                refine ev_iconst d_X5_copy_93 kv_iconst_0 ?_
                refine ev_aload d_X5_copy_94 rfl ?_
                refine ev_getI d_X5_copy_96 fl_IcedTooSoon_242 ((hx).2.2.2.2.2.2.2.2 _ (it_bd_lt hb8)).1 rfl ?_
                refine ev_iload d_X5_copy_99 rfl ?_
                refine ev_isub d_X5_copy_101 ?_
                refine ev_callS (M' := it_m_X5_isOutside) (d' := 1) (As := [.int x4, .int 0, .int ((S13 (it_el 2 (x3 : Int32).toNatClampNeg) 1) - x5)]) d_X5_copy_102 ml_IcedTooSoon_96 rfl rfl (Nat.le_of_ble_eq_true rfl) (by decide) (by decide) (by decide) (L_X5_isOutside  (it_ok_b h)) (fun _ _ _ _ q => by cases q.1; rfl) ?_
                rintro _ _ S16 ⟨rfl, r17, rfl, h⟩
                show it_Ev g l 3 it_m_X5_copy 0 0 105 [some (.ref 0), some (.int x1), some (.int x2), some (.int x3), some (.int x4), some (.int x5), some (.ref (it_el 2 (x1 : Int32).toNatClampNeg)), some (.ref (it_el 2 (x3 : Int32).toNatClampNeg))] [.int r17] κ S16 (it_pi κ P)
                refine ev_if_eq (tgt := 111) d_X5_copy_105 (by decide) (fun hc18 => ?_) (fun hc18 => ?_)
                · have h := it_ok_t h hc18
                  refine ev_aload d_X5_copy_111 rfl ?_
                  refine ev_getRr (r := ((it_el 2 (x1 : Int32).toNatClampNeg) + 1)) rfl d_X5_copy_113 fl_IcedTooSoon_243 ((hx).2.2.2.2.2.2.2.2 _ (it_bd_lt hb7)).1 rfl ?_
                  refine ev_iload_n d_X5_copy_116 rfl ?_
                  refine ev_aload d_X5_copy_117 rfl ?_
                  refine ev_getRr (r := ((it_el 2 (x3 : Int32).toNatClampNeg) + 1)) rfl d_X5_copy_119 fl_IcedTooSoon_243 ((hx).2.2.2.2.2.2.2.2 _ (it_bd_lt hb8)).1 rfl ?_
                  refine ev_iload d_X5_copy_122 rfl ?_
                  refine ev_iload d_X5_copy_124 rfl ?_
                  obtain ⟨hb19, h⟩ := it_ok_g h
                  refine ev_copy d_X5_copy_126 (by decide) (by decide) (Nat.le_of_ble_eq_true rfl) ⟨it_in_tb (List.mem_of_getElem? (i := 790) (by decide +kernel)) rfl, it_in_tb (List.mem_of_getElem? (i := 399) (by decide +kernel)) rfl, it_in_tb (List.mem_of_getElem? (i := 398) (by decide +kernel)) rfl, it_in_tb (List.mem_of_getElem? (i := 67) (by decide +kernel)) rfl⟩ ((hx).2.2.2.2.2.2.2.2 _ (it_bd_lt hb7)).2 ((hx).2.2.2.2.2.2.2.2 _ (it_bd_lt hb8)).2 (it_cg_1 hb19) (it_cg_2 hb19) (it_cg_3 hb19) (it_cg_4 hb19) (it_cg_5 hb19) ?_
                  refine ev_iload d_X5_copy_129 rfl ?_
                  exact ev_ret (v := some (.int _)) ⟨d_X5_copy_131, _, rfl, rfl⟩ (by decide) (by decide) ⟨rfl, _, rfl, it_ok_r h⟩
                · have h := it_ok_f h hc18
                  refine ev_bipush d_X5_copy_108 kv_bipush_m12 ?_
                  exact ev_ret (v := some (.int _)) ⟨d_X5_copy_110, _, rfl, rfl⟩ (by decide) (by decide) ⟨rfl, _, rfl, it_ok_r h⟩
          · have h := it_ok_f h hc11
            refine ev_bipush d_X5_copy_67 kv_bipush_m13 ?_
            exact ev_ret (v := some (.int _)) ⟨d_X5_copy_69, _, rfl, rfl⟩ (by decide) (by decide) ⟨rfl, _, rfl, it_ok_r h⟩
        · have h := it_ok_t h hc10
          refine ev_bipush d_X5_copy_51 kv_bipush_m11 ?_
          exact ev_ret (v := some (.int _)) ⟨d_X5_copy_53, _, rfl, rfl⟩ (by decide) (by decide) ⟨rfl, _, rfl, it_ok_r h⟩
    · have h := it_ok_f h hc6
      refine ev_bipush d_X5_copy_14 kv_bipush_m2 ?_
      exact ev_ret (v := some (.int _)) ⟨d_X5_copy_16, _, rfl, rfl⟩ (by decide) (by decide) ⟨rfl, _, rfl, it_ok_r h⟩
theorem d_X5_guestsBy_0 : decode prog_1_method_38_code 0 = .ok (.iload_n 1, 1) := by decide +kernel
theorem d_X5_guestsBy_1 : decode prog_1_method_38_code 1 = .ok (.invokestatic 219, 3) := by decide +kernel
theorem d_X5_guestsBy_4 : decode prog_1_method_38_code 4 = .ok (.ifCond .ne 23, 3) := by decide +kernel
theorem d_X5_guestsBy_7 : decode prog_1_method_38_code 7 = .ok (.iload_n 2, 1) := by decide +kernel
theorem d_X5_guestsBy_8 : decode prog_1_method_38_code 8 = .ok (.iconst 0, 1) := by decide +kernel
theorem d_X5_guestsBy_9 : decode prog_1_method_38_code 9 = .ok (.iconst 2, 1) := by decide +kernel
theorem d_X5_guestsBy_10 : decode prog_1_method_38_code 10 = .ok (.invokestatic 96, 3) := by decide +kernel
theorem d_X5_guestsBy_13 : decode prog_1_method_38_code 13 = .ok (.ifCond .ne 14, 3) := by decide +kernel
theorem d_X5_guestsBy_16 : decode prog_1_method_38_code 16 = .ok (.iload 4, 2) := by decide +kernel
theorem d_X5_guestsBy_18 : decode prog_1_method_38_code 18 = .ok (.iconst 0, 1) := by decide +kernel
theorem d_X5_guestsBy_19 : decode prog_1_method_38_code 19 = .ok (.bipush 6, 2) := by decide +kernel
theorem d_X5_guestsBy_21 : decode prog_1_method_38_code 21 = .ok (.invokestatic 96, 3) := by decide +kernel
theorem d_X5_guestsBy_24 : decode prog_1_method_38_code 24 = .ok (.ifCond .eq 6, 3) := by decide +kernel
theorem d_X5_guestsBy_27 : decode prog_1_method_38_code 27 = .ok (.bipush (-2), 2) := by decide +kernel
theorem d_X5_guestsBy_29 : decode prog_1_method_38_code 29 = .ok (.ireturn, 1) := by decide +kernel
theorem d_X5_guestsBy_30 : decode prog_1_method_38_code 30 = .ok (.aload_n 0, 1) := by decide +kernel
theorem d_X5_guestsBy_31 : decode prog_1_method_38_code 31 = .ok (.getfield 44, 3) := by decide +kernel
theorem d_X5_guestsBy_34 : decode prog_1_method_38_code 34 = .ok (.iload_n 1, 1) := by decide +kernel
theorem d_X5_guestsBy_35 : decode prog_1_method_38_code 35 = .ok (.aaload, 1) := by decide +kernel
theorem d_X5_guestsBy_36 : decode prog_1_method_38_code 36 = .ok (.astore 5, 2) := by decide +kernel
theorem d_X5_guestsBy_38 : decode prog_1_method_38_code 38 = .ok (.aload 5, 2) := by decide +kernel
theorem d_X5_guestsBy_40 : decode prog_1_method_38_code 40 = .ok (.getfield 236, 3) := by decide +kernel
theorem d_X5_guestsBy_43 : decode prog_1_method_38_code 43 = .ok (.iconst (-1), 1) := by decide +kernel
theorem d_X5_guestsBy_44 : decode prog_1_method_38_code 44 = .ok (.if_icmp .ne 6, 3) := by decide +kernel
theorem d_X5_guestsBy_47 : decode prog_1_method_38_code 47 = .ok (.bipush (-11), 2) := by decide +kernel
theorem d_X5_guestsBy_49 : decode prog_1_method_38_code 49 = .ok (.ireturn, 1) := by decide +kernel
theorem d_X5_guestsBy_50 : decode prog_1_method_38_code 50 = .ok (.aload 5, 2) := by decide +kernel
theorem d_X5_guestsBy_52 : decode prog_1_method_38_code 52 = .ok (.getfield 236, 3) := by decide +kernel
theorem d_X5_guestsBy_55 : decode prog_1_method_38_code 55 = .ok (.iload_n 2, 1) := by decide +kernel
theorem d_X5_guestsBy_56 : decode prog_1_method_38_code 56 = .ok (.if_icmp .eq 6, 3) := by decide +kernel
theorem d_X5_guestsBy_59 : decode prog_1_method_38_code 59 = .ok (.bipush (-13), 2) := by decide +kernel
theorem d_X5_guestsBy_61 : decode prog_1_method_38_code 61 = .ok (.ireturn, 1) := by decide +kernel
theorem d_X5_guestsBy_62 : decode prog_1_method_38_code 62 = .ok (.iconst 0, 1) := by decide +kernel
theorem d_X5_guestsBy_63 : decode prog_1_method_38_code 63 = .ok (.istore 6, 2) := by decide +kernel
theorem d_X5_guestsBy_65 : decode prog_1_method_38_code 65 = .ok (.iload_n 3, 1) := by decide +kernel
theorem d_X5_guestsBy_66 : decode prog_1_method_38_code 66 = .ok (.istore 7, 2) := by decide +kernel
theorem d_X5_guestsBy_68 : decode prog_1_method_38_code 68 = .ok (.iconst 0, 1) := by decide +kernel
theorem d_X5_guestsBy_69 : decode prog_1_method_38_code 69 = .ok (.istore 8, 2) := by decide +kernel
theorem d_X5_guestsBy_71 : decode prog_1_method_38_code 71 = .ok (.iload 8, 2) := by decide +kernel
theorem d_X5_guestsBy_73 : decode prog_1_method_38_code 73 = .ok (.iload 4, 2) := by decide +kernel
theorem d_X5_guestsBy_75 : decode prog_1_method_38_code 75 = .ok (.if_icmp .ge 68, 3) := by decide +kernel
theorem d_X5_guestsBy_78 : decode prog_1_method_38_code 78 = .ok (.aload 5, 2) := by decide +kernel
theorem d_X5_guestsBy_80 : decode prog_1_method_38_code 80 = .ok (.iload 7, 2) := by decide +kernel
theorem d_X5_guestsBy_82 : decode prog_1_method_38_code 82 = .ok (.invokevirtual 239, 3) := by decide +kernel
theorem d_X5_guestsBy_85 : decode prog_1_method_38_code 85 = .ok (.ifCond .eq 15, 3) := by decide +kernel
theorem d_X5_guestsBy_88 : decode prog_1_method_38_code 88 = .ok (.aload 5, 2) := by decide +kernel
theorem d_X5_guestsBy_90 : decode prog_1_method_38_code 90 = .ok (.iload 7, 2) := by decide +kernel
theorem d_X5_guestsBy_92 : decode prog_1_method_38_code 92 = .ok (.iconst 1, 1) := by decide +kernel
theorem d_X5_guestsBy_93 : decode prog_1_method_38_code 93 = .ok (.iadd, 1) := by decide +kernel
theorem d_X5_guestsBy_94 : decode prog_1_method_38_code 94 = .ok (.invokevirtual 239, 3) := by decide +kernel
theorem d_X5_guestsBy_97 : decode prog_1_method_38_code 97 = .ok (.ifCond .ne 6, 3) := by decide +kernel
theorem d_X5_guestsBy_100 : decode prog_1_method_38_code 100 = .ok (.bipush (-12), 2) := by decide +kernel
theorem d_X5_guestsBy_102 : decode prog_1_method_38_code 102 = .ok (.ireturn, 1) := by decide +kernel
theorem d_X5_guestsBy_103 : decode prog_1_method_38_code 103 = .ok (.aload_n 0, 1) := by decide +kernel
theorem d_X5_guestsBy_104 : decode prog_1_method_38_code 104 = .ok (.getfield 28, 3) := by decide +kernel
theorem d_X5_guestsBy_107 : decode prog_1_method_38_code 107 = .ok (.aload 5, 2) := by decide +kernel
theorem d_X5_guestsBy_109 : decode prog_1_method_38_code 109 = .ok (.getfield 243, 3) := by decide +kernel
theorem d_X5_guestsBy_112 : decode prog_1_method_38_code 112 = .ok (.iload 7, 2) := by decide +kernel
theorem d_X5_guestsBy_114 : decode prog_1_method_38_code 114 = .ok (.iaload, 1) := by decide +kernel
theorem d_X5_guestsBy_115 : decode prog_1_method_38_code 115 = .ok (.aload 5, 2) := by decide +kernel
theorem d_X5_guestsBy_117 : decode prog_1_method_38_code 117 = .ok (.getfield 243, 3) := by decide +kernel
theorem d_X5_guestsBy_120 : decode prog_1_method_38_code 120 = .ok (.iload 7, 2) := by decide +kernel
theorem d_X5_guestsBy_122 : decode prog_1_method_38_code 122 = .ok (.iconst 1, 1) := by decide +kernel
theorem d_X5_guestsBy_123 : decode prog_1_method_38_code 123 = .ok (.iadd, 1) := by decide +kernel
theorem d_X5_guestsBy_124 : decode prog_1_method_38_code 124 = .ok (.iaload, 1) := by decide +kernel
theorem d_X5_guestsBy_125 : decode prog_1_method_38_code 125 = .ok (.invokevirtual 114, 3) := by decide +kernel
theorem d_X5_guestsBy_128 : decode prog_1_method_38_code 128 = .ok (.ifCond .lt 6, 3) := by decide +kernel
theorem d_X5_guestsBy_131 : decode prog_1_method_38_code 131 = .ok (.iinc 6 1, 3) := by decide +kernel
theorem d_X5_guestsBy_134 : decode prog_1_method_38_code 134 = .ok (.iinc 7 2, 3) := by decide +kernel
theorem d_X5_guestsBy_137 : decode prog_1_method_38_code 137 = .ok (.iinc 8 1, 3) := by decide +kernel
theorem d_X5_guestsBy_140 : decode prog_1_method_38_code 140 = .ok (.goto (-69), 3) := by decide +kernel
theorem d_X5_guestsBy_143 : decode prog_1_method_38_code 143 = .ok (.iload 6, 2) := by decide +kernel
theorem d_X5_guestsBy_145 : decode prog_1_method_38_code 145 = .ok (.ireturn, 1) := by decide +kernel
def lp_X5_guestsBy_71 (κ : it_KK) (x1 : Int32) (x2 : Int32) (x3 : Int32) (x4 : Int32) (k71 : (Int32 → it_SS → Option (Int32 × it_SS))) : Nat → Int32 → Int32 → Int32 → it_SS → Option (Int32 × it_SS)
  | 0, _, _, _, _ => none
  | n71 + 1, v6, v7, v8, S => if x4 ≤ v8 then
k71 v6 S
else
it_bi (f_X2_has κ (it_el 2 (x1 : Int32).toNatClampNeg) v7 S) (fun r15 S14 =>
if r15 = 0 then
some ((-12), S14)
else
it_bi (f_X2_has κ (it_el 2 (x1 : Int32).toNatClampNeg) (v7 + 1) S14) (fun r18 S17 =>
if r18 = 0 then
some ((-12), S17)
else
if it_bd v7 40 = true then
if it_bd (v7 + 1) 40 = true then
it_bi (f_X0_admit κ 9 (S17 ((it_el 2 (x1 : Int32).toNatClampNeg) + 1) (v7 : Int32).toNatClampNeg) (S17 ((it_el 2 (x1 : Int32).toNatClampNeg) + 1) ((v7 + 1) : Int32).toNatClampNeg) S17) (fun r23 S22 =>
if r23 < 0 then
lp_X5_guestsBy_71 κ x1 x2 x3 x4 k71 n71 v6 (v7 + 2) (v8 + 1) S22
else
lp_X5_guestsBy_71 κ x1 x2 x3 x4 k71 n71 (v6 + 1) (v7 + 2) (v8 + 1) S22)
else none
else none))
def f_X5_guestsBy (κ : it_KK) (x1 : Int32) (x2 : Int32) (x3 : Int32) (x4 : Int32) (S : it_SS) : Option (Int32 × it_SS) :=
it_bi (f_X5_isNoSheet κ x1 S) (fun r2 S1 =>
if r2 = 0 then
it_bi (f_X5_isOutside κ x2 0 2 S1) (fun r5 S4 =>
if r5 = 0 then
it_bi (f_X5_isOutside κ x4 0 6 S4) (fun r8 S7 =>
if r8 = 0 then
if it_bd x1 4 = true then
if (S7 (it_el 2 (x1 : Int32).toNatClampNeg) 0) = (-1) then
some ((-11), S7)
else
if (S7 (it_el 2 (x1 : Int32).toNatClampNeg) 0) = x2 then
lp_X5_guestsBy_71 κ x1 x2 x3 x4 (fun v25 S26 =>
some (v25, S26)) it_FU 0 x3 0 S7
else
some ((-13), S7)
else none
else
some ((-2), S7))
else
some ((-2), S4))
else
some ((-2), S1))
set_option maxHeartbeats 4000000 in
set_option maxRecDepth 100000 in
theorem Llp_X5_guestsBy_71 {g : it_G} {l : Launch} {κ : it_KK} {x1 : Int32} {x2 : Int32} {x3 : Int32} {x4 : Int32} (hx : it_wx κ) (q5 : it_sh κ (it_el 2 (x1 : Int32).toNatClampNeg)) (hb10 : it_bd x1 4 = true) {P : Int32 → it_SS → Prop} {k71 : (Int32 → it_SS → Option (Int32 × it_SS))} (hk71 : ∀ (v6 : Int32) (S : it_SS), it_ok (k71 v6 S) P → it_Ev g l 3 it_m_X5_guestsBy 0 0 143 [none, none, none, none, none, none, some (.int v6), none, none] [] κ S (it_pi κ P)) : ∀ (n : Nat) (v6 : Int32) (v7 : Int32) (v8 : Int32) (S : it_SS), it_ok (lp_X5_guestsBy_71 κ x1 x2 x3 x4 k71 n v6 v7 v8 S) P → it_Ev g l 3 it_m_X5_guestsBy 0 0 71 [some (.ref 0), none, none, none, some (.int x4), some (.ref (it_el 2 (x1 : Int32).toNatClampNeg)), some (.int v6), some (.int v7), some (.int v8)] [] κ S (it_pi κ P) := by
  intro n
  induction n with
  | zero =>
    intro _ _ _ _ h
    exact (it_ok_n h).elim
  | succ n71 ih71 =>
    intro v6 v7 v8 S h
    rw [lp_X5_guestsBy_71] at h
    refine ev_iload d_X5_guestsBy_71 rfl ?_
    refine ev_iload d_X5_guestsBy_73 rfl ?_
    refine ev_icmp_ge (tgt := 143) d_X5_guestsBy_75 (by decide) (fun hc13 => ?_) (fun hc13 => ?_)
    · have h := it_ok_t h hc13
      refine ev_keep [false, false, false, false, false, false, true, false, false] ?_
      exact hk71 _ _ h
    · have h := it_ok_f h hc13
      refine ev_aload d_X5_guestsBy_78 rfl ?_
      refine ev_iload d_X5_guestsBy_80 rfl ?_
      refine ev_callV (ci := 2) (b := (it_el 2 (x1 : Int32).toNatClampNeg)) (M' := it_m_X2_has) (d' := 1) (As := [.int v7]) d_X5_guestsBy_82 ml_IcedTooSoon_239 (q5).1.1 (q5).1.2.1 ⟨_, rfl, rfl⟩ rfl rfl (Nat.le_of_ble_eq_true rfl) (by decide) (by decide) (by decide) (L_X2_has (q5) (it_ok_b h)) (fun _ _ _ _ q => by cases q.1; rfl) ?_
      rintro _ _ S14 ⟨rfl, r15, rfl, h⟩
      show it_Ev g l 3 it_m_X5_guestsBy 0 0 85 [some (.ref 0), none, none, none, some (.int x4), some (.ref (it_el 2 (x1 : Int32).toNatClampNeg)), some (.int v6), some (.int v7), some (.int v8)] [.int r15] κ S14 (it_pi κ P)
      refine ev_if_eq (tgt := 100) d_X5_guestsBy_85 (by decide) (fun hc16 => ?_) (fun hc16 => ?_)
      · have h := it_ok_t h hc16
        refine ev_bipush d_X5_guestsBy_100 kv_bipush_m12 ?_
        exact ev_ret (v := some (.int _)) ⟨d_X5_guestsBy_102, _, rfl, rfl⟩ (by decide) (by decide) ⟨rfl, _, rfl, it_ok_r h⟩
      · have h := it_ok_f h hc16
        refine ev_aload d_X5_guestsBy_88 rfl ?_
        refine ev_iload d_X5_guestsBy_90 rfl ?_
        refine ev_iconst d_X5_guestsBy_92 kv_iconst_1 ?_
        refine ev_iadd d_X5_guestsBy_93 ?_
        refine ev_callV (ci := 2) (b := (it_el 2 (x1 : Int32).toNatClampNeg)) (M' := it_m_X2_has) (d' := 1) (As := [.int (v7 + 1)]) d_X5_guestsBy_94 ml_IcedTooSoon_239 (q5).1.1 (q5).1.2.1 ⟨_, rfl, rfl⟩ rfl rfl (Nat.le_of_ble_eq_true rfl) (by decide) (by decide) (by decide) (L_X2_has (q5) (it_ok_b h)) (fun _ _ _ _ q => by cases q.1; rfl) ?_
        rintro _ _ S17 ⟨rfl, r18, rfl, h⟩
        show it_Ev g l 3 it_m_X5_guestsBy 0 0 97 [some (.ref 0), none, none, none, some (.int x4), some (.ref (it_el 2 (x1 : Int32).toNatClampNeg)), some (.int v6), some (.int v7), some (.int v8)] [.int r18] κ S17 (it_pi κ P)
        refine ev_if_ne (tgt := 103) d_X5_guestsBy_97 (by decide) (fun hc19 => ?_) (fun hc19 => ?_)
        · have h := it_ok_f h hc19
          refine ev_aload_n d_X5_guestsBy_103 rfl ?_
          refine ev_getRr (r := 9) rfl d_X5_guestsBy_104 fl_IcedTooSoon_28 hx.1 rfl ?_
          refine ev_aload d_X5_guestsBy_107 rfl ?_
          refine ev_getRr (r := ((it_el 2 (x1 : Int32).toNatClampNeg) + 1)) rfl d_X5_guestsBy_109 fl_IcedTooSoon_243 (q5).1 rfl ?_
          refine ev_iload d_X5_guestsBy_112 rfl ?_
          obtain ⟨hb20, h⟩ := it_ok_g h
          refine ev_iald d_X5_guestsBy_114 (q5).2 (it_bd_in hb20) ?_
          refine ev_aload d_X5_guestsBy_115 rfl ?_
          refine ev_getRr (r := ((it_el 2 (x1 : Int32).toNatClampNeg) + 1)) rfl d_X5_guestsBy_117 fl_IcedTooSoon_243 (q5).1 rfl ?_
          refine ev_iload d_X5_guestsBy_120 rfl ?_
          refine ev_iconst d_X5_guestsBy_122 kv_iconst_1 ?_
          refine ev_iadd d_X5_guestsBy_123 ?_
          obtain ⟨hb21, h⟩ := it_ok_g h
          refine ev_iald d_X5_guestsBy_124 (q5).2 (it_bd_in hb21) ?_
          refine ev_callV (ci := 0) (b := 9) (M' := it_m_X0_admit) (d' := 2) (As := [.int (S17 ((it_el 2 (x1 : Int32).toNatClampNeg) + 1) (v7 : Int32).toNatClampNeg), .int (S17 ((it_el 2 (x1 : Int32).toNatClampNeg) + 1) ((v7 + 1) : Int32).toNatClampNeg)]) d_X5_guestsBy_125 ml_IcedTooSoon_114 ((hx).2.2.2.1).1.1 ((hx).2.2.2.1).1.2.1 ⟨_, rfl, rfl⟩ rfl rfl (Nat.le_of_ble_eq_true rfl) (by decide) (by decide) (by decide) (L_X0_admit (hx.2.1) (hx).2.2.2.1 (it_ok_b h)) (fun _ _ _ _ q => by cases q.1; rfl) ?_
          rintro _ _ S22 ⟨rfl, r23, rfl, h⟩
          show it_Ev g l 3 it_m_X5_guestsBy 0 0 128 [some (.ref 0), none, none, none, some (.int x4), some (.ref (it_el 2 (x1 : Int32).toNatClampNeg)), some (.int v6), some (.int v7), some (.int v8)] [.int r23] κ S22 (it_pi κ P)
          refine ev_if_lt (tgt := 134) d_X5_guestsBy_128 (by decide) (fun hc24 => ?_) (fun hc24 => ?_)
          · have h := it_ok_t h hc24
            refine ev_iinc d_X5_guestsBy_134 kv_iconst_2 rfl (by decide) ?_
            show it_Ev g l 3 it_m_X5_guestsBy 0 0 137 [some (.ref 0), none, none, none, some (.int x4), some (.ref (it_el 2 (x1 : Int32).toNatClampNeg)), some (.int v6), some (.int (v7 + 2)), some (.int v8)] [] κ S22 (it_pi κ P)
            refine ev_iinc d_X5_guestsBy_137 kv_iconst_1 rfl (by decide) ?_
            show it_Ev g l 3 it_m_X5_guestsBy 0 0 140 [some (.ref 0), none, none, none, some (.int x4), some (.ref (it_el 2 (x1 : Int32).toNatClampNeg)), some (.int v6), some (.int (v7 + 2)), some (.int (v8 + 1))] [] κ S22 (it_pi κ P)
            refine ev_goto (tgt := 71) d_X5_guestsBy_140 (by decide) ?_
            refine ev_keep [true, false, false, false, true, true, true, true, true] ?_
            exact ih71 _ _ _ _ h
          · have h := it_ok_f h hc24
            refine ev_iinc d_X5_guestsBy_131 kv_iconst_1 rfl (by decide) ?_
            show it_Ev g l 3 it_m_X5_guestsBy 0 0 134 [some (.ref 0), none, none, none, some (.int x4), some (.ref (it_el 2 (x1 : Int32).toNatClampNeg)), some (.int (v6 + 1)), some (.int v7), some (.int v8)] [] κ S22 (it_pi κ P)
            refine ev_iinc d_X5_guestsBy_134 kv_iconst_2 rfl (by decide) ?_
            show it_Ev g l 3 it_m_X5_guestsBy 0 0 137 [some (.ref 0), none, none, none, some (.int x4), some (.ref (it_el 2 (x1 : Int32).toNatClampNeg)), some (.int (v6 + 1)), some (.int (v7 + 2)), some (.int v8)] [] κ S22 (it_pi κ P)
            refine ev_iinc d_X5_guestsBy_137 kv_iconst_1 rfl (by decide) ?_
            show it_Ev g l 3 it_m_X5_guestsBy 0 0 140 [some (.ref 0), none, none, none, some (.int x4), some (.ref (it_el 2 (x1 : Int32).toNatClampNeg)), some (.int (v6 + 1)), some (.int (v7 + 2)), some (.int (v8 + 1))] [] κ S22 (it_pi κ P)
            refine ev_goto (tgt := 71) d_X5_guestsBy_140 (by decide) ?_
            refine ev_keep [true, false, false, false, true, true, true, true, true] ?_
            exact ih71 _ _ _ _ h
        · have h := it_ok_t h hc19
          refine ev_bipush d_X5_guestsBy_100 kv_bipush_m12 ?_
          exact ev_ret (v := some (.int _)) ⟨d_X5_guestsBy_102, _, rfl, rfl⟩ (by decide) (by decide) ⟨rfl, _, rfl, it_ok_r h⟩
set_option maxHeartbeats 4000000 in
set_option maxRecDepth 100000 in
theorem L_X5_guestsBy {g : it_G} {l : Launch} {κ : it_KK} {x1 : Int32} {x2 : Int32} {x3 : Int32} {x4 : Int32} (hx : it_wx κ) {S : it_SS} {P : Int32 → it_SS → Prop} (h : it_ok (f_X5_guestsBy κ x1 x2 x3 x4 S) P) : it_Cn g l 3 it_m_X5_guestsBy [.ref 0, .int x1, .int x2, .int x3, .int x4] κ S (it_pi κ P) := by
  refine it_Cn.of (by decide +kernel) (Nat.le_of_ble_eq_true rfl) ?_
  rw [f_X5_guestsBy] at h
  show it_Ev g l 3 it_m_X5_guestsBy 0 0 0 [some (.ref 0), some (.int x1), some (.int x2), some (.int x3), some (.int x4), none, none, none, none] [] κ S (it_pi κ P)
  refine ev_iload_n d_X5_guestsBy_0 rfl ?_
  refine ev_callS (M' := it_m_X5_isNoSheet) (d' := 2) (As := [.int x1]) d_X5_guestsBy_1 ml_IcedTooSoon_219 rfl rfl (Nat.le_of_ble_eq_true rfl) (by decide) (by decide) (by decide) (L_X5_isNoSheet  (it_ok_b h)) (fun _ _ _ _ q => by cases q.1; rfl) ?_
  rintro _ _ S1 ⟨rfl, r2, rfl, h⟩
  show it_Ev g l 3 it_m_X5_guestsBy 0 0 4 [some (.ref 0), some (.int x1), some (.int x2), some (.int x3), some (.int x4), none, none, none, none] [.int r2] κ S1 (it_pi κ P)
  refine ev_if_ne (tgt := 27) d_X5_guestsBy_4 (by decide) (fun hc3 => ?_) (fun hc3 => ?_)
  · have h := it_ok_f h hc3
    refine ev_bipush d_X5_guestsBy_27 kv_bipush_m2 ?_
    exact ev_ret (v := some (.int _)) ⟨d_X5_guestsBy_29, _, rfl, rfl⟩ (by decide) (by decide) ⟨rfl, _, rfl, it_ok_r h⟩
  · have h := it_ok_t h hc3
    refine ev_iload_n d_X5_guestsBy_7 rfl ?_
    refine ev_iconst d_X5_guestsBy_8 kv_iconst_0 ?_
    refine ev_iconst d_X5_guestsBy_9 kv_iconst_2 ?_
    refine ev_callS (M' := it_m_X5_isOutside) (d' := 1) (As := [.int x2, .int 0, .int 2]) d_X5_guestsBy_10 ml_IcedTooSoon_96 rfl rfl (Nat.le_of_ble_eq_true rfl) (by decide) (by decide) (by decide) (L_X5_isOutside  (it_ok_b h)) (fun _ _ _ _ q => by cases q.1; rfl) ?_
    rintro _ _ S4 ⟨rfl, r5, rfl, h⟩
    show it_Ev g l 3 it_m_X5_guestsBy 0 0 13 [some (.ref 0), some (.int x1), some (.int x2), some (.int x3), some (.int x4), none, none, none, none] [.int r5] κ S4 (it_pi κ P)
    refine ev_if_ne (tgt := 27) d_X5_guestsBy_13 (by decide) (fun hc6 => ?_) (fun hc6 => ?_)
    · have h := it_ok_f h hc6
      refine ev_bipush d_X5_guestsBy_27 kv_bipush_m2 ?_
      exact ev_ret (v := some (.int _)) ⟨d_X5_guestsBy_29, _, rfl, rfl⟩ (by decide) (by decide) ⟨rfl, _, rfl, it_ok_r h⟩
    · have h := it_ok_t h hc6
      refine ev_iload d_X5_guestsBy_16 rfl ?_
      refine ev_iconst d_X5_guestsBy_18 kv_iconst_0 ?_
      refine ev_bipush d_X5_guestsBy_19 kv_bipush_6 ?_
      refine ev_callS (M' := it_m_X5_isOutside) (d' := 1) (As := [.int x4, .int 0, .int 6]) d_X5_guestsBy_21 ml_IcedTooSoon_96 rfl rfl (Nat.le_of_ble_eq_true rfl) (by decide) (by decide) (by decide) (L_X5_isOutside  (it_ok_b h)) (fun _ _ _ _ q => by cases q.1; rfl) ?_
      rintro _ _ S7 ⟨rfl, r8, rfl, h⟩
      show it_Ev g l 3 it_m_X5_guestsBy 0 0 24 [some (.ref 0), some (.int x1), some (.int x2), some (.int x3), some (.int x4), none, none, none, none] [.int r8] κ S7 (it_pi κ P)
      refine ev_if_eq (tgt := 30) d_X5_guestsBy_24 (by decide) (fun hc9 => ?_) (fun hc9 => ?_)
      · have h := it_ok_t h hc9
        refine ev_aload_n d_X5_guestsBy_30 rfl ?_
        refine ev_getRr (r := 33) rfl d_X5_guestsBy_31 fl_IcedTooSoon_44 hx.1 rfl ?_
        refine ev_iload_n d_X5_guestsBy_34 rfl ?_
        obtain ⟨hb10, h⟩ := it_ok_g h
        refine ev_aald d_X5_guestsBy_35 (hx).2.2.2.2.2.2.1 (it_bd_in hb10) ((hx).2.2.2.2.2.2.2.1 _ (it_bd_lt hb10)) ?_
        refine ev_astore d_X5_guestsBy_36 (by decide) ?_
        show it_Ev g l 3 it_m_X5_guestsBy 0 0 38 [some (.ref 0), some (.int x1), some (.int x2), some (.int x3), some (.int x4), some (.ref (it_el 2 (x1 : Int32).toNatClampNeg)), none, none, none] [] κ S7 (it_pi κ P)
        refine ev_aload d_X5_guestsBy_38 rfl ?_
        refine ev_getI d_X5_guestsBy_40 fl_IcedTooSoon_236 ((hx).2.2.2.2.2.2.2.2 _ (it_bd_lt hb10)).1 rfl ?_
        refine ev_iconst d_X5_guestsBy_43 kv_iconst_m1 ?_
        refine ev_icmp_ne (tgt := 50) d_X5_guestsBy_44 (by decide) (fun hc11 => ?_) (fun hc11 => ?_)
        · have h := it_ok_f h hc11
          refine ev_aload d_X5_guestsBy_50 rfl ?_
          refine ev_getI d_X5_guestsBy_52 fl_IcedTooSoon_236 ((hx).2.2.2.2.2.2.2.2 _ (it_bd_lt hb10)).1 rfl ?_
          refine ev_iload_n d_X5_guestsBy_55 rfl ?_
          refine ev_icmp_eq (tgt := 62) d_X5_guestsBy_56 (by decide) (fun hc12 => ?_) (fun hc12 => ?_)
          · have h := it_ok_t h hc12
            refine ev_iconst d_X5_guestsBy_62 kv_iconst_0 ?_
            refine ev_istore d_X5_guestsBy_63 (by decide) ?_
            show it_Ev g l 3 it_m_X5_guestsBy 0 0 65 [some (.ref 0), some (.int x1), some (.int x2), some (.int x3), some (.int x4), some (.ref (it_el 2 (x1 : Int32).toNatClampNeg)), some (.int 0), none, none] [] κ S7 (it_pi κ P)
            refine ev_iload_n d_X5_guestsBy_65 rfl ?_
            refine ev_istore d_X5_guestsBy_66 (by decide) ?_
            show it_Ev g l 3 it_m_X5_guestsBy 0 0 68 [some (.ref 0), some (.int x1), some (.int x2), some (.int x3), some (.int x4), some (.ref (it_el 2 (x1 : Int32).toNatClampNeg)), some (.int 0), some (.int x3), none] [] κ S7 (it_pi κ P)
            refine ev_iconst d_X5_guestsBy_68 kv_iconst_0 ?_
            refine ev_istore d_X5_guestsBy_69 (by decide) ?_
            show it_Ev g l 3 it_m_X5_guestsBy 0 0 71 [some (.ref 0), some (.int x1), some (.int x2), some (.int x3), some (.int x4), some (.ref (it_el 2 (x1 : Int32).toNatClampNeg)), some (.int 0), some (.int x3), some (.int 0)] [] κ S7 (it_pi κ P)
            refine ev_keep [true, false, false, false, true, true, true, true, true] ?_
            refine Llp_X5_guestsBy_71 hx ((hx).2.2.2.2.2.2.2.2 _ (it_bd_lt hb10)) hb10 (fun v25 S26 h => ?_) _ _ _ _ _ h
            show it_Ev g l 3 it_m_X5_guestsBy 0 0 143 [none, none, none, none, none, none, some (.int v25), none, none] [] κ S26 (it_pi κ P)
            refine ev_iload d_X5_guestsBy_143 rfl ?_
            exact ev_ret (v := some (.int _)) ⟨d_X5_guestsBy_145, _, rfl, rfl⟩ (by decide) (by decide) ⟨rfl, _, rfl, it_ok_r h⟩
          · have h := it_ok_f h hc12
            refine ev_bipush d_X5_guestsBy_59 kv_bipush_m13 ?_
            exact ev_ret (v := some (.int _)) ⟨d_X5_guestsBy_61, _, rfl, rfl⟩ (by decide) (by decide) ⟨rfl, _, rfl, it_ok_r h⟩
        · have h := it_ok_t h hc11
          refine ev_bipush d_X5_guestsBy_47 kv_bipush_m11 ?_
          exact ev_ret (v := some (.int _)) ⟨d_X5_guestsBy_49, _, rfl, rfl⟩ (by decide) (by decide) ⟨rfl, _, rfl, it_ok_r h⟩
      · have h := it_ok_f h hc9
        refine ev_bipush d_X5_guestsBy_27 kv_bipush_m2 ?_
        exact ev_ret (v := some (.int _)) ⟨d_X5_guestsBy_29, _, rfl, rfl⟩ (by decide) (by decide) ⟨rfl, _, rfl, it_ok_r h⟩
theorem d_X5_taken_0 : decode prog_1_method_39_code 0 = .ok (.iload_n 2, 1) := by decide +kernel
theorem d_X5_taken_1 : decode prog_1_method_39_code 1 = .ok (.iconst 0, 1) := by decide +kernel
theorem d_X5_taken_2 : decode prog_1_method_39_code 2 = .ok (.bipush 6, 2) := by decide +kernel
theorem d_X5_taken_4 : decode prog_1_method_39_code 4 = .ok (.invokestatic 96, 3) := by decide +kernel
theorem d_X5_taken_7 : decode prog_1_method_39_code 7 = .ok (.ifCond .eq 7, 3) := by decide +kernel
theorem d_X5_taken_10 : decode prog_1_method_39_code 10 = .ok (.sipush (-200), 3) := by decide +kernel
theorem d_X5_taken_13 : decode prog_1_method_39_code 13 = .ok (.ireturn, 1) := by decide +kernel
theorem d_X5_taken_14 : decode prog_1_method_39_code 14 = .ok (.iload_n 1, 1) := by decide +kernel
theorem d_X5_taken_15 : decode prog_1_method_39_code 15 = .ok (.iconst 0, 1) := by decide +kernel
theorem d_X5_taken_16 : decode prog_1_method_39_code 16 = .ok (.bipush 15, 2) := by decide +kernel
theorem d_X5_taken_18 : decode prog_1_method_39_code 18 = .ok (.invokestatic 96, 3) := by decide +kernel
theorem d_X5_taken_21 : decode prog_1_method_39_code 21 = .ok (.ifCond .eq 7, 3) := by decide +kernel
theorem d_X5_taken_24 : decode prog_1_method_39_code 24 = .ok (.sipush (-1200), 3) := by decide +kernel
theorem d_X5_taken_27 : decode prog_1_method_39_code 27 = .ok (.ireturn, 1) := by decide +kernel
theorem d_X5_taken_28 : decode prog_1_method_39_code 28 = .ok (.aload_n 0, 1) := by decide +kernel
theorem d_X5_taken_29 : decode prog_1_method_39_code 29 = .ok (.getfield 28, 3) := by decide +kernel
theorem d_X5_taken_32 : decode prog_1_method_39_code 32 = .ok (.iload_n 1, 1) := by decide +kernel
theorem d_X5_taken_33 : decode prog_1_method_39_code 33 = .ok (.invokevirtual 117, 3) := by decide +kernel
theorem d_X5_taken_36 : decode prog_1_method_39_code 36 = .ok (.istore_n 3, 1) := by decide +kernel
theorem d_X5_taken_37 : decode prog_1_method_39_code 37 = .ok (.aload_n 0, 1) := by decide +kernel
theorem d_X5_taken_38 : decode prog_1_method_39_code 38 = .ok (.getfield 28, 3) := by decide +kernel
theorem d_X5_taken_41 : decode prog_1_method_39_code 41 = .ok (.iload_n 1, 1) := by decide +kernel
theorem d_X5_taken_42 : decode prog_1_method_39_code 42 = .ok (.bipush 6, 2) := by decide +kernel
theorem d_X5_taken_44 : decode prog_1_method_39_code 44 = .ok (.isub, 1) := by decide +kernel
theorem d_X5_taken_45 : decode prog_1_method_39_code 45 = .ok (.invokevirtual 107, 3) := by decide +kernel
theorem d_X5_taken_48 : decode prog_1_method_39_code 48 = .ok (.istore 4, 2) := by decide +kernel
theorem d_X5_taken_50 : decode prog_1_method_39_code 50 = .ok (.iload_n 3, 1) := by decide +kernel
theorem d_X5_taken_51 : decode prog_1_method_39_code 51 = .ok (.ifCond .ne 12, 3) := by decide +kernel
theorem d_X5_taken_54 : decode prog_1_method_39_code 54 = .ok (.iload 4, 2) := by decide +kernel
theorem d_X5_taken_56 : decode prog_1_method_39_code 56 = .ok (.ifCond .ne 7, 3) := by decide +kernel
theorem d_X5_taken_59 : decode prog_1_method_39_code 59 = .ok (.sipush (-1100), 3) := by decide +kernel
theorem d_X5_taken_62 : decode prog_1_method_39_code 62 = .ok (.ireturn, 1) := by decide +kernel
theorem d_X5_taken_63 : decode prog_1_method_39_code 63 = .ok (.iload 4, 2) := by decide +kernel
theorem d_X5_taken_65 : decode prog_1_method_39_code 65 = .ok (.ifCond .eq 22, 3) := by decide +kernel
theorem d_X5_taken_68 : decode prog_1_method_39_code 68 = .ok (.iload_n 2, 1) := by decide +kernel
theorem d_X5_taken_69 : decode prog_1_method_39_code 69 = .ok (.bipush 6, 2) := by decide +kernel
theorem d_X5_taken_71 : decode prog_1_method_39_code 71 = .ok (.if_icmp .ne 16, 3) := by decide +kernel
theorem d_X5_taken_74 : decode prog_1_method_39_code 74 = .ok (.aload_n 0, 1) := by decide +kernel
theorem d_X5_taken_75 : decode prog_1_method_39_code 75 = .ok (.getfield 28, 3) := by decide +kernel
theorem d_X5_taken_78 : decode prog_1_method_39_code 78 = .ok (.getfield 151, 3) := by decide +kernel
theorem d_X5_taken_81 : decode prog_1_method_39_code 81 = .ok (.iload_n 1, 1) := by decide +kernel
theorem d_X5_taken_82 : decode prog_1_method_39_code 82 = .ok (.bipush 6, 2) := by decide +kernel
theorem d_X5_taken_84 : decode prog_1_method_39_code 84 = .ok (.isub, 1) := by decide +kernel
theorem d_X5_taken_85 : decode prog_1_method_39_code 85 = .ok (.iaload, 1) := by decide +kernel
theorem d_X5_taken_86 : decode prog_1_method_39_code 86 = .ok (.ireturn, 1) := by decide +kernel
theorem d_X5_taken_87 : decode prog_1_method_39_code 87 = .ok (.iload_n 3, 1) := by decide +kernel
theorem d_X5_taken_88 : decode prog_1_method_39_code 88 = .ok (.ifCond .eq 21, 3) := by decide +kernel
theorem d_X5_taken_91 : decode prog_1_method_39_code 91 = .ok (.aload_n 0, 1) := by decide +kernel
theorem d_X5_taken_92 : decode prog_1_method_39_code 92 = .ok (.getfield 28, 3) := by decide +kernel
theorem d_X5_taken_95 : decode prog_1_method_39_code 95 = .ok (.getfield 135, 3) := by decide +kernel
theorem d_X5_taken_98 : decode prog_1_method_39_code 98 = .ok (.iload_n 1, 1) := by decide +kernel
theorem d_X5_taken_99 : decode prog_1_method_39_code 99 = .ok (.iaload, 1) := by decide +kernel
theorem d_X5_taken_100 : decode prog_1_method_39_code 100 = .ok (.iload_n 2, 1) := by decide +kernel
theorem d_X5_taken_101 : decode prog_1_method_39_code 101 = .ok (.invokestatic 252, 3) := by decide +kernel
theorem d_X5_taken_104 : decode prog_1_method_39_code 104 = .ok (.ifCond .eq 5, 3) := by decide +kernel
theorem d_X5_taken_107 : decode prog_1_method_39_code 107 = .ok (.iload_n 1, 1) := by decide +kernel
theorem d_X5_taken_108 : decode prog_1_method_39_code 108 = .ok (.ireturn, 1) := by decide +kernel
theorem d_X5_taken_109 : decode prog_1_method_39_code 109 = .ok (.sipush (-1300), 3) := by decide +kernel
theorem d_X5_taken_112 : decode prog_1_method_39_code 112 = .ok (.ireturn, 1) := by decide +kernel
def f_X5_taken (κ : it_KK) (x1 : Int32) (x2 : Int32) (S : it_SS) : Option (Int32 × it_SS) :=
it_bi (f_X5_isOutside κ x2 0 6 S) (fun r2 S1 =>
if r2 = 0 then
it_bi (f_X5_isOutside κ x1 0 15 S1) (fun r5 S4 =>
if r5 = 0 then
it_bi (f_X0_hasGuest κ 9 x1 S4) (fun r8 S7 =>
it_bi (f_X0_hasGlass κ 9 (x1 - 6) S7) (fun r10 S9 =>
if r8 = 0 then
if r10 = 0 then
some ((-1100), S9)
else
if r10 = 0 then
if r8 = 0 then
some ((-1300), S9)
else
if it_bd x1 6 = true then
it_bi (f_X5_isOfKind κ (S9 (9 + 1) (x1 : Int32).toNatClampNeg) x2 S9) (fun r30 S29 =>
if r30 = 0 then
some ((-1300), S29)
else
some (x1, S29))
else none
else
if x2 = 6 then
if it_bd (x1 - 6) 10 = true then
some ((S9 (9 + 6) ((x1 - 6) : Int32).toNatClampNeg), S9)
else none
else
if r8 = 0 then
some ((-1300), S9)
else
if it_bd x1 6 = true then
it_bi (f_X5_isOfKind κ (S9 (9 + 1) (x1 : Int32).toNatClampNeg) x2 S9) (fun r36 S35 =>
if r36 = 0 then
some ((-1300), S35)
else
some (x1, S35))
else none
else
if r10 = 0 then
if r8 = 0 then
some ((-1300), S9)
else
if it_bd x1 6 = true then
it_bi (f_X5_isOfKind κ (S9 (9 + 1) (x1 : Int32).toNatClampNeg) x2 S9) (fun r16 S15 =>
if r16 = 0 then
some ((-1300), S15)
else
some (x1, S15))
else none
else
if x2 = 6 then
if it_bd (x1 - 6) 10 = true then
some ((S9 (9 + 6) ((x1 - 6) : Int32).toNatClampNeg), S9)
else none
else
if r8 = 0 then
some ((-1300), S9)
else
if it_bd x1 6 = true then
it_bi (f_X5_isOfKind κ (S9 (9 + 1) (x1 : Int32).toNatClampNeg) x2 S9) (fun r22 S21 =>
if r22 = 0 then
some ((-1300), S21)
else
some (x1, S21))
else none))
else
some ((-1200), S4))
else
some ((-200), S1))
set_option maxHeartbeats 4000000 in
set_option maxRecDepth 100000 in
theorem L_X5_taken {g : it_G} {l : Launch} {κ : it_KK} {x1 : Int32} {x2 : Int32} (hx : it_wx κ) {S : it_SS} {P : Int32 → it_SS → Prop} (h : it_ok (f_X5_taken κ x1 x2 S) P) : it_Cn g l 3 it_m_X5_taken [.ref 0, .int x1, .int x2] κ S (it_pi κ P) := by
  refine it_Cn.of (by decide +kernel) (Nat.le_of_ble_eq_true rfl) ?_
  rw [f_X5_taken] at h
  show it_Ev g l 3 it_m_X5_taken 0 0 0 [some (.ref 0), some (.int x1), some (.int x2), none, none] [] κ S (it_pi κ P)
  refine ev_iload_n d_X5_taken_0 rfl ?_
  refine ev_iconst d_X5_taken_1 kv_iconst_0 ?_
  refine ev_bipush d_X5_taken_2 kv_bipush_6 ?_
  refine ev_callS (M' := it_m_X5_isOutside) (d' := 1) (As := [.int x2, .int 0, .int 6]) d_X5_taken_4 ml_IcedTooSoon_96 rfl rfl (Nat.le_of_ble_eq_true rfl) (by decide) (by decide) (by decide) (L_X5_isOutside  (it_ok_b h)) (fun _ _ _ _ q => by cases q.1; rfl) ?_
  rintro _ _ S1 ⟨rfl, r2, rfl, h⟩
  show it_Ev g l 3 it_m_X5_taken 0 0 7 [some (.ref 0), some (.int x1), some (.int x2), none, none] [.int r2] κ S1 (it_pi κ P)
  refine ev_if_eq (tgt := 14) d_X5_taken_7 (by decide) (fun hc3 => ?_) (fun hc3 => ?_)
  · have h := it_ok_t h hc3
    refine ev_iload_n d_X5_taken_14 rfl ?_
    refine ev_iconst d_X5_taken_15 kv_iconst_0 ?_
    refine ev_bipush d_X5_taken_16 kv_bipush_15 ?_
    refine ev_callS (M' := it_m_X5_isOutside) (d' := 1) (As := [.int x1, .int 0, .int 15]) d_X5_taken_18 ml_IcedTooSoon_96 rfl rfl (Nat.le_of_ble_eq_true rfl) (by decide) (by decide) (by decide) (L_X5_isOutside  (it_ok_b h)) (fun _ _ _ _ q => by cases q.1; rfl) ?_
    rintro _ _ S4 ⟨rfl, r5, rfl, h⟩
    show it_Ev g l 3 it_m_X5_taken 0 0 21 [some (.ref 0), some (.int x1), some (.int x2), none, none] [.int r5] κ S4 (it_pi κ P)
    refine ev_if_eq (tgt := 28) d_X5_taken_21 (by decide) (fun hc6 => ?_) (fun hc6 => ?_)
    · have h := it_ok_t h hc6
      refine ev_aload_n d_X5_taken_28 rfl ?_
      refine ev_getRr (r := 9) rfl d_X5_taken_29 fl_IcedTooSoon_28 hx.1 rfl ?_
      refine ev_iload_n d_X5_taken_32 rfl ?_
      refine ev_callV (ci := 0) (b := 9) (M' := it_m_X0_hasGuest) (d' := 1) (As := [.int x1]) d_X5_taken_33 ml_IcedTooSoon_117 ((hx).2.2.2.1).1.1 ((hx).2.2.2.1).1.2.1 ⟨_, rfl, rfl⟩ rfl rfl (Nat.le_of_ble_eq_true rfl) (by decide) (by decide) (by decide) (L_X0_hasGuest (hx.2.1) (hx).2.2.2.1 (it_ok_b h)) (fun _ _ _ _ q => by cases q.1; rfl) ?_
      rintro _ _ S7 ⟨rfl, r8, rfl, h⟩
      show it_Ev g l 3 it_m_X5_taken 0 0 36 [some (.ref 0), some (.int x1), some (.int x2), none, none] [.int r8] κ S7 (it_pi κ P)
      refine ev_istore_n d_X5_taken_36 (by decide) ?_
      show it_Ev g l 3 it_m_X5_taken 0 0 37 [some (.ref 0), some (.int x1), some (.int x2), some (.int r8), none] [] κ S7 (it_pi κ P)
      refine ev_aload_n d_X5_taken_37 rfl ?_
      refine ev_getRr (r := 9) rfl d_X5_taken_38 fl_IcedTooSoon_28 hx.1 rfl ?_
      refine ev_iload_n d_X5_taken_41 rfl ?_
      refine ev_bipush d_X5_taken_42 kv_bipush_6 ?_
      refine ev_isub d_X5_taken_44 ?_
      refine ev_callV (ci := 0) (b := 9) (M' := it_m_X0_hasGlass) (d' := 2) (As := [.int (x1 - 6)]) d_X5_taken_45 ml_IcedTooSoon_107 ((hx).2.2.2.1).1.1 ((hx).2.2.2.1).1.2.1 ⟨_, rfl, rfl⟩ rfl rfl (Nat.le_of_ble_eq_true rfl) (by decide) (by decide) (by decide) (L_X0_hasGlass (hx.2.1) (hx).2.2.2.1 (it_ok_b h)) (fun _ _ _ _ q => by cases q.1; rfl) ?_
      rintro _ _ S9 ⟨rfl, r10, rfl, h⟩
      show it_Ev g l 3 it_m_X5_taken 0 0 48 [some (.ref 0), some (.int x1), some (.int x2), some (.int r8), none] [.int r10] κ S9 (it_pi κ P)
      refine ev_istore d_X5_taken_48 (by decide) ?_
      show it_Ev g l 3 it_m_X5_taken 0 0 50 [some (.ref 0), some (.int x1), some (.int x2), some (.int r8), some (.int r10)] [] κ S9 (it_pi κ P)
      refine ev_iload_n d_X5_taken_50 rfl ?_
      refine ev_if_ne (tgt := 63) d_X5_taken_51 (by decide) (fun hc11 => ?_) (fun hc11 => ?_)
      · have h := it_ok_f h hc11
        refine ev_iload d_X5_taken_63 rfl ?_
        refine ev_if_eq (tgt := 87) d_X5_taken_65 (by decide) (fun hc12 => ?_) (fun hc12 => ?_)
        · have h := it_ok_t h hc12
          refine ev_iload_n d_X5_taken_87 rfl ?_
          refine ev_if_eq (tgt := 109) d_X5_taken_88 (by decide) (fun hc13 => ?_) (fun hc13 => ?_)
          · have h := it_ok_t h hc13
            refine ev_sipush d_X5_taken_109 kv_sipush_m1300 ?_
            exact ev_ret (v := some (.int _)) ⟨d_X5_taken_112, _, rfl, rfl⟩ (by decide) (by decide) ⟨rfl, _, rfl, it_ok_r h⟩
          · have h := it_ok_f h hc13
            refine ev_aload_n d_X5_taken_91 rfl ?_
            refine ev_getRr (r := 9) rfl d_X5_taken_92 fl_IcedTooSoon_28 hx.1 rfl ?_
            refine ev_getRr (r := (9 + 1)) rfl d_X5_taken_95 fl_IcedTooSoon_135 ((hx).2.2.2.1).1 rfl ?_
            refine ev_iload_n d_X5_taken_98 rfl ?_
            obtain ⟨hb14, h⟩ := it_ok_g h
            refine ev_iald d_X5_taken_99 ((hx).2.2.2.1).2.1 (it_bd_in hb14) ?_
            refine ev_iload_n d_X5_taken_100 rfl ?_
            refine ev_callS (M' := it_m_X5_isOfKind) (d' := 2) (As := [.int (S9 (9 + 1) (x1 : Int32).toNatClampNeg), .int x2]) d_X5_taken_101 ml_IcedTooSoon_252 rfl rfl (Nat.le_of_ble_eq_true rfl) (by decide) (by decide) (by decide) (L_X5_isOfKind  (it_ok_b h)) (fun _ _ _ _ q => by cases q.1; rfl) ?_
            rintro _ _ S15 ⟨rfl, r16, rfl, h⟩
            show it_Ev g l 3 it_m_X5_taken 0 0 104 [some (.ref 0), some (.int x1), some (.int x2), some (.int r8), some (.int r10)] [.int r16] κ S15 (it_pi κ P)
            refine ev_if_eq (tgt := 109) d_X5_taken_104 (by decide) (fun hc17 => ?_) (fun hc17 => ?_)
            · have h := it_ok_t h hc17
              refine ev_sipush d_X5_taken_109 kv_sipush_m1300 ?_
              exact ev_ret (v := some (.int _)) ⟨d_X5_taken_112, _, rfl, rfl⟩ (by decide) (by decide) ⟨rfl, _, rfl, it_ok_r h⟩
            · have h := it_ok_f h hc17
              refine ev_iload_n d_X5_taken_107 rfl ?_
              exact ev_ret (v := some (.int _)) ⟨d_X5_taken_108, _, rfl, rfl⟩ (by decide) (by decide) ⟨rfl, _, rfl, it_ok_r h⟩
        · have h := it_ok_f h hc12
          refine ev_iload_n d_X5_taken_68 rfl ?_
          refine ev_bipush d_X5_taken_69 kv_bipush_6 ?_
          refine ev_icmp_ne (tgt := 87) d_X5_taken_71 (by decide) (fun hc18 => ?_) (fun hc18 => ?_)
          · have h := it_ok_f h hc18
            refine ev_iload_n d_X5_taken_87 rfl ?_
            refine ev_if_eq (tgt := 109) d_X5_taken_88 (by decide) (fun hc19 => ?_) (fun hc19 => ?_)
            · have h := it_ok_t h hc19
              refine ev_sipush d_X5_taken_109 kv_sipush_m1300 ?_
              exact ev_ret (v := some (.int _)) ⟨d_X5_taken_112, _, rfl, rfl⟩ (by decide) (by decide) ⟨rfl, _, rfl, it_ok_r h⟩
            · have h := it_ok_f h hc19
              refine ev_aload_n d_X5_taken_91 rfl ?_
              refine ev_getRr (r := 9) rfl d_X5_taken_92 fl_IcedTooSoon_28 hx.1 rfl ?_
              refine ev_getRr (r := (9 + 1)) rfl d_X5_taken_95 fl_IcedTooSoon_135 ((hx).2.2.2.1).1 rfl ?_
              refine ev_iload_n d_X5_taken_98 rfl ?_
              obtain ⟨hb20, h⟩ := it_ok_g h
              refine ev_iald d_X5_taken_99 ((hx).2.2.2.1).2.1 (it_bd_in hb20) ?_
              refine ev_iload_n d_X5_taken_100 rfl ?_
              refine ev_callS (M' := it_m_X5_isOfKind) (d' := 2) (As := [.int (S9 (9 + 1) (x1 : Int32).toNatClampNeg), .int x2]) d_X5_taken_101 ml_IcedTooSoon_252 rfl rfl (Nat.le_of_ble_eq_true rfl) (by decide) (by decide) (by decide) (L_X5_isOfKind  (it_ok_b h)) (fun _ _ _ _ q => by cases q.1; rfl) ?_
              rintro _ _ S21 ⟨rfl, r22, rfl, h⟩
              show it_Ev g l 3 it_m_X5_taken 0 0 104 [some (.ref 0), some (.int x1), some (.int x2), some (.int r8), some (.int r10)] [.int r22] κ S21 (it_pi κ P)
              refine ev_if_eq (tgt := 109) d_X5_taken_104 (by decide) (fun hc23 => ?_) (fun hc23 => ?_)
              · have h := it_ok_t h hc23
                refine ev_sipush d_X5_taken_109 kv_sipush_m1300 ?_
                exact ev_ret (v := some (.int _)) ⟨d_X5_taken_112, _, rfl, rfl⟩ (by decide) (by decide) ⟨rfl, _, rfl, it_ok_r h⟩
              · have h := it_ok_f h hc23
                refine ev_iload_n d_X5_taken_107 rfl ?_
                exact ev_ret (v := some (.int _)) ⟨d_X5_taken_108, _, rfl, rfl⟩ (by decide) (by decide) ⟨rfl, _, rfl, it_ok_r h⟩
          · have h := it_ok_t h hc18
            refine ev_aload_n d_X5_taken_74 rfl ?_
            refine ev_getRr (r := 9) rfl d_X5_taken_75 fl_IcedTooSoon_28 hx.1 rfl ?_
            refine ev_getRr (r := (9 + 6)) rfl d_X5_taken_78 fl_IcedTooSoon_151 ((hx).2.2.2.1).1 rfl ?_
            refine ev_iload_n d_X5_taken_81 rfl ?_
            refine ev_bipush d_X5_taken_82 kv_bipush_6 ?_
            refine ev_isub d_X5_taken_84 ?_
            obtain ⟨hb24, h⟩ := it_ok_g h
            refine ev_iald d_X5_taken_85 ((hx).2.2.2.1).2.2.2.2.2.2.1 (it_bd_in hb24) ?_
            exact ev_ret (v := some (.int _)) ⟨d_X5_taken_86, _, rfl, rfl⟩ (by decide) (by decide) ⟨rfl, _, rfl, it_ok_r h⟩
      · have h := it_ok_t h hc11
        refine ev_iload d_X5_taken_54 rfl ?_
        refine ev_if_ne (tgt := 63) d_X5_taken_56 (by decide) (fun hc25 => ?_) (fun hc25 => ?_)
        · have h := it_ok_f h hc25
          refine ev_iload d_X5_taken_63 rfl ?_
          refine ev_if_eq (tgt := 87) d_X5_taken_65 (by decide) (fun hc26 => ?_) (fun hc26 => ?_)
          · have h := it_ok_t h hc26
            refine ev_iload_n d_X5_taken_87 rfl ?_
            refine ev_if_eq (tgt := 109) d_X5_taken_88 (by decide) (fun hc27 => ?_) (fun hc27 => ?_)
            · have h := it_ok_t h hc27
              refine ev_sipush d_X5_taken_109 kv_sipush_m1300 ?_
              exact ev_ret (v := some (.int _)) ⟨d_X5_taken_112, _, rfl, rfl⟩ (by decide) (by decide) ⟨rfl, _, rfl, it_ok_r h⟩
            · have h := it_ok_f h hc27
              refine ev_aload_n d_X5_taken_91 rfl ?_
              refine ev_getRr (r := 9) rfl d_X5_taken_92 fl_IcedTooSoon_28 hx.1 rfl ?_
              refine ev_getRr (r := (9 + 1)) rfl d_X5_taken_95 fl_IcedTooSoon_135 ((hx).2.2.2.1).1 rfl ?_
              refine ev_iload_n d_X5_taken_98 rfl ?_
              obtain ⟨hb28, h⟩ := it_ok_g h
              refine ev_iald d_X5_taken_99 ((hx).2.2.2.1).2.1 (it_bd_in hb28) ?_
              refine ev_iload_n d_X5_taken_100 rfl ?_
              refine ev_callS (M' := it_m_X5_isOfKind) (d' := 2) (As := [.int (S9 (9 + 1) (x1 : Int32).toNatClampNeg), .int x2]) d_X5_taken_101 ml_IcedTooSoon_252 rfl rfl (Nat.le_of_ble_eq_true rfl) (by decide) (by decide) (by decide) (L_X5_isOfKind  (it_ok_b h)) (fun _ _ _ _ q => by cases q.1; rfl) ?_
              rintro _ _ S29 ⟨rfl, r30, rfl, h⟩
              show it_Ev g l 3 it_m_X5_taken 0 0 104 [some (.ref 0), some (.int x1), some (.int x2), some (.int r8), some (.int r10)] [.int r30] κ S29 (it_pi κ P)
              refine ev_if_eq (tgt := 109) d_X5_taken_104 (by decide) (fun hc31 => ?_) (fun hc31 => ?_)
              · have h := it_ok_t h hc31
                refine ev_sipush d_X5_taken_109 kv_sipush_m1300 ?_
                exact ev_ret (v := some (.int _)) ⟨d_X5_taken_112, _, rfl, rfl⟩ (by decide) (by decide) ⟨rfl, _, rfl, it_ok_r h⟩
              · have h := it_ok_f h hc31
                refine ev_iload_n d_X5_taken_107 rfl ?_
                exact ev_ret (v := some (.int _)) ⟨d_X5_taken_108, _, rfl, rfl⟩ (by decide) (by decide) ⟨rfl, _, rfl, it_ok_r h⟩
          · have h := it_ok_f h hc26
            refine ev_iload_n d_X5_taken_68 rfl ?_
            refine ev_bipush d_X5_taken_69 kv_bipush_6 ?_
            refine ev_icmp_ne (tgt := 87) d_X5_taken_71 (by decide) (fun hc32 => ?_) (fun hc32 => ?_)
            · have h := it_ok_f h hc32
              refine ev_iload_n d_X5_taken_87 rfl ?_
              refine ev_if_eq (tgt := 109) d_X5_taken_88 (by decide) (fun hc33 => ?_) (fun hc33 => ?_)
              · have h := it_ok_t h hc33
                refine ev_sipush d_X5_taken_109 kv_sipush_m1300 ?_
                exact ev_ret (v := some (.int _)) ⟨d_X5_taken_112, _, rfl, rfl⟩ (by decide) (by decide) ⟨rfl, _, rfl, it_ok_r h⟩
              · have h := it_ok_f h hc33
                refine ev_aload_n d_X5_taken_91 rfl ?_
                refine ev_getRr (r := 9) rfl d_X5_taken_92 fl_IcedTooSoon_28 hx.1 rfl ?_
                refine ev_getRr (r := (9 + 1)) rfl d_X5_taken_95 fl_IcedTooSoon_135 ((hx).2.2.2.1).1 rfl ?_
                refine ev_iload_n d_X5_taken_98 rfl ?_
                obtain ⟨hb34, h⟩ := it_ok_g h
                refine ev_iald d_X5_taken_99 ((hx).2.2.2.1).2.1 (it_bd_in hb34) ?_
                refine ev_iload_n d_X5_taken_100 rfl ?_
                refine ev_callS (M' := it_m_X5_isOfKind) (d' := 2) (As := [.int (S9 (9 + 1) (x1 : Int32).toNatClampNeg), .int x2]) d_X5_taken_101 ml_IcedTooSoon_252 rfl rfl (Nat.le_of_ble_eq_true rfl) (by decide) (by decide) (by decide) (L_X5_isOfKind  (it_ok_b h)) (fun _ _ _ _ q => by cases q.1; rfl) ?_
                rintro _ _ S35 ⟨rfl, r36, rfl, h⟩
                show it_Ev g l 3 it_m_X5_taken 0 0 104 [some (.ref 0), some (.int x1), some (.int x2), some (.int r8), some (.int r10)] [.int r36] κ S35 (it_pi κ P)
                refine ev_if_eq (tgt := 109) d_X5_taken_104 (by decide) (fun hc37 => ?_) (fun hc37 => ?_)
                · have h := it_ok_t h hc37
                  refine ev_sipush d_X5_taken_109 kv_sipush_m1300 ?_
                  exact ev_ret (v := some (.int _)) ⟨d_X5_taken_112, _, rfl, rfl⟩ (by decide) (by decide) ⟨rfl, _, rfl, it_ok_r h⟩
                · have h := it_ok_f h hc37
                  refine ev_iload_n d_X5_taken_107 rfl ?_
                  exact ev_ret (v := some (.int _)) ⟨d_X5_taken_108, _, rfl, rfl⟩ (by decide) (by decide) ⟨rfl, _, rfl, it_ok_r h⟩
            · have h := it_ok_t h hc32
              refine ev_aload_n d_X5_taken_74 rfl ?_
              refine ev_getRr (r := 9) rfl d_X5_taken_75 fl_IcedTooSoon_28 hx.1 rfl ?_
              refine ev_getRr (r := (9 + 6)) rfl d_X5_taken_78 fl_IcedTooSoon_151 ((hx).2.2.2.1).1 rfl ?_
              refine ev_iload_n d_X5_taken_81 rfl ?_
              refine ev_bipush d_X5_taken_82 kv_bipush_6 ?_
              refine ev_isub d_X5_taken_84 ?_
              obtain ⟨hb38, h⟩ := it_ok_g h
              refine ev_iald d_X5_taken_85 ((hx).2.2.2.1).2.2.2.2.2.2.1 (it_bd_in hb38) ?_
              exact ev_ret (v := some (.int _)) ⟨d_X5_taken_86, _, rfl, rfl⟩ (by decide) (by decide) ⟨rfl, _, rfl, it_ok_r h⟩
        · have h := it_ok_t h hc25
          refine ev_sipush d_X5_taken_59 kv_sipush_m1100 ?_
          exact ev_ret (v := some (.int _)) ⟨d_X5_taken_62, _, rfl, rfl⟩ (by decide) (by decide) ⟨rfl, _, rfl, it_ok_r h⟩
    · have h := it_ok_f h hc6
      refine ev_sipush d_X5_taken_24 kv_sipush_m1200 ?_
      exact ev_ret (v := some (.int _)) ⟨d_X5_taken_27, _, rfl, rfl⟩ (by decide) (by decide) ⟨rfl, _, rfl, it_ok_r h⟩
  · have h := it_ok_f h hc3
    refine ev_sipush d_X5_taken_10 kv_sipush_m200 ?_
    exact ev_ret (v := some (.int _)) ⟨d_X5_taken_13, _, rfl, rfl⟩ (by decide) (by decide) ⟨rfl, _, rfl, it_ok_r h⟩
