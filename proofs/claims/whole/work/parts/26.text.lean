theorem d_J0_coder_7d493_0 : decode prog_13_method_152_code 0 = .ok (.getstatic 38, 3) := by decide +kernel
theorem d_J0_coder_7d493_3 : decode prog_13_method_152_code 3 = .ok (.ifCond .eq 10, 3) := by decide +kernel
theorem d_J0_coder_7d493_6 : decode prog_13_method_152_code 6 = .ok (.aload_n 0, 1) := by decide +kernel
theorem d_J0_coder_7d493_7 : decode prog_13_method_152_code 7 = .ok (.getfield 15, 3) := by decide +kernel
theorem d_J0_coder_7d493_10 : decode prog_13_method_152_code 10 = .ok (.goto 4, 3) := by decide +kernel
theorem d_J0_coder_7d493_13 : decode prog_13_method_152_code 13 = .ok (.iconst 1, 1) := by decide +kernel
theorem d_J0_coder_7d493_14 : decode prog_13_method_152_code 14 = .ok (.ireturn, 1) := by decide +kernel
def f_J0_coder_7d493 (κ : it_KK) (t : Nat) (S : it_SS) : Option (Int32 × it_SS) :=
some (0, S)
set_option maxHeartbeats 4000000 in
set_option maxRecDepth 100000 in
theorem L_J0_coder_7d493 {g : it_G} {l : Launch} {κ : it_KK} {t : Nat} (h3 : t < 3) {S : it_SS} {P : Int32 → it_SS → Prop} (h : it_ok (f_J0_coder_7d493 κ t S) P) : it_Cn g l 1 it_m_J0_coder_7d493 [.retAddr (1 + t)] κ S (it_pi κ P) := by
  refine it_Cn.of (by decide +kernel) (Nat.le_of_ble_eq_true rfl) ?_
  rw [f_J0_coder_7d493] at h
  show it_Ev g l 1 it_m_J0_coder_7d493 0 0 0 [some (.retAddr (1 + t))] [] κ S (it_pi κ P)
  refine ev_compact d_J0_coder_7d493_0 (it_in_tb (List.mem_of_getElem? (i := 219) (by decide +kernel)) rfl) ?_
  refine ev_if_eq (tgt := 13) d_J0_coder_7d493_3 (by decide) (fun hc => absurd hc (by decide)) (fun _ => ?_)
  refine ev_aload_nO d_J0_coder_7d493_6 rfl ?_
  refine ev_coder h3 d_J0_coder_7d493_7 (it_in_tb (List.mem_of_getElem? (i := 1234) (by decide +kernel)) rfl) ?_
  refine ev_goto (tgt := 14) d_J0_coder_7d493_10 (by decide) ?_
  exact ev_ret (v := some (.int _)) ⟨d_J0_coder_7d493_14, _, rfl, rfl⟩ (by decide) (by decide) ⟨rfl, _, rfl, it_ok_r h⟩
theorem d_J0_isLatin1_aae02_0 : decode prog_13_method_154_code 0 = .ok (.getstatic 38, 3) := by decide +kernel
theorem d_J0_isLatin1_aae02_3 : decode prog_13_method_154_code 3 = .ok (.ifCond .eq 14, 3) := by decide +kernel
theorem d_J0_isLatin1_aae02_6 : decode prog_13_method_154_code 6 = .ok (.aload_n 0, 1) := by decide +kernel
theorem d_J0_isLatin1_aae02_7 : decode prog_13_method_154_code 7 = .ok (.getfield 15, 3) := by decide +kernel
theorem d_J0_isLatin1_aae02_10 : decode prog_13_method_154_code 10 = .ok (.ifCond .ne 7, 3) := by decide +kernel
theorem d_J0_isLatin1_aae02_13 : decode prog_13_method_154_code 13 = .ok (.iconst 1, 1) := by decide +kernel
theorem d_J0_isLatin1_aae02_14 : decode prog_13_method_154_code 14 = .ok (.goto 4, 3) := by decide +kernel
theorem d_J0_isLatin1_aae02_17 : decode prog_13_method_154_code 17 = .ok (.iconst 0, 1) := by decide +kernel
theorem d_J0_isLatin1_aae02_18 : decode prog_13_method_154_code 18 = .ok (.ireturn, 1) := by decide +kernel
def f_J0_isLatin1_aae02 (κ : it_KK) (t : Nat) (S : it_SS) : Option (Int32 × it_SS) :=
some (1, S)
set_option maxHeartbeats 4000000 in
set_option maxRecDepth 100000 in
theorem L_J0_isLatin1_aae02 {g : it_G} {l : Launch} {κ : it_KK} {t : Nat} (h3 : t < 3) {S : it_SS} {P : Int32 → it_SS → Prop} (h : it_ok (f_J0_isLatin1_aae02 κ t S) P) : it_Cn g l 1 it_m_J0_isLatin1_aae02 [.retAddr (1 + t)] κ S (it_pi κ P) := by
  refine it_Cn.of (by decide +kernel) (Nat.le_of_ble_eq_true rfl) ?_
  rw [f_J0_isLatin1_aae02] at h
  show it_Ev g l 1 it_m_J0_isLatin1_aae02 0 0 0 [some (.retAddr (1 + t))] [] κ S (it_pi κ P)
  refine ev_compact d_J0_isLatin1_aae02_0 (it_in_tb (List.mem_of_getElem? (i := 219) (by decide +kernel)) rfl) ?_
  refine ev_if_eq (tgt := 17) d_J0_isLatin1_aae02_3 (by decide) (fun hc => absurd hc (by decide)) (fun _ => ?_)
  refine ev_aload_nO d_J0_isLatin1_aae02_6 rfl ?_
  refine ev_coder h3 d_J0_isLatin1_aae02_7 (it_in_tb (List.mem_of_getElem? (i := 1234) (by decide +kernel)) rfl) ?_
  refine ev_if_ne (tgt := 17) d_J0_isLatin1_aae02_10 (by decide) (fun hc => absurd (by decide) hc) (fun _ => ?_)
  refine ev_iconst d_J0_isLatin1_aae02_13 kv_iconst_1 ?_
  refine ev_goto (tgt := 18) d_J0_isLatin1_aae02_14 (by decide) ?_
  exact ev_ret (v := some (.int _)) ⟨d_J0_isLatin1_aae02_18, _, rfl, rfl⟩ (by decide) (by decide) ⟨rfl, _, rfl, it_ok_r h⟩
theorem d_J0_length_8abf5_0 : decode prog_13_method_54_code 0 = .ok (.aload_n 0, 1) := by decide +kernel
theorem d_J0_length_8abf5_1 : decode prog_13_method_54_code 1 = .ok (.getfield 9, 3) := by decide +kernel
theorem d_J0_length_8abf5_4 : decode prog_13_method_54_code 4 = .ok (.arraylength, 1) := by decide +kernel
theorem d_J0_length_8abf5_5 : decode prog_13_method_54_code 5 = .ok (.aload_n 0, 1) := by decide +kernel
theorem d_J0_length_8abf5_6 : decode prog_13_method_54_code 6 = .ok (.invokevirtual 335, 3) := by decide +kernel
theorem d_J0_length_8abf5_9 : decode prog_13_method_54_code 9 = .ok (.ishr, 1) := by decide +kernel
theorem d_J0_length_8abf5_10 : decode prog_13_method_54_code 10 = .ok (.ireturn, 1) := by decide +kernel
def f_J0_length_8abf5 (κ : it_KK) (t : Nat) (S : it_SS) : Option (Int32 × it_SS) :=
it_bi (f_J0_coder_7d493 κ t S) (fun r2 S1 =>
some (((Int32.ofNat (it_lens.getD t 0)) >>> (r2 &&& 31)), S1))
set_option maxHeartbeats 4000000 in
set_option maxRecDepth 100000 in
theorem L_J0_length_8abf5 {g : it_G} {l : Launch} {κ : it_KK} {t : Nat} (h3 : t < 3) {S : it_SS} {P : Int32 → it_SS → Prop} (h : it_ok (f_J0_length_8abf5 κ t S) P) : it_Cn g l 2 it_m_J0_length_8abf5 [.retAddr (1 + t)] κ S (it_pi κ P) := by
  refine it_Cn.of (by decide +kernel) (Nat.le_of_ble_eq_true rfl) ?_
  rw [f_J0_length_8abf5] at h
  show it_Ev g l 2 it_m_J0_length_8abf5 0 0 0 [some (.retAddr (1 + t))] [] κ S (it_pi κ P)
  refine ev_aload_nO d_J0_length_8abf5_0 rfl ?_
  refine ev_value h3 d_J0_length_8abf5_1 (it_in_tb (List.mem_of_getElem? (i := 1233) (by decide +kernel)) rfl) ?_
  refine ev_blen h3 d_J0_length_8abf5_4 ?_
  refine ev_aload_nO d_J0_length_8abf5_5 rfl ?_
  refine ev_callO (t := t) (M' := it_m_J0_coder_7d493) (d' := 1) (As := []) h3 d_J0_length_8abf5_6 ml_java_lang_String_335 rfl rfl rfl (Nat.le_of_ble_eq_true rfl) (by decide) (by decide) (by decide) (L_J0_coder_7d493 h3 (it_ok_b h)) (fun _ _ _ _ q => by cases q.1; rfl) ?_
  rintro _ _ S1 ⟨rfl, r2, rfl, h⟩
  show it_Ev g l 2 it_m_J0_length_8abf5 0 0 9 [some (.retAddr (1 + t))] [.int r2, .int (Int32.ofNat (it_lens.getD t 0))] κ S1 (it_pi κ P)
  refine ev_ishr d_J0_length_8abf5_9 ?_
  exact ev_ret (v := some (.int _)) ⟨d_J0_length_8abf5_10, _, rfl, rfl⟩ (by decide) (by decide) ⟨rfl, _, rfl, it_ok_r h⟩
theorem d_J1_charAt_3b067_0 : decode prog_14_method_2_code 0 = .ok (.iload_n 1, 1) := by decide +kernel
theorem d_J1_charAt_3b067_1 : decode prog_14_method_2_code 1 = .ok (.aload_n 0, 1) := by decide +kernel
theorem d_J1_charAt_3b067_2 : decode prog_14_method_2_code 2 = .ok (.arraylength, 1) := by decide +kernel
theorem d_J1_charAt_3b067_3 : decode prog_14_method_2_code 3 = .ok (.invokestatic 9, 3) := by decide +kernel
theorem d_J1_charAt_3b067_6 : decode prog_14_method_2_code 6 = .ok (.aload_n 0, 1) := by decide +kernel
theorem d_J1_charAt_3b067_7 : decode prog_14_method_2_code 7 = .ok (.iload_n 1, 1) := by decide +kernel
theorem d_J1_charAt_3b067_8 : decode prog_14_method_2_code 8 = .ok (.baload, 1) := by decide +kernel
theorem d_J1_charAt_3b067_9 : decode prog_14_method_2_code 9 = .ok (.sipush 255, 3) := by decide +kernel
theorem d_J1_charAt_3b067_12 : decode prog_14_method_2_code 12 = .ok (.iand, 1) := by decide +kernel
theorem d_J1_charAt_3b067_13 : decode prog_14_method_2_code 13 = .ok (.i2c, 1) := by decide +kernel
theorem d_J1_charAt_3b067_14 : decode prog_14_method_2_code 14 = .ok (.ireturn, 1) := by decide +kernel
def f_J1_charAt_3b067 (κ : it_KK) (t : Nat) (x1 : Int32) (S : it_SS) : Option (Int32 × it_SS) :=
it_bi (f_J0_checkIndex_df160 κ x1 (Int32.ofNat (it_lens.getD t 0)) S) (fun _ S1 =>
if it_bd x1 (it_lens.getD t 0) = true then
if it_bc ((((((it_bytes.getD t []).getD (x1 : Int32).toNatClampNeg 0) &&& 255) : Int32).toUInt32 % 65536).toInt32) = true then some (((((((it_bytes.getD t []).getD (x1 : Int32).toNatClampNeg 0) &&& 255) : Int32).toUInt32 % 65536).toInt32), S1) else none
else none)
set_option maxHeartbeats 4000000 in
set_option maxRecDepth 100000 in
theorem L_J1_charAt_3b067 {g : it_G} {l : Launch} {κ : it_KK} {t : Nat} {x1 : Int32} (h3 : t < 3) {S : it_SS} {P : Int32 → it_SS → Prop} (h : it_ok (f_J1_charAt_3b067 κ t x1 S) P) : it_Cn g l 3 it_m_J1_charAt_3b067 [.retAddr (4 + t), .int x1] κ S (it_pi κ P) := by
  refine it_Cn.of (by decide +kernel) (Nat.le_of_ble_eq_true rfl) ?_
  rw [f_J1_charAt_3b067] at h
  show it_Ev g l 3 it_m_J1_charAt_3b067 0 0 0 [some (.retAddr (4 + t)), some (.int x1)] [] κ S (it_pi κ P)
  refine ev_iload_n d_J1_charAt_3b067_0 rfl ?_
  refine ev_aload_nO d_J1_charAt_3b067_1 rfl ?_
  refine ev_blen h3 d_J1_charAt_3b067_2 ?_
  refine ev_callS (M' := it_m_J0_checkIndex_df160) (d' := 2) (As := [.int x1, .int (Int32.ofNat (it_lens.getD t 0))]) d_J1_charAt_3b067_3 ml_java_lang_StringLatin1_9 rfl rfl (Nat.le_of_ble_eq_true rfl) (by decide) (by decide) (by decide) (L_J0_checkIndex_df160  (it_ok_b h)) (fun _ _ _ _ q => by cases q.1; rfl) ?_
  rintro _ _ S1 ⟨rfl, rfl, h⟩
  show it_Ev g l 3 it_m_J1_charAt_3b067 0 0 6 [some (.retAddr (4 + t)), some (.int x1)] [] κ S1 (it_pi κ P)
  refine ev_aload_nO d_J1_charAt_3b067_6 rfl ?_
  refine ev_iload_n d_J1_charAt_3b067_7 rfl ?_
  obtain ⟨hb3, h⟩ := it_ok_g h
  refine ev_bald h3 d_J1_charAt_3b067_8 (it_bd_in hb3) ?_
  refine ev_sipush d_J1_charAt_3b067_9 kv_sipush_255 ?_
  refine ev_iand d_J1_charAt_3b067_12 ?_
  refine ev_i2c d_J1_charAt_3b067_13 ?_
  obtain ⟨hz4, h⟩ := it_ok_g h
  exact ev_ret (v := some (.int _)) ⟨d_J1_charAt_3b067_14, _, rfl, it_bc_n hz4⟩ (by decide) (by decide) ⟨rfl, _, rfl, it_ok_r h⟩
theorem d_J0_charAt_5068e_0 : decode prog_13_method_56_code 0 = .ok (.aload_n 0, 1) := by decide +kernel
theorem d_J0_charAt_5068e_1 : decode prog_13_method_56_code 1 = .ok (.invokevirtual 492, 3) := by decide +kernel
theorem d_J0_charAt_5068e_4 : decode prog_13_method_56_code 4 = .ok (.ifCond .eq 12, 3) := by decide +kernel
theorem d_J0_charAt_5068e_7 : decode prog_13_method_56_code 7 = .ok (.aload_n 0, 1) := by decide +kernel
theorem d_J0_charAt_5068e_8 : decode prog_13_method_56_code 8 = .ok (.getfield 9, 3) := by decide +kernel
theorem d_J0_charAt_5068e_11 : decode prog_13_method_56_code 11 = .ok (.iload_n 1, 1) := by decide +kernel
theorem d_J0_charAt_5068e_12 : decode prog_13_method_56_code 12 = .ok (.invokestatic 495, 3) := by decide +kernel
theorem d_J0_charAt_5068e_15 : decode prog_13_method_56_code 15 = .ok (.ireturn, 1) := by decide +kernel
theorem d_J0_charAt_5068e_16 : decode prog_13_method_56_code 16 = .ok (.aload_n 0, 1) := by decide +kernel
theorem d_J0_charAt_5068e_17 : decode prog_13_method_56_code 17 = .ok (.getfield 9, 3) := by decide +kernel
theorem d_J0_charAt_5068e_20 : decode prog_13_method_56_code 20 = .ok (.iload_n 1, 1) := by decide +kernel
theorem d_J0_charAt_5068e_21 : decode prog_13_method_56_code 21 = .ok (.invokestatic 498, 3) := by decide +kernel
theorem d_J0_charAt_5068e_24 : decode prog_13_method_56_code 24 = .ok (.ireturn, 1) := by decide +kernel
def f_J0_charAt_5068e (κ : it_KK) (t : Nat) (x1 : Int32) (S : it_SS) : Option (Int32 × it_SS) :=
it_bi (f_J0_isLatin1_aae02 κ t S) (fun r2 S1 =>
if r2 = 0 then
none
else
it_bi (f_J1_charAt_3b067 κ t x1 S1) (fun r5 S4 =>
if it_bc r5 = true then some (r5, S4) else none))
set_option maxHeartbeats 4000000 in
set_option maxRecDepth 100000 in
theorem L_J0_charAt_5068e {g : it_G} {l : Launch} {κ : it_KK} {t : Nat} {x1 : Int32} (h3 : t < 3) {S : it_SS} {P : Int32 → it_SS → Prop} (h : it_ok (f_J0_charAt_5068e κ t x1 S) P) : it_Cn g l 4 it_m_J0_charAt_5068e [.retAddr (1 + t), .int x1] κ S (it_pi κ P) := by
  refine it_Cn.of (by decide +kernel) (Nat.le_of_ble_eq_true rfl) ?_
  rw [f_J0_charAt_5068e] at h
  show it_Ev g l 4 it_m_J0_charAt_5068e 0 0 0 [some (.retAddr (1 + t)), some (.int x1)] [] κ S (it_pi κ P)
  refine ev_aload_nO d_J0_charAt_5068e_0 rfl ?_
  refine ev_callO (t := t) (M' := it_m_J0_isLatin1_aae02) (d' := 1) (As := []) h3 d_J0_charAt_5068e_1 ml_java_lang_String_492 rfl rfl rfl (Nat.le_of_ble_eq_true rfl) (by decide) (by decide) (by decide) (L_J0_isLatin1_aae02 h3 (it_ok_b h)) (fun _ _ _ _ q => by cases q.1; rfl) ?_
  rintro _ _ S1 ⟨rfl, r2, rfl, h⟩
  show it_Ev g l 4 it_m_J0_charAt_5068e 0 0 4 [some (.retAddr (1 + t)), some (.int x1)] [.int r2] κ S1 (it_pi κ P)
  refine ev_if_eq (tgt := 16) d_J0_charAt_5068e_4 (by decide) (fun hc3 => ?_) (fun hc3 => ?_)
  · have h := it_ok_t h hc3
    refine ev_aload_nO d_J0_charAt_5068e_16 rfl ?_
    refine ev_value h3 d_J0_charAt_5068e_17 (it_in_tb (List.mem_of_getElem? (i := 1233) (by decide +kernel)) rfl) ?_
    refine ev_iload_n d_J0_charAt_5068e_20 rfl ?_
    exact (it_ok_n h).elim
  · have h := it_ok_f h hc3
    refine ev_aload_nO d_J0_charAt_5068e_7 rfl ?_
    refine ev_value h3 d_J0_charAt_5068e_8 (it_in_tb (List.mem_of_getElem? (i := 1233) (by decide +kernel)) rfl) ?_
    refine ev_iload_n d_J0_charAt_5068e_11 rfl ?_
    refine ev_callS (M' := it_m_J1_charAt_3b067) (d' := 3) (As := [.retAddr (4 + t), .int x1]) d_J0_charAt_5068e_12 ml_java_lang_String_495 rfl rfl (Nat.le_of_ble_eq_true rfl) (by decide) (by decide) (by decide) (L_J1_charAt_3b067 h3 (it_ok_b h)) (fun _ _ _ _ q => by cases q.1; rfl) ?_
    rintro _ _ S4 ⟨rfl, r5, rfl, h⟩
    show it_Ev g l 4 it_m_J0_charAt_5068e 0 0 15 [some (.retAddr (1 + t)), some (.int x1)] [.int r5] κ S4 (it_pi κ P)
    obtain ⟨hz6, h⟩ := it_ok_g h
    exact ev_ret (v := some (.int _)) ⟨d_J0_charAt_5068e_15, _, rfl, it_bc_n hz6⟩ (by decide) (by decide) ⟨rfl, _, rfl, it_ok_r h⟩
theorem d_J1_canEncode_9a6ad_0 : decode prog_14_method_4_code 0 = .ok (.iload_n 0, 1) := by decide +kernel
theorem d_J1_canEncode_9a6ad_1 : decode prog_14_method_4_code 1 = .ok (.ifCond .lt 14, 3) := by decide +kernel
theorem d_J1_canEncode_9a6ad_4 : decode prog_14_method_4_code 4 = .ok (.iload_n 0, 1) := by decide +kernel
theorem d_J1_canEncode_9a6ad_5 : decode prog_14_method_4_code 5 = .ok (.sipush 255, 3) := by decide +kernel
theorem d_J1_canEncode_9a6ad_8 : decode prog_14_method_4_code 8 = .ok (.if_icmp .gt 7, 3) := by decide +kernel
theorem d_J1_canEncode_9a6ad_11 : decode prog_14_method_4_code 11 = .ok (.iconst 1, 1) := by decide +kernel
theorem d_J1_canEncode_9a6ad_12 : decode prog_14_method_4_code 12 = .ok (.goto 4, 3) := by decide +kernel
theorem d_J1_canEncode_9a6ad_15 : decode prog_14_method_4_code 15 = .ok (.iconst 0, 1) := by decide +kernel
theorem d_J1_canEncode_9a6ad_16 : decode prog_14_method_4_code 16 = .ok (.ireturn, 1) := by decide +kernel
def f_J1_canEncode_9a6ad (κ : it_KK) (x0 : Int32) (S : it_SS) : Option (Int32 × it_SS) :=
if x0 < 0 then
some (0, S)
else
if 255 < x0 then
some (0, S)
else
some (1, S)
set_option maxHeartbeats 4000000 in
set_option maxRecDepth 100000 in
theorem L_J1_canEncode_9a6ad {g : it_G} {l : Launch} {κ : it_KK} {x0 : Int32} {S : it_SS} {P : Int32 → it_SS → Prop} (h : it_ok (f_J1_canEncode_9a6ad κ x0 S) P) : it_Cn g l 1 it_m_J1_canEncode_9a6ad [.int x0] κ S (it_pi κ P) := by
  refine it_Cn.of (by decide +kernel) (Nat.le_of_ble_eq_true rfl) ?_
  rw [f_J1_canEncode_9a6ad] at h
  show it_Ev g l 1 it_m_J1_canEncode_9a6ad 0 0 0 [some (.int x0)] [] κ S (it_pi κ P)
  refine ev_iload_n d_J1_canEncode_9a6ad_0 rfl ?_
  refine ev_if_lt (tgt := 15) d_J1_canEncode_9a6ad_1 (by decide) (fun hc1 => ?_) (fun hc1 => ?_)
  · have h := it_ok_t h hc1
    refine ev_iconst d_J1_canEncode_9a6ad_15 kv_iconst_0 ?_
    exact ev_ret (v := some (.int _)) ⟨d_J1_canEncode_9a6ad_16, _, rfl, rfl⟩ (by decide) (by decide) ⟨rfl, _, rfl, it_ok_r h⟩
  · have h := it_ok_f h hc1
    refine ev_iload_n d_J1_canEncode_9a6ad_4 rfl ?_
    refine ev_sipush d_J1_canEncode_9a6ad_5 kv_sipush_255 ?_
    refine ev_icmp_gt (tgt := 15) d_J1_canEncode_9a6ad_8 (by decide) (fun hc2 => ?_) (fun hc2 => ?_)
    · have h := it_ok_t h hc2
      refine ev_iconst d_J1_canEncode_9a6ad_15 kv_iconst_0 ?_
      exact ev_ret (v := some (.int _)) ⟨d_J1_canEncode_9a6ad_16, _, rfl, rfl⟩ (by decide) (by decide) ⟨rfl, _, rfl, it_ok_r h⟩
    · have h := it_ok_f h hc2
      refine ev_iconst d_J1_canEncode_9a6ad_11 kv_iconst_1 ?_
      refine ev_goto (tgt := 16) d_J1_canEncode_9a6ad_12 (by decide) ?_
      exact ev_ret (v := some (.int _)) ⟨d_J1_canEncode_9a6ad_16, _, rfl, rfl⟩ (by decide) (by decide) ⟨rfl, _, rfl, it_ok_r h⟩
theorem d_J1_indexOfChar_4cfef_0 : decode prog_14_method_23_code 0 = .ok (.iload_n 1, 1) := by decide +kernel
theorem d_J1_indexOfChar_4cfef_1 : decode prog_14_method_23_code 1 = .ok (.i2b, 1) := by decide +kernel
theorem d_J1_indexOfChar_4cfef_2 : decode prog_14_method_23_code 2 = .ok (.istore 4, 2) := by decide +kernel
theorem d_J1_indexOfChar_4cfef_4 : decode prog_14_method_23_code 4 = .ok (.iload_n 2, 1) := by decide +kernel
theorem d_J1_indexOfChar_4cfef_5 : decode prog_14_method_23_code 5 = .ok (.istore 5, 2) := by decide +kernel
theorem d_J1_indexOfChar_4cfef_7 : decode prog_14_method_23_code 7 = .ok (.iload 5, 2) := by decide +kernel
theorem d_J1_indexOfChar_4cfef_9 : decode prog_14_method_23_code 9 = .ok (.iload_n 3, 1) := by decide +kernel
theorem d_J1_indexOfChar_4cfef_10 : decode prog_14_method_23_code 10 = .ok (.if_icmp .ge 21, 3) := by decide +kernel
theorem d_J1_indexOfChar_4cfef_13 : decode prog_14_method_23_code 13 = .ok (.aload_n 0, 1) := by decide +kernel
theorem d_J1_indexOfChar_4cfef_14 : decode prog_14_method_23_code 14 = .ok (.iload 5, 2) := by decide +kernel
theorem d_J1_indexOfChar_4cfef_16 : decode prog_14_method_23_code 16 = .ok (.baload, 1) := by decide +kernel
theorem d_J1_indexOfChar_4cfef_17 : decode prog_14_method_23_code 17 = .ok (.iload 4, 2) := by decide +kernel
theorem d_J1_indexOfChar_4cfef_19 : decode prog_14_method_23_code 19 = .ok (.if_icmp .ne 6, 3) := by decide +kernel
theorem d_J1_indexOfChar_4cfef_22 : decode prog_14_method_23_code 22 = .ok (.iload 5, 2) := by decide +kernel
theorem d_J1_indexOfChar_4cfef_24 : decode prog_14_method_23_code 24 = .ok (.ireturn, 1) := by decide +kernel
theorem d_J1_indexOfChar_4cfef_25 : decode prog_14_method_23_code 25 = .ok (.iinc 5 1, 3) := by decide +kernel
theorem d_J1_indexOfChar_4cfef_28 : decode prog_14_method_23_code 28 = .ok (.goto (-21), 3) := by decide +kernel
theorem d_J1_indexOfChar_4cfef_31 : decode prog_14_method_23_code 31 = .ok (.iconst (-1), 1) := by decide +kernel
theorem d_J1_indexOfChar_4cfef_32 : decode prog_14_method_23_code 32 = .ok (.ireturn, 1) := by decide +kernel
def lp_J1_indexOfChar_4cfef_7 (κ : it_KK) (t : Nat) (x1 : Int32) (x2 : Int32) (x3 : Int32) (k7 : (it_SS → Option (Int32 × it_SS))) : Nat → Int32 → Int32 → it_SS → Option (Int32 × it_SS)
  | 0, _, _, _ => none
  | n7 + 1, v4, v5, S => if x3 ≤ v5 then
k7  S
else
if it_bd v5 (it_lens.getD t 0) = true then
if ((it_bytes.getD t []).getD (v5 : Int32).toNatClampNeg 0) = v4 then
some (v5, S)
else
lp_J1_indexOfChar_4cfef_7 κ t x1 x2 x3 k7 n7 v4 (v5 + 1) S
else none
def f_J1_indexOfChar_4cfef (κ : it_KK) (t : Nat) (x1 : Int32) (x2 : Int32) (x3 : Int32) (S : it_SS) : Option (Int32 × it_SS) :=
lp_J1_indexOfChar_4cfef_7 κ t x1 x2 x3 (fun  S4 =>
some ((-1), S4)) it_FU ((x1 : Int32).toInt8.toInt32) x2 S
set_option maxHeartbeats 4000000 in
set_option maxRecDepth 100000 in
theorem Llp_J1_indexOfChar_4cfef_7 {g : it_G} {l : Launch} {κ : it_KK} {t : Nat} {x1 : Int32} {x2 : Int32} {x3 : Int32} (h3 : t < 3) {P : Int32 → it_SS → Prop} {k7 : (it_SS → Option (Int32 × it_SS))} (hk7 : ∀  (S : it_SS), it_ok (k7  S) P → it_Ev g l 1 it_m_J1_indexOfChar_4cfef 0 0 31 [none, none, none, none, none, none] [] κ S (it_pi κ P)) : ∀ (n : Nat) (v4 : Int32) (v5 : Int32) (S : it_SS), it_ok (lp_J1_indexOfChar_4cfef_7 κ t x1 x2 x3 k7 n v4 v5 S) P → it_Ev g l 1 it_m_J1_indexOfChar_4cfef 0 0 7 [some (.retAddr (4 + t)), none, none, some (.int x3), some (.int v4), some (.int v5)] [] κ S (it_pi κ P) := by
  intro n
  induction n with
  | zero =>
    intro _ _ _ h
    exact (it_ok_n h).elim
  | succ n7 ih7 =>
    intro v4 v5 S h
    rw [lp_J1_indexOfChar_4cfef_7] at h
    refine ev_iload d_J1_indexOfChar_4cfef_7 rfl ?_
    refine ev_iload_n d_J1_indexOfChar_4cfef_9 rfl ?_
    refine ev_icmp_ge (tgt := 31) d_J1_indexOfChar_4cfef_10 (by decide) (fun hc1 => ?_) (fun hc1 => ?_)
    · have h := it_ok_t h hc1
      refine ev_keep [false, false, false, false, false, false] ?_
      exact hk7  _ h
    · have h := it_ok_f h hc1
      refine ev_aload_nO d_J1_indexOfChar_4cfef_13 rfl ?_
      refine ev_iload d_J1_indexOfChar_4cfef_14 rfl ?_
      obtain ⟨hb2, h⟩ := it_ok_g h
      refine ev_bald h3 d_J1_indexOfChar_4cfef_16 (it_bd_in hb2) ?_
      refine ev_iload d_J1_indexOfChar_4cfef_17 rfl ?_
      refine ev_icmp_ne (tgt := 25) d_J1_indexOfChar_4cfef_19 (by decide) (fun hc3 => ?_) (fun hc3 => ?_)
      · have h := it_ok_f h hc3
        refine ev_iinc d_J1_indexOfChar_4cfef_25 kv_iconst_1 rfl (by decide) ?_
        show it_Ev g l 1 it_m_J1_indexOfChar_4cfef 0 0 28 [some (.retAddr (4 + t)), none, none, some (.int x3), some (.int v4), some (.int (v5 + 1))] [] κ S (it_pi κ P)
        refine ev_goto (tgt := 7) d_J1_indexOfChar_4cfef_28 (by decide) ?_
        refine ev_keep [true, false, false, true, true, true] ?_
        exact ih7 _ _ _ h
      · have h := it_ok_t h hc3
        refine ev_iload d_J1_indexOfChar_4cfef_22 rfl ?_
        exact ev_ret (v := some (.int _)) ⟨d_J1_indexOfChar_4cfef_24, _, rfl, rfl⟩ (by decide) (by decide) ⟨rfl, _, rfl, it_ok_r h⟩
set_option maxHeartbeats 4000000 in
set_option maxRecDepth 100000 in
theorem L_J1_indexOfChar_4cfef {g : it_G} {l : Launch} {κ : it_KK} {t : Nat} {x1 : Int32} {x2 : Int32} {x3 : Int32} (h3 : t < 3) {S : it_SS} {P : Int32 → it_SS → Prop} (h : it_ok (f_J1_indexOfChar_4cfef κ t x1 x2 x3 S) P) : it_Cn g l 1 it_m_J1_indexOfChar_4cfef [.retAddr (4 + t), .int x1, .int x2, .int x3] κ S (it_pi κ P) := by
  refine it_Cn.of (by decide +kernel) (Nat.le_of_ble_eq_true rfl) ?_
  rw [f_J1_indexOfChar_4cfef] at h
  show it_Ev g l 1 it_m_J1_indexOfChar_4cfef 0 0 0 [some (.retAddr (4 + t)), some (.int x1), some (.int x2), some (.int x3), none, none] [] κ S (it_pi κ P)
  refine ev_iload_n d_J1_indexOfChar_4cfef_0 rfl ?_
  refine ev_i2b d_J1_indexOfChar_4cfef_1 ?_
  refine ev_istore d_J1_indexOfChar_4cfef_2 (by decide) ?_
  show it_Ev g l 1 it_m_J1_indexOfChar_4cfef 0 0 4 [some (.retAddr (4 + t)), some (.int x1), some (.int x2), some (.int x3), some (.int ((x1 : Int32).toInt8.toInt32)), none] [] κ S (it_pi κ P)
  refine ev_iload_n d_J1_indexOfChar_4cfef_4 rfl ?_
  refine ev_istore d_J1_indexOfChar_4cfef_5 (by decide) ?_
  show it_Ev g l 1 it_m_J1_indexOfChar_4cfef 0 0 7 [some (.retAddr (4 + t)), some (.int x1), some (.int x2), some (.int x3), some (.int ((x1 : Int32).toInt8.toInt32)), some (.int x2)] [] κ S (it_pi κ P)
  refine ev_keep [true, false, false, true, true, true] ?_
  refine Llp_J1_indexOfChar_4cfef_7 h3 (fun  S4 h => ?_) _ _ _ _ h
  show it_Ev g l 1 it_m_J1_indexOfChar_4cfef 0 0 31 [none, none, none, none, none, none] [] κ S4 (it_pi κ P)
  refine ev_iconst d_J1_indexOfChar_4cfef_31 kv_iconst_m1 ?_
  exact ev_ret (v := some (.int _)) ⟨d_J1_indexOfChar_4cfef_32, _, rfl, rfl⟩ (by decide) (by decide) ⟨rfl, _, rfl, it_ok_r h⟩
theorem d_J1_indexOf_4cfef_0 : decode prog_14_method_22_code 0 = .ok (.iload_n 1, 1) := by decide +kernel
theorem d_J1_indexOf_4cfef_1 : decode prog_14_method_22_code 1 = .ok (.invokestatic 88, 3) := by decide +kernel
theorem d_J1_indexOf_4cfef_4 : decode prog_14_method_22_code 4 = .ok (.ifCond .ne 5, 3) := by decide +kernel
theorem d_J1_indexOf_4cfef_7 : decode prog_14_method_22_code 7 = .ok (.iconst (-1), 1) := by decide +kernel
theorem d_J1_indexOf_4cfef_8 : decode prog_14_method_22_code 8 = .ok (.ireturn, 1) := by decide +kernel
theorem d_J1_indexOf_4cfef_9 : decode prog_14_method_22_code 9 = .ok (.iload_n 2, 1) := by decide +kernel
theorem d_J1_indexOf_4cfef_10 : decode prog_14_method_22_code 10 = .ok (.iconst 0, 1) := by decide +kernel
theorem d_J1_indexOf_4cfef_11 : decode prog_14_method_22_code 11 = .ok (.invokestatic 92, 3) := by decide +kernel
theorem d_J1_indexOf_4cfef_14 : decode prog_14_method_22_code 14 = .ok (.istore_n 2, 1) := by decide +kernel
theorem d_J1_indexOf_4cfef_15 : decode prog_14_method_22_code 15 = .ok (.iload_n 3, 1) := by decide +kernel
theorem d_J1_indexOf_4cfef_16 : decode prog_14_method_22_code 16 = .ok (.aload_n 0, 1) := by decide +kernel
theorem d_J1_indexOf_4cfef_17 : decode prog_14_method_22_code 17 = .ok (.arraylength, 1) := by decide +kernel
theorem d_J1_indexOf_4cfef_18 : decode prog_14_method_22_code 18 = .ok (.invokestatic 38, 3) := by decide +kernel
theorem d_J1_indexOf_4cfef_21 : decode prog_14_method_22_code 21 = .ok (.istore_n 3, 1) := by decide +kernel
theorem d_J1_indexOf_4cfef_22 : decode prog_14_method_22_code 22 = .ok (.iload_n 2, 1) := by decide +kernel
theorem d_J1_indexOf_4cfef_23 : decode prog_14_method_22_code 23 = .ok (.iload_n 3, 1) := by decide +kernel
theorem d_J1_indexOf_4cfef_24 : decode prog_14_method_22_code 24 = .ok (.if_icmp .lt 5, 3) := by decide +kernel
theorem d_J1_indexOf_4cfef_27 : decode prog_14_method_22_code 27 = .ok (.iconst (-1), 1) := by decide +kernel
theorem d_J1_indexOf_4cfef_28 : decode prog_14_method_22_code 28 = .ok (.ireturn, 1) := by decide +kernel
theorem d_J1_indexOf_4cfef_29 : decode prog_14_method_22_code 29 = .ok (.aload_n 0, 1) := by decide +kernel
theorem d_J1_indexOf_4cfef_30 : decode prog_14_method_22_code 30 = .ok (.iload_n 1, 1) := by decide +kernel
theorem d_J1_indexOf_4cfef_31 : decode prog_14_method_22_code 31 = .ok (.iload_n 2, 1) := by decide +kernel
theorem d_J1_indexOf_4cfef_32 : decode prog_14_method_22_code 32 = .ok (.iload_n 3, 1) := by decide +kernel
theorem d_J1_indexOf_4cfef_33 : decode prog_14_method_22_code 33 = .ok (.invokestatic 95, 3) := by decide +kernel
theorem d_J1_indexOf_4cfef_36 : decode prog_14_method_22_code 36 = .ok (.ireturn, 1) := by decide +kernel
def f_J1_indexOf_4cfef (κ : it_KK) (t : Nat) (x1 : Int32) (x2 : Int32) (x3 : Int32) (S : it_SS) : Option (Int32 × it_SS) :=
it_bi (f_J1_canEncode_9a6ad κ x1 S) (fun r2 S1 =>
if r2 = 0 then
some ((-1), S1)
else
if (if x2 < 0 then 0 else x2) < (if (Int32.ofNat (it_lens.getD t 0)) < x3 then (Int32.ofNat (it_lens.getD t 0)) else x3) then
it_bi (f_J1_indexOfChar_4cfef κ t x1 (if x2 < 0 then 0 else x2) (if (Int32.ofNat (it_lens.getD t 0)) < x3 then (Int32.ofNat (it_lens.getD t 0)) else x3) S1) (fun r6 S5 =>
some (r6, S5))
else
some ((-1), S1))
set_option maxHeartbeats 4000000 in
set_option maxRecDepth 100000 in
theorem L_J1_indexOf_4cfef {g : it_G} {l : Launch} {κ : it_KK} {t : Nat} {x1 : Int32} {x2 : Int32} {x3 : Int32} (h3 : t < 3) {S : it_SS} {P : Int32 → it_SS → Prop} (h : it_ok (f_J1_indexOf_4cfef κ t x1 x2 x3 S) P) : it_Cn g l 2 it_m_J1_indexOf_4cfef [.retAddr (4 + t), .int x1, .int x2, .int x3] κ S (it_pi κ P) := by
  refine it_Cn.of (by decide +kernel) (Nat.le_of_ble_eq_true rfl) ?_
  rw [f_J1_indexOf_4cfef] at h
  show it_Ev g l 2 it_m_J1_indexOf_4cfef 0 0 0 [some (.retAddr (4 + t)), some (.int x1), some (.int x2), some (.int x3)] [] κ S (it_pi κ P)
  refine ev_iload_n d_J1_indexOf_4cfef_0 rfl ?_
  refine ev_callS (M' := it_m_J1_canEncode_9a6ad) (d' := 1) (As := [.int x1]) d_J1_indexOf_4cfef_1 ml_java_lang_StringLatin1_88 rfl rfl (Nat.le_of_ble_eq_true rfl) (by decide) (by decide) (by decide) (L_J1_canEncode_9a6ad  (it_ok_b h)) (fun _ _ _ _ q => by cases q.1; rfl) ?_
  rintro _ _ S1 ⟨rfl, r2, rfl, h⟩
  show it_Ev g l 2 it_m_J1_indexOf_4cfef 0 0 4 [some (.retAddr (4 + t)), some (.int x1), some (.int x2), some (.int x3)] [.int r2] κ S1 (it_pi κ P)
  refine ev_if_ne (tgt := 9) d_J1_indexOf_4cfef_4 (by decide) (fun hc3 => ?_) (fun hc3 => ?_)
  · have h := it_ok_f h hc3
    refine ev_iload_n d_J1_indexOf_4cfef_9 rfl ?_
    refine ev_iconst d_J1_indexOf_4cfef_10 kv_iconst_0 ?_
    refine ev_mmax d_J1_indexOf_4cfef_11 mp_java_lang_StringLatin1_92 (by decide) (Nat.le_of_ble_eq_true rfl) (by decide) (by decide) ?_
    refine ev_istore_n d_J1_indexOf_4cfef_14 (by decide) ?_
    show it_Ev g l 2 it_m_J1_indexOf_4cfef 0 0 15 [some (.retAddr (4 + t)), some (.int x1), some (.int (if x2 < 0 then 0 else x2)), some (.int x3)] [] κ S1 (it_pi κ P)
    refine ev_iload_n d_J1_indexOf_4cfef_15 rfl ?_
    refine ev_aload_nO d_J1_indexOf_4cfef_16 rfl ?_
    refine ev_blen h3 d_J1_indexOf_4cfef_17 ?_
    refine ev_mmin d_J1_indexOf_4cfef_18 mp_java_lang_StringLatin1_38 (by decide) (Nat.le_of_ble_eq_true rfl) (by decide) (by decide) ?_
    refine ev_istore_n d_J1_indexOf_4cfef_21 (by decide) ?_
    show it_Ev g l 2 it_m_J1_indexOf_4cfef 0 0 22 [some (.retAddr (4 + t)), some (.int x1), some (.int (if x2 < 0 then 0 else x2)), some (.int (if (Int32.ofNat (it_lens.getD t 0)) < x3 then (Int32.ofNat (it_lens.getD t 0)) else x3))] [] κ S1 (it_pi κ P)
    refine ev_iload_n d_J1_indexOf_4cfef_22 rfl ?_
    refine ev_iload_n d_J1_indexOf_4cfef_23 rfl ?_
    refine ev_icmp_lt (tgt := 29) d_J1_indexOf_4cfef_24 (by decide) (fun hc4 => ?_) (fun hc4 => ?_)
    · have h := it_ok_t h hc4
      refine ev_aload_nO d_J1_indexOf_4cfef_29 rfl ?_
      refine ev_iload_n d_J1_indexOf_4cfef_30 rfl ?_
      refine ev_iload_n d_J1_indexOf_4cfef_31 rfl ?_
      refine ev_iload_n d_J1_indexOf_4cfef_32 rfl ?_
      refine ev_callS (M' := it_m_J1_indexOfChar_4cfef) (d' := 1) (As := [.retAddr (4 + t), .int x1, .int (if x2 < 0 then 0 else x2), .int (if (Int32.ofNat (it_lens.getD t 0)) < x3 then (Int32.ofNat (it_lens.getD t 0)) else x3)]) d_J1_indexOf_4cfef_33 ml_java_lang_StringLatin1_95 rfl rfl (Nat.le_of_ble_eq_true rfl) (by decide) (by decide) (by decide) (L_J1_indexOfChar_4cfef h3 (it_ok_b h)) (fun _ _ _ _ q => by cases q.1; rfl) ?_
      rintro _ _ S5 ⟨rfl, r6, rfl, h⟩
      show it_Ev g l 2 it_m_J1_indexOf_4cfef 0 0 36 [some (.retAddr (4 + t)), some (.int x1), some (.int (if x2 < 0 then 0 else x2)), some (.int (if (Int32.ofNat (it_lens.getD t 0)) < x3 then (Int32.ofNat (it_lens.getD t 0)) else x3))] [.int r6] κ S5 (it_pi κ P)
      exact ev_ret (v := some (.int _)) ⟨d_J1_indexOf_4cfef_36, _, rfl, rfl⟩ (by decide) (by decide) ⟨rfl, _, rfl, it_ok_r h⟩
    · have h := it_ok_f h hc4
      refine ev_iconst d_J1_indexOf_4cfef_27 kv_iconst_m1 ?_
      exact ev_ret (v := some (.int _)) ⟨d_J1_indexOf_4cfef_28, _, rfl, rfl⟩ (by decide) (by decide) ⟨rfl, _, rfl, it_ok_r h⟩
  · have h := it_ok_t h hc3
    refine ev_iconst d_J1_indexOf_4cfef_7 kv_iconst_m1 ?_
    exact ev_ret (v := some (.int _)) ⟨d_J1_indexOf_4cfef_8, _, rfl, rfl⟩ (by decide) (by decide) ⟨rfl, _, rfl, it_ok_r h⟩
theorem d_J0_indexOf_7cf53_0 : decode prog_13_method_80_code 0 = .ok (.aload_n 0, 1) := by decide +kernel
theorem d_J0_indexOf_7cf53_1 : decode prog_13_method_80_code 1 = .ok (.invokevirtual 492, 3) := by decide +kernel
theorem d_J0_indexOf_7cf53_4 : decode prog_13_method_80_code 4 = .ok (.ifCond .eq 19, 3) := by decide +kernel
theorem d_J0_indexOf_7cf53_7 : decode prog_13_method_80_code 7 = .ok (.aload_n 0, 1) := by decide +kernel
theorem d_J0_indexOf_7cf53_8 : decode prog_13_method_80_code 8 = .ok (.getfield 9, 3) := by decide +kernel
theorem d_J0_indexOf_7cf53_11 : decode prog_13_method_80_code 11 = .ok (.iload_n 1, 1) := by decide +kernel
theorem d_J0_indexOf_7cf53_12 : decode prog_13_method_80_code 12 = .ok (.iload_n 2, 1) := by decide +kernel
theorem d_J0_indexOf_7cf53_13 : decode prog_13_method_80_code 13 = .ok (.aload_n 0, 1) := by decide +kernel
theorem d_J0_indexOf_7cf53_14 : decode prog_13_method_80_code 14 = .ok (.invokevirtual 505, 3) := by decide +kernel
theorem d_J0_indexOf_7cf53_17 : decode prog_13_method_80_code 17 = .ok (.invokestatic 637, 3) := by decide +kernel
theorem d_J0_indexOf_7cf53_20 : decode prog_13_method_80_code 20 = .ok (.goto 16, 3) := by decide +kernel
theorem d_J0_indexOf_7cf53_23 : decode prog_13_method_80_code 23 = .ok (.aload_n 0, 1) := by decide +kernel
theorem d_J0_indexOf_7cf53_24 : decode prog_13_method_80_code 24 = .ok (.getfield 9, 3) := by decide +kernel
theorem d_J0_indexOf_7cf53_27 : decode prog_13_method_80_code 27 = .ok (.iload_n 1, 1) := by decide +kernel
theorem d_J0_indexOf_7cf53_28 : decode prog_13_method_80_code 28 = .ok (.iload_n 2, 1) := by decide +kernel
theorem d_J0_indexOf_7cf53_29 : decode prog_13_method_80_code 29 = .ok (.aload_n 0, 1) := by decide +kernel
theorem d_J0_indexOf_7cf53_30 : decode prog_13_method_80_code 30 = .ok (.invokevirtual 505, 3) := by decide +kernel
theorem d_J0_indexOf_7cf53_33 : decode prog_13_method_80_code 33 = .ok (.invokestatic 640, 3) := by decide +kernel
theorem d_J0_indexOf_7cf53_36 : decode prog_13_method_80_code 36 = .ok (.ireturn, 1) := by decide +kernel
def f_J0_indexOf_7cf53 (κ : it_KK) (t : Nat) (x1 : Int32) (x2 : Int32) (S : it_SS) : Option (Int32 × it_SS) :=
it_bi (f_J0_isLatin1_aae02 κ t S) (fun r2 S1 =>
if r2 = 0 then
it_bi (f_J0_length_8abf5 κ t S1) (fun r5 S4 =>
none)
else
it_bi (f_J0_length_8abf5 κ t S1) (fun r7 S6 =>
it_bi (f_J1_indexOf_4cfef κ t x1 x2 r7 S6) (fun r9 S8 =>
some (r9, S8))))
set_option maxHeartbeats 4000000 in
set_option maxRecDepth 100000 in
theorem L_J0_indexOf_7cf53 {g : it_G} {l : Launch} {κ : it_KK} {t : Nat} {x1 : Int32} {x2 : Int32} (h3 : t < 3) {S : it_SS} {P : Int32 → it_SS → Prop} (h : it_ok (f_J0_indexOf_7cf53 κ t x1 x2 S) P) : it_Cn g l 3 it_m_J0_indexOf_7cf53 [.retAddr (1 + t), .int x1, .int x2] κ S (it_pi κ P) := by
  refine it_Cn.of (by decide +kernel) (Nat.le_of_ble_eq_true rfl) ?_
  rw [f_J0_indexOf_7cf53] at h
  show it_Ev g l 3 it_m_J0_indexOf_7cf53 0 0 0 [some (.retAddr (1 + t)), some (.int x1), some (.int x2)] [] κ S (it_pi κ P)
  refine ev_aload_nO d_J0_indexOf_7cf53_0 rfl ?_
  refine ev_callO (t := t) (M' := it_m_J0_isLatin1_aae02) (d' := 1) (As := []) h3 d_J0_indexOf_7cf53_1 ml_java_lang_String_492 rfl rfl rfl (Nat.le_of_ble_eq_true rfl) (by decide) (by decide) (by decide) (L_J0_isLatin1_aae02 h3 (it_ok_b h)) (fun _ _ _ _ q => by cases q.1; rfl) ?_
  rintro _ _ S1 ⟨rfl, r2, rfl, h⟩
  show it_Ev g l 3 it_m_J0_indexOf_7cf53 0 0 4 [some (.retAddr (1 + t)), some (.int x1), some (.int x2)] [.int r2] κ S1 (it_pi κ P)
  refine ev_if_eq (tgt := 23) d_J0_indexOf_7cf53_4 (by decide) (fun hc3 => ?_) (fun hc3 => ?_)
  · have h := it_ok_t h hc3
    refine ev_aload_nO d_J0_indexOf_7cf53_23 rfl ?_
    refine ev_value h3 d_J0_indexOf_7cf53_24 (it_in_tb (List.mem_of_getElem? (i := 1233) (by decide +kernel)) rfl) ?_
    refine ev_iload_n d_J0_indexOf_7cf53_27 rfl ?_
    refine ev_iload_n d_J0_indexOf_7cf53_28 rfl ?_
    refine ev_aload_nO d_J0_indexOf_7cf53_29 rfl ?_
    refine ev_callO (t := t) (M' := it_m_J0_length_8abf5) (d' := 2) (As := []) h3 d_J0_indexOf_7cf53_30 ml_java_lang_String_505 rfl rfl rfl (Nat.le_of_ble_eq_true rfl) (by decide) (by decide) (by decide) (L_J0_length_8abf5 h3 (it_ok_b h)) (fun _ _ _ _ q => by cases q.1; rfl) ?_
    rintro _ _ S4 ⟨rfl, r5, rfl, h⟩
    show it_Ev g l 3 it_m_J0_indexOf_7cf53 0 0 33 [some (.retAddr (1 + t)), some (.int x1), some (.int x2)] [.int r5, .int x2, .int x1, .retAddr (4 + t)] κ S4 (it_pi κ P)
    exact (it_ok_n h).elim
  · have h := it_ok_f h hc3
    refine ev_aload_nO d_J0_indexOf_7cf53_7 rfl ?_
    refine ev_value h3 d_J0_indexOf_7cf53_8 (it_in_tb (List.mem_of_getElem? (i := 1233) (by decide +kernel)) rfl) ?_
    refine ev_iload_n d_J0_indexOf_7cf53_11 rfl ?_
    refine ev_iload_n d_J0_indexOf_7cf53_12 rfl ?_
    refine ev_aload_nO d_J0_indexOf_7cf53_13 rfl ?_
    refine ev_callO (t := t) (M' := it_m_J0_length_8abf5) (d' := 2) (As := []) h3 d_J0_indexOf_7cf53_14 ml_java_lang_String_505 rfl rfl rfl (Nat.le_of_ble_eq_true rfl) (by decide) (by decide) (by decide) (L_J0_length_8abf5 h3 (it_ok_b h)) (fun _ _ _ _ q => by cases q.1; rfl) ?_
    rintro _ _ S6 ⟨rfl, r7, rfl, h⟩
    show it_Ev g l 3 it_m_J0_indexOf_7cf53 0 0 17 [some (.retAddr (1 + t)), some (.int x1), some (.int x2)] [.int r7, .int x2, .int x1, .retAddr (4 + t)] κ S6 (it_pi κ P)
    refine ev_callS (M' := it_m_J1_indexOf_4cfef) (d' := 2) (As := [.retAddr (4 + t), .int x1, .int x2, .int r7]) d_J0_indexOf_7cf53_17 ml_java_lang_String_637 rfl rfl (Nat.le_of_ble_eq_true rfl) (by decide) (by decide) (by decide) (L_J1_indexOf_4cfef h3 (it_ok_b h)) (fun _ _ _ _ q => by cases q.1; rfl) ?_
    rintro _ _ S8 ⟨rfl, r9, rfl, h⟩
    show it_Ev g l 3 it_m_J0_indexOf_7cf53 0 0 20 [some (.retAddr (1 + t)), some (.int x1), some (.int x2)] [.int r9] κ S8 (it_pi κ P)
    refine ev_goto (tgt := 36) d_J0_indexOf_7cf53_20 (by decide) ?_
    exact ev_ret (v := some (.int _)) ⟨d_J0_indexOf_7cf53_36, _, rfl, rfl⟩ (by decide) (by decide) ⟨rfl, _, rfl, it_ok_r h⟩
theorem d_J0_indexOf_0f7a4_0 : decode prog_13_method_79_code 0 = .ok (.aload_n 0, 1) := by decide +kernel
theorem d_J0_indexOf_0f7a4_1 : decode prog_13_method_79_code 1 = .ok (.iload_n 1, 1) := by decide +kernel
theorem d_J0_indexOf_0f7a4_2 : decode prog_13_method_79_code 2 = .ok (.iconst 0, 1) := by decide +kernel
theorem d_J0_indexOf_0f7a4_3 : decode prog_13_method_79_code 3 = .ok (.invokevirtual 633, 3) := by decide +kernel
theorem d_J0_indexOf_0f7a4_6 : decode prog_13_method_79_code 6 = .ok (.ireturn, 1) := by decide +kernel
def f_J0_indexOf_0f7a4 (κ : it_KK) (t : Nat) (x1 : Int32) (S : it_SS) : Option (Int32 × it_SS) :=
it_bi (f_J0_indexOf_7cf53 κ t x1 0 S) (fun r2 S1 =>
some (r2, S1))
set_option maxHeartbeats 4000000 in
set_option maxRecDepth 100000 in
theorem L_J0_indexOf_0f7a4 {g : it_G} {l : Launch} {κ : it_KK} {t : Nat} {x1 : Int32} (h3 : t < 3) {S : it_SS} {P : Int32 → it_SS → Prop} (h : it_ok (f_J0_indexOf_0f7a4 κ t x1 S) P) : it_Cn g l 4 it_m_J0_indexOf_0f7a4 [.retAddr (1 + t), .int x1] κ S (it_pi κ P) := by
  refine it_Cn.of (by decide +kernel) (Nat.le_of_ble_eq_true rfl) ?_
  rw [f_J0_indexOf_0f7a4] at h
  show it_Ev g l 4 it_m_J0_indexOf_0f7a4 0 0 0 [some (.retAddr (1 + t)), some (.int x1)] [] κ S (it_pi κ P)
  refine ev_aload_nO d_J0_indexOf_0f7a4_0 rfl ?_
  refine ev_iload_n d_J0_indexOf_0f7a4_1 rfl ?_
  refine ev_iconst d_J0_indexOf_0f7a4_2 kv_iconst_0 ?_
  refine ev_callO (t := t) (M' := it_m_J0_indexOf_7cf53) (d' := 3) (As := [.int x1, .int 0]) h3 d_J0_indexOf_0f7a4_3 ml_java_lang_String_633 rfl rfl rfl (Nat.le_of_ble_eq_true rfl) (by decide) (by decide) (by decide) (L_J0_indexOf_7cf53 h3 (it_ok_b h)) (fun _ _ _ _ q => by cases q.1; rfl) ?_
  rintro _ _ S1 ⟨rfl, r2, rfl, h⟩
  show it_Ev g l 4 it_m_J0_indexOf_0f7a4 0 0 6 [some (.retAddr (1 + t)), some (.int x1)] [.int r2] κ S1 (it_pi κ P)
  exact ev_ret (v := some (.int _)) ⟨d_J0_indexOf_0f7a4_6, _, rfl, rfl⟩ (by decide) (by decide) ⟨rfl, _, rfl, it_ok_r h⟩
