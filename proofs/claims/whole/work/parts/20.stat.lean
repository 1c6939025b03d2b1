theorem d_J7_fill_53178_0 : decode prog_17_method_103_code 0 = .ok (.iconst 0, 1) := by decide +kernel
theorem d_J7_fill_53178_1 : decode prog_17_method_103_code 1 = .ok (.istore_n 2, 1) := by decide +kernel
theorem d_J7_fill_53178_2 : decode prog_17_method_103_code 2 = .ok (.aload_n 0, 1) := by decide +kernel
theorem d_J7_fill_53178_3 : decode prog_17_method_103_code 3 = .ok (.arraylength, 1) := by decide +kernel
theorem d_J7_fill_53178_4 : decode prog_17_method_103_code 4 = .ok (.istore_n 3, 1) := by decide +kernel
theorem d_J7_fill_53178_5 : decode prog_17_method_103_code 5 = .ok (.iload_n 2, 1) := by decide +kernel
theorem d_J7_fill_53178_6 : decode prog_17_method_103_code 6 = .ok (.iload_n 3, 1) := by decide +kernel
theorem d_J7_fill_53178_7 : decode prog_17_method_103_code 7 = .ok (.if_icmp .ge 13, 3) := by decide +kernel
theorem d_J7_fill_53178_10 : decode prog_17_method_103_code 10 = .ok (.aload_n 0, 1) := by decide +kernel
theorem d_J7_fill_53178_11 : decode prog_17_method_103_code 11 = .ok (.iload_n 2, 1) := by decide +kernel
theorem d_J7_fill_53178_12 : decode prog_17_method_103_code 12 = .ok (.iload_n 1, 1) := by decide +kernel
theorem d_J7_fill_53178_13 : decode prog_17_method_103_code 13 = .ok (.iastore, 1) := by decide +kernel
theorem d_J7_fill_53178_14 : decode prog_17_method_103_code 14 = .ok (.iinc 2 1, 3) := by decide +kernel
theorem d_J7_fill_53178_17 : decode prog_17_method_103_code 17 = .ok (.goto (-12), 3) := by decide +kernel
theorem d_J7_fill_53178_20 : decode prog_17_method_103_code 20 = .ok (.return_, 1) := by decide +kernel
def lp_J7_fill_53178_5 (κ : it_KK) (q : Nat) (N : Nat) (x1 : Int32) (k5 : (it_SS → Option (Unit × it_SS))) : Nat → Int32 → Int32 → it_SS → Option (Unit × it_SS)
  | 0, _, _, _ => none
  | n5 + 1, v2, v3, S => if v3 ≤ v2 then
k5  S
else
if it_bd v2 N = true then
lp_J7_fill_53178_5 κ q N x1 k5 n5 (v2 + 1) v3 (it_up S q (v2 : Int32).toNatClampNeg x1)
else none
def f_J7_fill_53178 (κ : it_KK) (q : Nat) (N : Nat) (x1 : Int32) (S : it_SS) : Option (Unit × it_SS) :=
lp_J7_fill_53178_5 κ q N x1 (fun  S3 =>
some ((), S3)) it_FU 0 (Int32.ofNat N) S
set_option maxHeartbeats 4000000 in
set_option maxRecDepth 100000 in
theorem Llp_J7_fill_53178_5 {g : it_G} {l : Launch} {κ : it_KK} {q : Nat} {N : Nat} {x1 : Int32} (hq : it_ar κ q N) {P : Unit → it_SS → Prop} {k5 : (it_SS → Option (Unit × it_SS))} (hk5 : ∀  (S : it_SS), it_ok (k5  S) P → it_Ev g l 1 it_m_J7_fill_53178 0 0 20 [none, none, none, none] [] κ S (it_pv κ P)) : ∀ (n : Nat) (v2 : Int32) (v3 : Int32) (S : it_SS), it_ok (lp_J7_fill_53178_5 κ q N x1 k5 n v2 v3 S) P → it_Ev g l 1 it_m_J7_fill_53178 0 0 5 [some (.ref q), some (.int x1), some (.int v2), some (.int v3)] [] κ S (it_pv κ P) := by
  intro n
  induction n with
  | zero =>
    intro _ _ _ h
    exact (it_ok_n h).elim
  | succ n5 ih5 =>
    intro v2 v3 S h
    rw [lp_J7_fill_53178_5] at h
    refine ev_iload_n d_J7_fill_53178_5 rfl ?_
    refine ev_iload_n d_J7_fill_53178_6 rfl ?_
    refine ev_icmp_ge (tgt := 20) d_J7_fill_53178_7 (by decide) (fun hc1 => ?_) (fun hc1 => ?_)
    · have h := it_ok_t h hc1
      refine ev_keep [false, false, false, false] ?_
      exact hk5  _ h
    · have h := it_ok_f h hc1
      refine ev_aload_n d_J7_fill_53178_10 rfl ?_
      refine ev_iload_n d_J7_fill_53178_11 rfl ?_
      refine ev_iload_n d_J7_fill_53178_12 rfl ?_
      obtain ⟨hb2, h⟩ := it_ok_g h
      refine ev_iast d_J7_fill_53178_13 (by decide) hq (it_bd_in hb2) ?_
      refine ev_iinc d_J7_fill_53178_14 kv_iconst_1 rfl (by decide) ?_
      show it_Ev g l 1 it_m_J7_fill_53178 0 0 17 [some (.ref q), some (.int x1), some (.int (v2 + 1)), some (.int v3)] [] κ (it_up S q (v2 : Int32).toNatClampNeg x1) (it_pv κ P)
      refine ev_goto (tgt := 5) d_J7_fill_53178_17 (by decide) ?_
      refine ev_keep [true, true, true, true] ?_
      exact ih5 _ _ _ h
set_option maxHeartbeats 4000000 in
set_option maxRecDepth 100000 in
theorem L_J7_fill_53178 {g : it_G} {l : Launch} {κ : it_KK} {q : Nat} {N : Nat} {x1 : Int32} (hq : it_ar κ q N) {S : it_SS} {P : Unit → it_SS → Prop} (h : it_ok (f_J7_fill_53178 κ q N x1 S) P) : it_Cn g l 1 it_m_J7_fill_53178 [.ref q, .int x1] κ S (it_pv κ P) := by
  refine it_Cn.of (by decide +kernel) (Nat.le_of_ble_eq_true rfl) ?_
  rw [f_J7_fill_53178] at h
  show it_Ev g l 1 it_m_J7_fill_53178 0 0 0 [some (.ref q), some (.int x1), none, none] [] κ S (it_pv κ P)
  refine ev_iconst d_J7_fill_53178_0 kv_iconst_0 ?_
  refine ev_istore_n d_J7_fill_53178_1 (by decide) ?_
  show it_Ev g l 1 it_m_J7_fill_53178 0 0 2 [some (.ref q), some (.int x1), some (.int 0), none] [] κ S (it_pv κ P)
  refine ev_aload_n d_J7_fill_53178_2 rfl ?_
  refine ev_alen d_J7_fill_53178_3 hq ?_
  refine ev_istore_n d_J7_fill_53178_4 (by decide) ?_
  show it_Ev g l 1 it_m_J7_fill_53178 0 0 5 [some (.ref q), some (.int x1), some (.int 0), some (.int (Int32.ofNat N))] [] κ S (it_pv κ P)
  refine ev_keep [true, true, true, true] ?_
  refine Llp_J7_fill_53178_5 hq (fun  S3 h => ?_) _ _ _ _ h
  show it_Ev g l 1 it_m_J7_fill_53178 0 0 20 [none, none, none, none] [] κ S3 (it_pv κ P)
  exact ev_ret (v := none) ⟨d_J7_fill_53178_20, rfl⟩ (by decide) (by decide) ⟨rfl, rfl, it_ok_r h⟩
theorem d_J6_bitCount_0f7a4_0 : decode prog_11_method_49_code 0 = .ok (.iload_n 0, 1) := by decide +kernel
theorem d_J6_bitCount_0f7a4_1 : decode prog_11_method_49_code 1 = .ok (.iload_n 0, 1) := by decide +kernel
theorem d_J6_bitCount_0f7a4_2 : decode prog_11_method_49_code 2 = .ok (.iconst 1, 1) := by decide +kernel
theorem d_J6_bitCount_0f7a4_3 : decode prog_11_method_49_code 3 = .ok (.iushr, 1) := by decide +kernel
theorem d_J6_bitCount_0f7a4_4 : decode prog_11_method_49_code 4 = .ok (.ldc_w 265, 3) := by decide +kernel
theorem d_J6_bitCount_0f7a4_7 : decode prog_11_method_49_code 7 = .ok (.iand, 1) := by decide +kernel
theorem d_J6_bitCount_0f7a4_8 : decode prog_11_method_49_code 8 = .ok (.isub, 1) := by decide +kernel
theorem d_J6_bitCount_0f7a4_9 : decode prog_11_method_49_code 9 = .ok (.istore_n 0, 1) := by decide +kernel
theorem d_J6_bitCount_0f7a4_10 : decode prog_11_method_49_code 10 = .ok (.iload_n 0, 1) := by decide +kernel
theorem d_J6_bitCount_0f7a4_11 : decode prog_11_method_49_code 11 = .ok (.ldc_w 266, 3) := by decide +kernel
theorem d_J6_bitCount_0f7a4_14 : decode prog_11_method_49_code 14 = .ok (.iand, 1) := by decide +kernel
theorem d_J6_bitCount_0f7a4_15 : decode prog_11_method_49_code 15 = .ok (.iload_n 0, 1) := by decide +kernel
theorem d_J6_bitCount_0f7a4_16 : decode prog_11_method_49_code 16 = .ok (.iconst 2, 1) := by decide +kernel
theorem d_J6_bitCount_0f7a4_17 : decode prog_11_method_49_code 17 = .ok (.iushr, 1) := by decide +kernel
theorem d_J6_bitCount_0f7a4_18 : decode prog_11_method_49_code 18 = .ok (.ldc_w 266, 3) := by decide +kernel
theorem d_J6_bitCount_0f7a4_21 : decode prog_11_method_49_code 21 = .ok (.iand, 1) := by decide +kernel
theorem d_J6_bitCount_0f7a4_22 : decode prog_11_method_49_code 22 = .ok (.iadd, 1) := by decide +kernel
theorem d_J6_bitCount_0f7a4_23 : decode prog_11_method_49_code 23 = .ok (.istore_n 0, 1) := by decide +kernel
theorem d_J6_bitCount_0f7a4_24 : decode prog_11_method_49_code 24 = .ok (.iload_n 0, 1) := by decide +kernel
theorem d_J6_bitCount_0f7a4_25 : decode prog_11_method_49_code 25 = .ok (.iload_n 0, 1) := by decide +kernel
theorem d_J6_bitCount_0f7a4_26 : decode prog_11_method_49_code 26 = .ok (.iconst 4, 1) := by decide +kernel
theorem d_J6_bitCount_0f7a4_27 : decode prog_11_method_49_code 27 = .ok (.iushr, 1) := by decide +kernel
theorem d_J6_bitCount_0f7a4_28 : decode prog_11_method_49_code 28 = .ok (.iadd, 1) := by decide +kernel
theorem d_J6_bitCount_0f7a4_29 : decode prog_11_method_49_code 29 = .ok (.ldc_w 267, 3) := by decide +kernel
theorem d_J6_bitCount_0f7a4_32 : decode prog_11_method_49_code 32 = .ok (.iand, 1) := by decide +kernel
theorem d_J6_bitCount_0f7a4_33 : decode prog_11_method_49_code 33 = .ok (.istore_n 0, 1) := by decide +kernel
theorem d_J6_bitCount_0f7a4_34 : decode prog_11_method_49_code 34 = .ok (.iload_n 0, 1) := by decide +kernel
theorem d_J6_bitCount_0f7a4_35 : decode prog_11_method_49_code 35 = .ok (.iload_n 0, 1) := by decide +kernel
theorem d_J6_bitCount_0f7a4_36 : decode prog_11_method_49_code 36 = .ok (.bipush 8, 2) := by decide +kernel
theorem d_J6_bitCount_0f7a4_38 : decode prog_11_method_49_code 38 = .ok (.iushr, 1) := by decide +kernel
theorem d_J6_bitCount_0f7a4_39 : decode prog_11_method_49_code 39 = .ok (.iadd, 1) := by decide +kernel
theorem d_J6_bitCount_0f7a4_40 : decode prog_11_method_49_code 40 = .ok (.istore_n 0, 1) := by decide +kernel
theorem d_J6_bitCount_0f7a4_41 : decode prog_11_method_49_code 41 = .ok (.iload_n 0, 1) := by decide +kernel
theorem d_J6_bitCount_0f7a4_42 : decode prog_11_method_49_code 42 = .ok (.iload_n 0, 1) := by decide +kernel
theorem d_J6_bitCount_0f7a4_43 : decode prog_11_method_49_code 43 = .ok (.bipush 16, 2) := by decide +kernel
theorem d_J6_bitCount_0f7a4_45 : decode prog_11_method_49_code 45 = .ok (.iushr, 1) := by decide +kernel
theorem d_J6_bitCount_0f7a4_46 : decode prog_11_method_49_code 46 = .ok (.iadd, 1) := by decide +kernel
theorem d_J6_bitCount_0f7a4_47 : decode prog_11_method_49_code 47 = .ok (.istore_n 0, 1) := by decide +kernel
theorem d_J6_bitCount_0f7a4_48 : decode prog_11_method_49_code 48 = .ok (.iload_n 0, 1) := by decide +kernel
theorem d_J6_bitCount_0f7a4_49 : decode prog_11_method_49_code 49 = .ok (.bipush 63, 2) := by decide +kernel
theorem d_J6_bitCount_0f7a4_51 : decode prog_11_method_49_code 51 = .ok (.iand, 1) := by decide +kernel
theorem d_J6_bitCount_0f7a4_52 : decode prog_11_method_49_code 52 = .ok (.ireturn, 1) := by decide +kernel
def f_J6_bitCount_0f7a4 (κ : it_KK) (x0 : Int32) (S : it_SS) : Option (Int32 × it_SS) :=
some (((((((((x0 - (((x0).toUInt32 >>> ((1 : Int32).toUInt32 &&& Int32.toUInt32 31)).toInt32 &&& 1431655765)) &&& 858993459) + ((((x0 - (((x0).toUInt32 >>> ((1 : Int32).toUInt32 &&& Int32.toUInt32 31)).toInt32 &&& 1431655765))).toUInt32 >>> ((2 : Int32).toUInt32 &&& Int32.toUInt32 31)).toInt32 &&& 858993459)) + (((((x0 - (((x0).toUInt32 >>> ((1 : Int32).toUInt32 &&& Int32.toUInt32 31)).toInt32 &&& 1431655765)) &&& 858993459) + ((((x0 - (((x0).toUInt32 >>> ((1 : Int32).toUInt32 &&& Int32.toUInt32 31)).toInt32 &&& 1431655765))).toUInt32 >>> ((2 : Int32).toUInt32 &&& Int32.toUInt32 31)).toInt32 &&& 858993459))).toUInt32 >>> ((4 : Int32).toUInt32 &&& Int32.toUInt32 31)).toInt32) &&& 252645135) + (((((((x0 - (((x0).toUInt32 >>> ((1 : Int32).toUInt32 &&& Int32.toUInt32 31)).toInt32 &&& 1431655765)) &&& 858993459) + ((((x0 - (((x0).toUInt32 >>> ((1 : Int32).toUInt32 &&& Int32.toUInt32 31)).toInt32 &&& 1431655765))).toUInt32 >>> ((2 : Int32).toUInt32 &&& Int32.toUInt32 31)).toInt32 &&& 858993459)) + (((((x0 - (((x0).toUInt32 >>> ((1 : Int32).toUInt32 &&& Int32.toUInt32 31)).toInt32 &&& 1431655765)) &&& 858993459) + ((((x0 - (((x0).toUInt32 >>> ((1 : Int32).toUInt32 &&& Int32.toUInt32 31)).toInt32 &&& 1431655765))).toUInt32 >>> ((2 : Int32).toUInt32 &&& Int32.toUInt32 31)).toInt32 &&& 858993459))).toUInt32 >>> ((4 : Int32).toUInt32 &&& Int32.toUInt32 31)).toInt32) &&& 252645135)).toUInt32 >>> ((8 : Int32).toUInt32 &&& Int32.toUInt32 31)).toInt32) + ((((((((x0 - (((x0).toUInt32 >>> ((1 : Int32).toUInt32 &&& Int32.toUInt32 31)).toInt32 &&& 1431655765)) &&& 858993459) + ((((x0 - (((x0).toUInt32 >>> ((1 : Int32).toUInt32 &&& Int32.toUInt32 31)).toInt32 &&& 1431655765))).toUInt32 >>> ((2 : Int32).toUInt32 &&& Int32.toUInt32 31)).toInt32 &&& 858993459)) + (((((x0 - (((x0).toUInt32 >>> ((1 : Int32).toUInt32 &&& Int32.toUInt32 31)).toInt32 &&& 1431655765)) &&& 858993459) + ((((x0 - (((x0).toUInt32 >>> ((1 : Int32).toUInt32 &&& Int32.toUInt32 31)).toInt32 &&& 1431655765))).toUInt32 >>> ((2 : Int32).toUInt32 &&& Int32.toUInt32 31)).toInt32 &&& 858993459))).toUInt32 >>> ((4 : Int32).toUInt32 &&& Int32.toUInt32 31)).toInt32) &&& 252645135) + (((((((x0 - (((x0).toUInt32 >>> ((1 : Int32).toUInt32 &&& Int32.toUInt32 31)).toInt32 &&& 1431655765)) &&& 858993459) + ((((x0 - (((x0).toUInt32 >>> ((1 : Int32).toUInt32 &&& Int32.toUInt32 31)).toInt32 &&& 1431655765))).toUInt32 >>> ((2 : Int32).toUInt32 &&& Int32.toUInt32 31)).toInt32 &&& 858993459)) + (((((x0 - (((x0).toUInt32 >>> ((1 : Int32).toUInt32 &&& Int32.toUInt32 31)).toInt32 &&& 1431655765)) &&& 858993459) + ((((x0 - (((x0).toUInt32 >>> ((1 : Int32).toUInt32 &&& Int32.toUInt32 31)).toInt32 &&& 1431655765))).toUInt32 >>> ((2 : Int32).toUInt32 &&& Int32.toUInt32 31)).toInt32 &&& 858993459))).toUInt32 >>> ((4 : Int32).toUInt32 &&& Int32.toUInt32 31)).toInt32) &&& 252645135)).toUInt32 >>> ((8 : Int32).toUInt32 &&& Int32.toUInt32 31)).toInt32)).toUInt32 >>> ((16 : Int32).toUInt32 &&& Int32.toUInt32 31)).toInt32) &&& 63), S)
set_option maxHeartbeats 4000000 in
set_option maxRecDepth 100000 in
theorem L_J6_bitCount_0f7a4 {g : it_G} {l : Launch} {κ : it_KK} {x0 : Int32} {S : it_SS} {P : Int32 → it_SS → Prop} (h : it_ok (f_J6_bitCount_0f7a4 κ x0 S) P) : it_Cn g l 1 it_m_J6_bitCount_0f7a4 [.int x0] κ S (it_pi κ P) := by
  refine it_Cn.of (by decide +kernel) (Nat.le_of_ble_eq_true rfl) ?_
  rw [f_J6_bitCount_0f7a4] at h
  show it_Ev g l 1 it_m_J6_bitCount_0f7a4 0 0 0 [some (.int x0)] [] κ S (it_pi κ P)
  refine ev_iload_n d_J6_bitCount_0f7a4_0 rfl ?_
  refine ev_iload_n d_J6_bitCount_0f7a4_1 rfl ?_
  refine ev_iconst d_J6_bitCount_0f7a4_2 kv_iconst_1 ?_
  refine ev_iushr d_J6_bitCount_0f7a4_3 ?_
  refine ev_ldcw d_J6_bitCount_0f7a4_4 kn_java_lang_Integer_265 ?_
  refine ev_iand d_J6_bitCount_0f7a4_7 ?_
  refine ev_isub d_J6_bitCount_0f7a4_8 ?_
  refine ev_istore_n d_J6_bitCount_0f7a4_9 (by decide) ?_
  show it_Ev g l 1 it_m_J6_bitCount_0f7a4 0 0 10 [some (.int (x0 - (((x0).toUInt32 >>> ((1 : Int32).toUInt32 &&& Int32.toUInt32 31)).toInt32 &&& 1431655765)))] [] κ S (it_pi κ P)
  refine ev_iload_n d_J6_bitCount_0f7a4_10 rfl ?_
  refine ev_ldcw d_J6_bitCount_0f7a4_11 kn_java_lang_Integer_266 ?_
  refine ev_iand d_J6_bitCount_0f7a4_14 ?_
  refine ev_iload_n d_J6_bitCount_0f7a4_15 rfl ?_
  refine ev_iconst d_J6_bitCount_0f7a4_16 kv_iconst_2 ?_
  refine ev_iushr d_J6_bitCount_0f7a4_17 ?_
  refine ev_ldcw d_J6_bitCount_0f7a4_18 kn_java_lang_Integer_266 ?_
  refine ev_iand d_J6_bitCount_0f7a4_21 ?_
  refine ev_iadd d_J6_bitCount_0f7a4_22 ?_
  refine ev_istore_n d_J6_bitCount_0f7a4_23 (by decide) ?_
  show it_Ev g l 1 it_m_J6_bitCount_0f7a4 0 0 24 [some (.int (((x0 - (((x0).toUInt32 >>> ((1 : Int32).toUInt32 &&& Int32.toUInt32 31)).toInt32 &&& 1431655765)) &&& 858993459) + ((((x0 - (((x0).toUInt32 >>> ((1 : Int32).toUInt32 &&& Int32.toUInt32 31)).toInt32 &&& 1431655765))).toUInt32 >>> ((2 : Int32).toUInt32 &&& Int32.toUInt32 31)).toInt32 &&& 858993459)))] [] κ S (it_pi κ P)
  refine ev_iload_n d_J6_bitCount_0f7a4_24 rfl ?_
  refine ev_iload_n d_J6_bitCount_0f7a4_25 rfl ?_
  refine ev_iconst d_J6_bitCount_0f7a4_26 kv_iconst_4 ?_
  refine ev_iushr d_J6_bitCount_0f7a4_27 ?_
  refine ev_iadd d_J6_bitCount_0f7a4_28 ?_
  refine ev_ldcw d_J6_bitCount_0f7a4_29 kn_java_lang_Integer_267 ?_
  refine ev_iand d_J6_bitCount_0f7a4_32 ?_
  refine ev_istore_n d_J6_bitCount_0f7a4_33 (by decide) ?_
  show it_Ev g l 1 it_m_J6_bitCount_0f7a4 0 0 34 [some (.int (((((x0 - (((x0).toUInt32 >>> ((1 : Int32).toUInt32 &&& Int32.toUInt32 31)).toInt32 &&& 1431655765)) &&& 858993459) + ((((x0 - (((x0).toUInt32 >>> ((1 : Int32).toUInt32 &&& Int32.toUInt32 31)).toInt32 &&& 1431655765))).toUInt32 >>> ((2 : Int32).toUInt32 &&& Int32.toUInt32 31)).toInt32 &&& 858993459)) + (((((x0 - (((x0).toUInt32 >>> ((1 : Int32).toUInt32 &&& Int32.toUInt32 31)).toInt32 &&& 1431655765)) &&& 858993459) + ((((x0 - (((x0).toUInt32 >>> ((1 : Int32).toUInt32 &&& Int32.toUInt32 31)).toInt32 &&& 1431655765))).toUInt32 >>> ((2 : Int32).toUInt32 &&& Int32.toUInt32 31)).toInt32 &&& 858993459))).toUInt32 >>> ((4 : Int32).toUInt32 &&& Int32.toUInt32 31)).toInt32) &&& 252645135))] [] κ S (it_pi κ P)
  refine ev_iload_n d_J6_bitCount_0f7a4_34 rfl ?_
  refine ev_iload_n d_J6_bitCount_0f7a4_35 rfl ?_
  refine ev_bipush d_J6_bitCount_0f7a4_36 kv_bipush_8 ?_
  refine ev_iushr d_J6_bitCount_0f7a4_38 ?_
  refine ev_iadd d_J6_bitCount_0f7a4_39 ?_
  refine ev_istore_n d_J6_bitCount_0f7a4_40 (by decide) ?_
  show it_Ev g l 1 it_m_J6_bitCount_0f7a4 0 0 41 [some (.int ((((((x0 - (((x0).toUInt32 >>> ((1 : Int32).toUInt32 &&& Int32.toUInt32 31)).toInt32 &&& 1431655765)) &&& 858993459) + ((((x0 - (((x0).toUInt32 >>> ((1 : Int32).toUInt32 &&& Int32.toUInt32 31)).toInt32 &&& 1431655765))).toUInt32 >>> ((2 : Int32).toUInt32 &&& Int32.toUInt32 31)).toInt32 &&& 858993459)) + (((((x0 - (((x0).toUInt32 >>> ((1 : Int32).toUInt32 &&& Int32.toUInt32 31)).toInt32 &&& 1431655765)) &&& 858993459) + ((((x0 - (((x0).toUInt32 >>> ((1 : Int32).toUInt32 &&& Int32.toUInt32 31)).toInt32 &&& 1431655765))).toUInt32 >>> ((2 : Int32).toUInt32 &&& Int32.toUInt32 31)).toInt32 &&& 858993459))).toUInt32 >>> ((4 : Int32).toUInt32 &&& Int32.toUInt32 31)).toInt32) &&& 252645135) + (((((((x0 - (((x0).toUInt32 >>> ((1 : Int32).toUInt32 &&& Int32.toUInt32 31)).toInt32 &&& 1431655765)) &&& 858993459) + ((((x0 - (((x0).toUInt32 >>> ((1 : Int32).toUInt32 &&& Int32.toUInt32 31)).toInt32 &&& 1431655765))).toUInt32 >>> ((2 : Int32).toUInt32 &&& Int32.toUInt32 31)).toInt32 &&& 858993459)) + (((((x0 - (((x0).toUInt32 >>> ((1 : Int32).toUInt32 &&& Int32.toUInt32 31)).toInt32 &&& 1431655765)) &&& 858993459) + ((((x0 - (((x0).toUInt32 >>> ((1 : Int32).toUInt32 &&& Int32.toUInt32 31)).toInt32 &&& 1431655765))).toUInt32 >>> ((2 : Int32).toUInt32 &&& Int32.toUInt32 31)).toInt32 &&& 858993459))).toUInt32 >>> ((4 : Int32).toUInt32 &&& Int32.toUInt32 31)).toInt32) &&& 252645135)).toUInt32 >>> ((8 : Int32).toUInt32 &&& Int32.toUInt32 31)).toInt32))] [] κ S (it_pi κ P)
  refine ev_iload_n d_J6_bitCount_0f7a4_41 rfl ?_
  refine ev_iload_n d_J6_bitCount_0f7a4_42 rfl ?_
  refine ev_bipush d_J6_bitCount_0f7a4_43 kv_bipush_16 ?_
  refine ev_iushr d_J6_bitCount_0f7a4_45 ?_
  refine ev_iadd d_J6_bitCount_0f7a4_46 ?_
  refine ev_istore_n d_J6_bitCount_0f7a4_47 (by decide) ?_
  show it_Ev g l 1 it_m_J6_bitCount_0f7a4 0 0 48 [some (.int (((((((x0 - (((x0).toUInt32 >>> ((1 : Int32).toUInt32 &&& Int32.toUInt32 31)).toInt32 &&& 1431655765)) &&& 858993459) + ((((x0 - (((x0).toUInt32 >>> ((1 : Int32).toUInt32 &&& Int32.toUInt32 31)).toInt32 &&& 1431655765))).toUInt32 >>> ((2 : Int32).toUInt32 &&& Int32.toUInt32 31)).toInt32 &&& 858993459)) + (((((x0 - (((x0).toUInt32 >>> ((1 : Int32).toUInt32 &&& Int32.toUInt32 31)).toInt32 &&& 1431655765)) &&& 858993459) + ((((x0 - (((x0).toUInt32 >>> ((1 : Int32).toUInt32 &&& Int32.toUInt32 31)).toInt32 &&& 1431655765))).toUInt32 >>> ((2 : Int32).toUInt32 &&& Int32.toUInt32 31)).toInt32 &&& 858993459))).toUInt32 >>> ((4 : Int32).toUInt32 &&& Int32.toUInt32 31)).toInt32) &&& 252645135) + (((((((x0 - (((x0).toUInt32 >>> ((1 : Int32).toUInt32 &&& Int32.toUInt32 31)).toInt32 &&& 1431655765)) &&& 858993459) + ((((x0 - (((x0).toUInt32 >>> ((1 : Int32).toUInt32 &&& Int32.toUInt32 31)).toInt32 &&& 1431655765))).toUInt32 >>> ((2 : Int32).toUInt32 &&& Int32.toUInt32 31)).toInt32 &&& 858993459)) + (((((x0 - (((x0).toUInt32 >>> ((1 : Int32).toUInt32 &&& Int32.toUInt32 31)).toInt32 &&& 1431655765)) &&& 858993459) + ((((x0 - (((x0).toUInt32 >>> ((1 : Int32).toUInt32 &&& Int32.toUInt32 31)).toInt32 &&& 1431655765))).toUInt32 >>> ((2 : Int32).toUInt32 &&& Int32.toUInt32 31)).toInt32 &&& 858993459))).toUInt32 >>> ((4 : Int32).toUInt32 &&& Int32.toUInt32 31)).toInt32) &&& 252645135)).toUInt32 >>> ((8 : Int32).toUInt32 &&& Int32.toUInt32 31)).toInt32) + ((((((((x0 - (((x0).toUInt32 >>> ((1 : Int32).toUInt32 &&& Int32.toUInt32 31)).toInt32 &&& 1431655765)) &&& 858993459) + ((((x0 - (((x0).toUInt32 >>> ((1 : Int32).toUInt32 &&& Int32.toUInt32 31)).toInt32 &&& 1431655765))).toUInt32 >>> ((2 : Int32).toUInt32 &&& Int32.toUInt32 31)).toInt32 &&& 858993459)) + (((((x0 - (((x0).toUInt32 >>> ((1 : Int32).toUInt32 &&& Int32.toUInt32 31)).toInt32 &&& 1431655765)) &&& 858993459) + ((((x0 - (((x0).toUInt32 >>> ((1 : Int32).toUInt32 &&& Int32.toUInt32 31)).toInt32 &&& 1431655765))).toUInt32 >>> ((2 : Int32).toUInt32 &&& Int32.toUInt32 31)).toInt32 &&& 858993459))).toUInt32 >>> ((4 : Int32).toUInt32 &&& Int32.toUInt32 31)).toInt32) &&& 252645135) + (((((((x0 - (((x0).toUInt32 >>> ((1 : Int32).toUInt32 &&& Int32.toUInt32 31)).toInt32 &&& 1431655765)) &&& 858993459) + ((((x0 - (((x0).toUInt32 >>> ((1 : Int32).toUInt32 &&& Int32.toUInt32 31)).toInt32 &&& 1431655765))).toUInt32 >>> ((2 : Int32).toUInt32 &&& Int32.toUInt32 31)).toInt32 &&& 858993459)) + (((((x0 - (((x0).toUInt32 >>> ((1 : Int32).toUInt32 &&& Int32.toUInt32 31)).toInt32 &&& 1431655765)) &&& 858993459) + ((((x0 - (((x0).toUInt32 >>> ((1 : Int32).toUInt32 &&& Int32.toUInt32 31)).toInt32 &&& 1431655765))).toUInt32 >>> ((2 : Int32).toUInt32 &&& Int32.toUInt32 31)).toInt32 &&& 858993459))).toUInt32 >>> ((4 : Int32).toUInt32 &&& Int32.toUInt32 31)).toInt32) &&& 252645135)).toUInt32 >>> ((8 : Int32).toUInt32 &&& Int32.toUInt32 31)).toInt32)).toUInt32 >>> ((16 : Int32).toUInt32 &&& Int32.toUInt32 31)).toInt32))] [] κ S (it_pi κ P)
  refine ev_iload_n d_J6_bitCount_0f7a4_48 rfl ?_
  refine ev_bipush d_J6_bitCount_0f7a4_49 kv_bipush_63 ?_
  refine ev_iand d_J6_bitCount_0f7a4_51 ?_
  exact ev_ret (v := some (.int _)) ⟨d_J6_bitCount_0f7a4_52, _, rfl, rfl⟩ (by decide) (by decide) ⟨rfl, _, rfl, it_ok_r h⟩
theorem d_J6_numberOfTrailingZeros_0f7a4_0 : decode prog_11_method_48_code 0 = .ok (.iload_n 0, 1) := by decide +kernel
theorem d_J6_numberOfTrailingZeros_0f7a4_1 : decode prog_11_method_48_code 1 = .ok (.iconst (-1), 1) := by decide +kernel
theorem d_J6_numberOfTrailingZeros_0f7a4_2 : decode prog_11_method_48_code 2 = .ok (.ixor, 1) := by decide +kernel
theorem d_J6_numberOfTrailingZeros_0f7a4_3 : decode prog_11_method_48_code 3 = .ok (.iload_n 0, 1) := by decide +kernel
theorem d_J6_numberOfTrailingZeros_0f7a4_4 : decode prog_11_method_48_code 4 = .ok (.iconst 1, 1) := by decide +kernel
theorem d_J6_numberOfTrailingZeros_0f7a4_5 : decode prog_11_method_48_code 5 = .ok (.isub, 1) := by decide +kernel
theorem d_J6_numberOfTrailingZeros_0f7a4_6 : decode prog_11_method_48_code 6 = .ok (.iand, 1) := by decide +kernel
theorem d_J6_numberOfTrailingZeros_0f7a4_7 : decode prog_11_method_48_code 7 = .ok (.istore_n 0, 1) := by decide +kernel
theorem d_J6_numberOfTrailingZeros_0f7a4_8 : decode prog_11_method_48_code 8 = .ok (.iload_n 0, 1) := by decide +kernel
theorem d_J6_numberOfTrailingZeros_0f7a4_9 : decode prog_11_method_48_code 9 = .ok (.ifCond .gt 8, 3) := by decide +kernel
theorem d_J6_numberOfTrailingZeros_0f7a4_12 : decode prog_11_method_48_code 12 = .ok (.iload_n 0, 1) := by decide +kernel
theorem d_J6_numberOfTrailingZeros_0f7a4_13 : decode prog_11_method_48_code 13 = .ok (.bipush 32, 2) := by decide +kernel
theorem d_J6_numberOfTrailingZeros_0f7a4_15 : decode prog_11_method_48_code 15 = .ok (.iand, 1) := by decide +kernel
theorem d_J6_numberOfTrailingZeros_0f7a4_16 : decode prog_11_method_48_code 16 = .ok (.ireturn, 1) := by decide +kernel
theorem d_J6_numberOfTrailingZeros_0f7a4_17 : decode prog_11_method_48_code 17 = .ok (.iconst 1, 1) := by decide +kernel
theorem d_J6_numberOfTrailingZeros_0f7a4_18 : decode prog_11_method_48_code 18 = .ok (.istore_n 1, 1) := by decide +kernel
theorem d_J6_numberOfTrailingZeros_0f7a4_19 : decode prog_11_method_48_code 19 = .ok (.iload_n 0, 1) := by decide +kernel
theorem d_J6_numberOfTrailingZeros_0f7a4_20 : decode prog_11_method_48_code 20 = .ok (.ldc_w 264, 3) := by decide +kernel
theorem d_J6_numberOfTrailingZeros_0f7a4_23 : decode prog_11_method_48_code 23 = .ok (.if_icmp .le 11, 3) := by decide +kernel
theorem d_J6_numberOfTrailingZeros_0f7a4_26 : decode prog_11_method_48_code 26 = .ok (.iinc 1 16, 3) := by decide +kernel
theorem d_J6_numberOfTrailingZeros_0f7a4_29 : decode prog_11_method_48_code 29 = .ok (.iload_n 0, 1) := by decide +kernel
theorem d_J6_numberOfTrailingZeros_0f7a4_30 : decode prog_11_method_48_code 30 = .ok (.bipush 16, 2) := by decide +kernel
theorem d_J6_numberOfTrailingZeros_0f7a4_32 : decode prog_11_method_48_code 32 = .ok (.iushr, 1) := by decide +kernel
theorem d_J6_numberOfTrailingZeros_0f7a4_33 : decode prog_11_method_48_code 33 = .ok (.istore_n 0, 1) := by decide +kernel
theorem d_J6_numberOfTrailingZeros_0f7a4_34 : decode prog_11_method_48_code 34 = .ok (.iload_n 0, 1) := by decide +kernel
theorem d_J6_numberOfTrailingZeros_0f7a4_35 : decode prog_11_method_48_code 35 = .ok (.sipush 256, 3) := by decide +kernel
theorem d_J6_numberOfTrailingZeros_0f7a4_38 : decode prog_11_method_48_code 38 = .ok (.if_icmp .le 11, 3) := by decide +kernel
theorem d_J6_numberOfTrailingZeros_0f7a4_41 : decode prog_11_method_48_code 41 = .ok (.iinc 1 8, 3) := by decide +kernel
theorem d_J6_numberOfTrailingZeros_0f7a4_44 : decode prog_11_method_48_code 44 = .ok (.iload_n 0, 1) := by decide +kernel
theorem d_J6_numberOfTrailingZeros_0f7a4_45 : decode prog_11_method_48_code 45 = .ok (.bipush 8, 2) := by decide +kernel
theorem d_J6_numberOfTrailingZeros_0f7a4_47 : decode prog_11_method_48_code 47 = .ok (.iushr, 1) := by decide +kernel
theorem d_J6_numberOfTrailingZeros_0f7a4_48 : decode prog_11_method_48_code 48 = .ok (.istore_n 0, 1) := by decide +kernel
theorem d_J6_numberOfTrailingZeros_0f7a4_49 : decode prog_11_method_48_code 49 = .ok (.iload_n 0, 1) := by decide +kernel
theorem d_J6_numberOfTrailingZeros_0f7a4_50 : decode prog_11_method_48_code 50 = .ok (.bipush 16, 2) := by decide +kernel
theorem d_J6_numberOfTrailingZeros_0f7a4_52 : decode prog_11_method_48_code 52 = .ok (.if_icmp .le 10, 3) := by decide +kernel
theorem d_J6_numberOfTrailingZeros_0f7a4_55 : decode prog_11_method_48_code 55 = .ok (.iinc 1 4, 3) := by decide +kernel
theorem d_J6_numberOfTrailingZeros_0f7a4_58 : decode prog_11_method_48_code 58 = .ok (.iload_n 0, 1) := by decide +kernel
theorem d_J6_numberOfTrailingZeros_0f7a4_59 : decode prog_11_method_48_code 59 = .ok (.iconst 4, 1) := by decide +kernel
theorem d_J6_numberOfTrailingZeros_0f7a4_60 : decode prog_11_method_48_code 60 = .ok (.iushr, 1) := by decide +kernel
theorem d_J6_numberOfTrailingZeros_0f7a4_61 : decode prog_11_method_48_code 61 = .ok (.istore_n 0, 1) := by decide +kernel
theorem d_J6_numberOfTrailingZeros_0f7a4_62 : decode prog_11_method_48_code 62 = .ok (.iload_n 0, 1) := by decide +kernel
theorem d_J6_numberOfTrailingZeros_0f7a4_63 : decode prog_11_method_48_code 63 = .ok (.iconst 4, 1) := by decide +kernel
theorem d_J6_numberOfTrailingZeros_0f7a4_64 : decode prog_11_method_48_code 64 = .ok (.if_icmp .le 10, 3) := by decide +kernel
theorem d_J6_numberOfTrailingZeros_0f7a4_67 : decode prog_11_method_48_code 67 = .ok (.iinc 1 2, 3) := by decide +kernel
theorem d_J6_numberOfTrailingZeros_0f7a4_70 : decode prog_11_method_48_code 70 = .ok (.iload_n 0, 1) := by decide +kernel
theorem d_J6_numberOfTrailingZeros_0f7a4_71 : decode prog_11_method_48_code 71 = .ok (.iconst 2, 1) := by decide +kernel
theorem d_J6_numberOfTrailingZeros_0f7a4_72 : decode prog_11_method_48_code 72 = .ok (.iushr, 1) := by decide +kernel
theorem d_J6_numberOfTrailingZeros_0f7a4_73 : decode prog_11_method_48_code 73 = .ok (.istore_n 0, 1) := by decide +kernel
theorem d_J6_numberOfTrailingZeros_0f7a4_74 : decode prog_11_method_48_code 74 = .ok (.iload_n 1, 1) := by decide +kernel
theorem d_J6_numberOfTrailingZeros_0f7a4_75 : decode prog_11_method_48_code 75 = .ok (.iload_n 0, 1) := by decide +kernel
theorem d_J6_numberOfTrailingZeros_0f7a4_76 : decode prog_11_method_48_code 76 = .ok (.iconst 1, 1) := by decide +kernel
theorem d_J6_numberOfTrailingZeros_0f7a4_77 : decode prog_11_method_48_code 77 = .ok (.iushr, 1) := by decide +kernel
theorem d_J6_numberOfTrailingZeros_0f7a4_78 : decode prog_11_method_48_code 78 = .ok (.iadd, 1) := by decide +kernel
theorem d_J6_numberOfTrailingZeros_0f7a4_79 : decode prog_11_method_48_code 79 = .ok (.ireturn, 1) := by decide +kernel
def f_J6_numberOfTrailingZeros_0f7a4 (κ : it_KK) (x0 : Int32) (S : it_SS) : Option (Int32 × it_SS) :=
if 0 < ((x0 ^^^ (-1)) &&& (x0 - 1)) then
if ((x0 ^^^ (-1)) &&& (x0 - 1)) ≤ 65536 then
if ((x0 ^^^ (-1)) &&& (x0 - 1)) ≤ 256 then
if ((x0 ^^^ (-1)) &&& (x0 - 1)) ≤ 16 then
if ((x0 ^^^ (-1)) &&& (x0 - 1)) ≤ 4 then
some ((1 + ((((x0 ^^^ (-1)) &&& (x0 - 1))).toUInt32 >>> ((1 : Int32).toUInt32 &&& Int32.toUInt32 31)).toInt32), S)
else
some (((1 + 2) + ((((((x0 ^^^ (-1)) &&& (x0 - 1))).toUInt32 >>> ((2 : Int32).toUInt32 &&& Int32.toUInt32 31)).toInt32).toUInt32 >>> ((1 : Int32).toUInt32 &&& Int32.toUInt32 31)).toInt32), S)
else
if ((((x0 ^^^ (-1)) &&& (x0 - 1))).toUInt32 >>> ((4 : Int32).toUInt32 &&& Int32.toUInt32 31)).toInt32 ≤ 4 then
some (((1 + 4) + ((((((x0 ^^^ (-1)) &&& (x0 - 1))).toUInt32 >>> ((4 : Int32).toUInt32 &&& Int32.toUInt32 31)).toInt32).toUInt32 >>> ((1 : Int32).toUInt32 &&& Int32.toUInt32 31)).toInt32), S)
else
some ((((1 + 4) + 2) + ((((((((x0 ^^^ (-1)) &&& (x0 - 1))).toUInt32 >>> ((4 : Int32).toUInt32 &&& Int32.toUInt32 31)).toInt32).toUInt32 >>> ((2 : Int32).toUInt32 &&& Int32.toUInt32 31)).toInt32).toUInt32 >>> ((1 : Int32).toUInt32 &&& Int32.toUInt32 31)).toInt32), S)
else
if ((((x0 ^^^ (-1)) &&& (x0 - 1))).toUInt32 >>> ((8 : Int32).toUInt32 &&& Int32.toUInt32 31)).toInt32 ≤ 16 then
if ((((x0 ^^^ (-1)) &&& (x0 - 1))).toUInt32 >>> ((8 : Int32).toUInt32 &&& Int32.toUInt32 31)).toInt32 ≤ 4 then
some (((1 + 8) + ((((((x0 ^^^ (-1)) &&& (x0 - 1))).toUInt32 >>> ((8 : Int32).toUInt32 &&& Int32.toUInt32 31)).toInt32).toUInt32 >>> ((1 : Int32).toUInt32 &&& Int32.toUInt32 31)).toInt32), S)
else
some ((((1 + 8) + 2) + ((((((((x0 ^^^ (-1)) &&& (x0 - 1))).toUInt32 >>> ((8 : Int32).toUInt32 &&& Int32.toUInt32 31)).toInt32).toUInt32 >>> ((2 : Int32).toUInt32 &&& Int32.toUInt32 31)).toInt32).toUInt32 >>> ((1 : Int32).toUInt32 &&& Int32.toUInt32 31)).toInt32), S)
else
if ((((((x0 ^^^ (-1)) &&& (x0 - 1))).toUInt32 >>> ((8 : Int32).toUInt32 &&& Int32.toUInt32 31)).toInt32).toUInt32 >>> ((4 : Int32).toUInt32 &&& Int32.toUInt32 31)).toInt32 ≤ 4 then
some ((((1 + 8) + 4) + ((((((((x0 ^^^ (-1)) &&& (x0 - 1))).toUInt32 >>> ((8 : Int32).toUInt32 &&& Int32.toUInt32 31)).toInt32).toUInt32 >>> ((4 : Int32).toUInt32 &&& Int32.toUInt32 31)).toInt32).toUInt32 >>> ((1 : Int32).toUInt32 &&& Int32.toUInt32 31)).toInt32), S)
else
some (((((1 + 8) + 4) + 2) + ((((((((((x0 ^^^ (-1)) &&& (x0 - 1))).toUInt32 >>> ((8 : Int32).toUInt32 &&& Int32.toUInt32 31)).toInt32).toUInt32 >>> ((4 : Int32).toUInt32 &&& Int32.toUInt32 31)).toInt32).toUInt32 >>> ((2 : Int32).toUInt32 &&& Int32.toUInt32 31)).toInt32).toUInt32 >>> ((1 : Int32).toUInt32 &&& Int32.toUInt32 31)).toInt32), S)
else
if ((((x0 ^^^ (-1)) &&& (x0 - 1))).toUInt32 >>> ((16 : Int32).toUInt32 &&& Int32.toUInt32 31)).toInt32 ≤ 256 then
if ((((x0 ^^^ (-1)) &&& (x0 - 1))).toUInt32 >>> ((16 : Int32).toUInt32 &&& Int32.toUInt32 31)).toInt32 ≤ 16 then
if ((((x0 ^^^ (-1)) &&& (x0 - 1))).toUInt32 >>> ((16 : Int32).toUInt32 &&& Int32.toUInt32 31)).toInt32 ≤ 4 then
some (((1 + 16) + ((((((x0 ^^^ (-1)) &&& (x0 - 1))).toUInt32 >>> ((16 : Int32).toUInt32 &&& Int32.toUInt32 31)).toInt32).toUInt32 >>> ((1 : Int32).toUInt32 &&& Int32.toUInt32 31)).toInt32), S)
else
some ((((1 + 16) + 2) + ((((((((x0 ^^^ (-1)) &&& (x0 - 1))).toUInt32 >>> ((16 : Int32).toUInt32 &&& Int32.toUInt32 31)).toInt32).toUInt32 >>> ((2 : Int32).toUInt32 &&& Int32.toUInt32 31)).toInt32).toUInt32 >>> ((1 : Int32).toUInt32 &&& Int32.toUInt32 31)).toInt32), S)
else
if ((((((x0 ^^^ (-1)) &&& (x0 - 1))).toUInt32 >>> ((16 : Int32).toUInt32 &&& Int32.toUInt32 31)).toInt32).toUInt32 >>> ((4 : Int32).toUInt32 &&& Int32.toUInt32 31)).toInt32 ≤ 4 then
some ((((1 + 16) + 4) + ((((((((x0 ^^^ (-1)) &&& (x0 - 1))).toUInt32 >>> ((16 : Int32).toUInt32 &&& Int32.toUInt32 31)).toInt32).toUInt32 >>> ((4 : Int32).toUInt32 &&& Int32.toUInt32 31)).toInt32).toUInt32 >>> ((1 : Int32).toUInt32 &&& Int32.toUInt32 31)).toInt32), S)
else
some (((((1 + 16) + 4) + 2) + ((((((((((x0 ^^^ (-1)) &&& (x0 - 1))).toUInt32 >>> ((16 : Int32).toUInt32 &&& Int32.toUInt32 31)).toInt32).toUInt32 >>> ((4 : Int32).toUInt32 &&& Int32.toUInt32 31)).toInt32).toUInt32 >>> ((2 : Int32).toUInt32 &&& Int32.toUInt32 31)).toInt32).toUInt32 >>> ((1 : Int32).toUInt32 &&& Int32.toUInt32 31)).toInt32), S)
else
if ((((((x0 ^^^ (-1)) &&& (x0 - 1))).toUInt32 >>> ((16 : Int32).toUInt32 &&& Int32.toUInt32 31)).toInt32).toUInt32 >>> ((8 : Int32).toUInt32 &&& Int32.toUInt32 31)).toInt32 ≤ 16 then
if ((((((x0 ^^^ (-1)) &&& (x0 - 1))).toUInt32 >>> ((16 : Int32).toUInt32 &&& Int32.toUInt32 31)).toInt32).toUInt32 >>> ((8 : Int32).toUInt32 &&& Int32.toUInt32 31)).toInt32 ≤ 4 then
some ((((1 + 16) + 8) + ((((((((x0 ^^^ (-1)) &&& (x0 - 1))).toUInt32 >>> ((16 : Int32).toUInt32 &&& Int32.toUInt32 31)).toInt32).toUInt32 >>> ((8 : Int32).toUInt32 &&& Int32.toUInt32 31)).toInt32).toUInt32 >>> ((1 : Int32).toUInt32 &&& Int32.toUInt32 31)).toInt32), S)
else
some (((((1 + 16) + 8) + 2) + ((((((((((x0 ^^^ (-1)) &&& (x0 - 1))).toUInt32 >>> ((16 : Int32).toUInt32 &&& Int32.toUInt32 31)).toInt32).toUInt32 >>> ((8 : Int32).toUInt32 &&& Int32.toUInt32 31)).toInt32).toUInt32 >>> ((2 : Int32).toUInt32 &&& Int32.toUInt32 31)).toInt32).toUInt32 >>> ((1 : Int32).toUInt32 &&& Int32.toUInt32 31)).toInt32), S)
else
if ((((((((x0 ^^^ (-1)) &&& (x0 - 1))).toUInt32 >>> ((16 : Int32).toUInt32 &&& Int32.toUInt32 31)).toInt32).toUInt32 >>> ((8 : Int32).toUInt32 &&& Int32.toUInt32 31)).toInt32).toUInt32 >>> ((4 : Int32).toUInt32 &&& Int32.toUInt32 31)).toInt32 ≤ 4 then
some (((((1 + 16) + 8) + 4) + ((((((((((x0 ^^^ (-1)) &&& (x0 - 1))).toUInt32 >>> ((16 : Int32).toUInt32 &&& Int32.toUInt32 31)).toInt32).toUInt32 >>> ((8 : Int32).toUInt32 &&& Int32.toUInt32 31)).toInt32).toUInt32 >>> ((4 : Int32).toUInt32 &&& Int32.toUInt32 31)).toInt32).toUInt32 >>> ((1 : Int32).toUInt32 &&& Int32.toUInt32 31)).toInt32), S)
else
some ((((((1 + 16) + 8) + 4) + 2) + ((((((((((((x0 ^^^ (-1)) &&& (x0 - 1))).toUInt32 >>> ((16 : Int32).toUInt32 &&& Int32.toUInt32 31)).toInt32).toUInt32 >>> ((8 : Int32).toUInt32 &&& Int32.toUInt32 31)).toInt32).toUInt32 >>> ((4 : Int32).toUInt32 &&& Int32.toUInt32 31)).toInt32).toUInt32 >>> ((2 : Int32).toUInt32 &&& Int32.toUInt32 31)).toInt32).toUInt32 >>> ((1 : Int32).toUInt32 &&& Int32.toUInt32 31)).toInt32), S)
else
some ((((x0 ^^^ (-1)) &&& (x0 - 1)) &&& 32), S)
set_option maxHeartbeats 4000000 in
set_option maxRecDepth 100000 in
theorem L_J6_numberOfTrailingZeros_0f7a4 {g : it_G} {l : Launch} {κ : it_KK} {x0 : Int32} {S : it_SS} {P : Int32 → it_SS → Prop} (h : it_ok (f_J6_numberOfTrailingZeros_0f7a4 κ x0 S) P) : it_Cn g l 1 it_m_J6_numberOfTrailingZeros_0f7a4 [.int x0] κ S (it_pi κ P) := by
  refine it_Cn.of (by decide +kernel) (Nat.le_of_ble_eq_true rfl) ?_
  rw [f_J6_numberOfTrailingZeros_0f7a4] at h
  show it_Ev g l 1 it_m_J6_numberOfTrailingZeros_0f7a4 0 0 0 [some (.int x0), none] [] κ S (it_pi κ P)
  refine ev_iload_n d_J6_numberOfTrailingZeros_0f7a4_0 rfl ?_
  refine ev_iconst d_J6_numberOfTrailingZeros_0f7a4_1 kv_iconst_m1 ?_
  refine ev_ixor d_J6_numberOfTrailingZeros_0f7a4_2 ?_
  refine ev_iload_n d_J6_numberOfTrailingZeros_0f7a4_3 rfl ?_
  refine ev_iconst d_J6_numberOfTrailingZeros_0f7a4_4 kv_iconst_1 ?_
  refine ev_isub d_J6_numberOfTrailingZeros_0f7a4_5 ?_
  refine ev_iand d_J6_numberOfTrailingZeros_0f7a4_6 ?_
  refine ev_istore_n d_J6_numberOfTrailingZeros_0f7a4_7 (by decide) ?_
  show it_Ev g l 1 it_m_J6_numberOfTrailingZeros_0f7a4 0 0 8 [some (.int ((x0 ^^^ (-1)) &&& (x0 - 1))), none] [] κ S (it_pi κ P)
  refine ev_iload_n d_J6_numberOfTrailingZeros_0f7a4_8 rfl ?_
  refine ev_if_gt (tgt := 17) d_J6_numberOfTrailingZeros_0f7a4_9 (by decide) (fun hc1 => ?_) (fun hc1 => ?_)
  · have h := it_ok_t h hc1
    refine ev_iconst d_J6_numberOfTrailingZeros_0f7a4_17 kv_iconst_1 ?_
    refine ev_istore_n d_J6_numberOfTrailingZeros_0f7a4_18 (by decide) ?_
    show it_Ev g l 1 it_m_J6_numberOfTrailingZeros_0f7a4 0 0 19 [some (.int ((x0 ^^^ (-1)) &&& (x0 - 1))), some (.int 1)] [] κ S (it_pi κ P)
    refine ev_iload_n d_J6_numberOfTrailingZeros_0f7a4_19 rfl ?_
    refine ev_ldcw d_J6_numberOfTrailingZeros_0f7a4_20 kn_java_lang_Integer_264 ?_
    refine ev_icmp_le (tgt := 34) d_J6_numberOfTrailingZeros_0f7a4_23 (by decide) (fun hc2 => ?_) (fun hc2 => ?_)
    · have h := it_ok_t h hc2
      refine ev_iload_n d_J6_numberOfTrailingZeros_0f7a4_34 rfl ?_
      refine ev_sipush d_J6_numberOfTrailingZeros_0f7a4_35 kv_sipush_256 ?_
      refine ev_icmp_le (tgt := 49) d_J6_numberOfTrailingZeros_0f7a4_38 (by decide) (fun hc3 => ?_) (fun hc3 => ?_)
      · have h := it_ok_t h hc3
        refine ev_iload_n d_J6_numberOfTrailingZeros_0f7a4_49 rfl ?_
        refine ev_bipush d_J6_numberOfTrailingZeros_0f7a4_50 kv_bipush_16 ?_
        refine ev_icmp_le (tgt := 62) d_J6_numberOfTrailingZeros_0f7a4_52 (by decide) (fun hc4 => ?_) (fun hc4 => ?_)
        · have h := it_ok_t h hc4
          refine ev_iload_n d_J6_numberOfTrailingZeros_0f7a4_62 rfl ?_
          refine ev_iconst d_J6_numberOfTrailingZeros_0f7a4_63 kv_iconst_4 ?_
          refine ev_icmp_le (tgt := 74) d_J6_numberOfTrailingZeros_0f7a4_64 (by decide) (fun hc5 => ?_) (fun hc5 => ?_)
          · have h := it_ok_t h hc5
            refine ev_iload_n d_J6_numberOfTrailingZeros_0f7a4_74 rfl ?_
            refine ev_iload_n d_J6_numberOfTrailingZeros_0f7a4_75 rfl ?_
            refine ev_iconst d_J6_numberOfTrailingZeros_0f7a4_76 kv_iconst_1 ?_
            refine ev_iushr d_J6_numberOfTrailingZeros_0f7a4_77 ?_
            refine ev_iadd d_J6_numberOfTrailingZeros_0f7a4_78 ?_
            exact ev_ret (v := some (.int _)) ⟨d_J6_numberOfTrailingZeros_0f7a4_79, _, rfl, rfl⟩ (by decide) (by decide) ⟨rfl, _, rfl, it_ok_r h⟩
          · have h := it_ok_f h hc5
            refine ev_iinc d_J6_numberOfTrailingZeros_0f7a4_67 kv_iconst_2 rfl (by decide) ?_
            show it_Ev g l 1 it_m_J6_numberOfTrailingZeros_0f7a4 0 0 70 [some (.int ((x0 ^^^ (-1)) &&& (x0 - 1))), some (.int (1 + 2))] [] κ S (it_pi κ P)
            refine ev_iload_n d_J6_numberOfTrailingZeros_0f7a4_70 rfl ?_
            refine ev_iconst d_J6_numberOfTrailingZeros_0f7a4_71 kv_iconst_2 ?_
            refine ev_iushr d_J6_numberOfTrailingZeros_0f7a4_72 ?_
            refine ev_istore_n d_J6_numberOfTrailingZeros_0f7a4_73 (by decide) ?_
            show it_Ev g l 1 it_m_J6_numberOfTrailingZeros_0f7a4 0 0 74 [some (.int (((((x0 ^^^ (-1)) &&& (x0 - 1))).toUInt32 >>> ((2 : Int32).toUInt32 &&& Int32.toUInt32 31)).toInt32)), some (.int (1 + 2))] [] κ S (it_pi κ P)
            refine ev_iload_n d_J6_numberOfTrailingZeros_0f7a4_74 rfl ?_
            refine ev_iload_n d_J6_numberOfTrailingZeros_0f7a4_75 rfl ?_
            refine ev_iconst d_J6_numberOfTrailingZeros_0f7a4_76 kv_iconst_1 ?_
            refine ev_iushr d_J6_numberOfTrailingZeros_0f7a4_77 ?_
            refine ev_iadd d_J6_numberOfTrailingZeros_0f7a4_78 ?_
            exact ev_ret (v := some (.int _)) ⟨d_J6_numberOfTrailingZeros_0f7a4_79, _, rfl, rfl⟩ (by decide) (by decide) ⟨rfl, _, rfl, it_ok_r h⟩
        · have h := it_ok_f h hc4
          refine ev_iinc d_J6_numberOfTrailingZeros_0f7a4_55 kv_iconst_4 rfl (by decide) ?_
          show it_Ev g l 1 it_m_J6_numberOfTrailingZeros_0f7a4 0 0 58 [some (.int ((x0 ^^^ (-1)) &&& (x0 - 1))), some (.int (1 + 4))] [] κ S (it_pi κ P)
          refine ev_iload_n d_J6_numberOfTrailingZeros_0f7a4_58 rfl ?_
          refine ev_iconst d_J6_numberOfTrailingZeros_0f7a4_59 kv_iconst_4 ?_
          refine ev_iushr d_J6_numberOfTrailingZeros_0f7a4_60 ?_
          refine ev_istore_n d_J6_numberOfTrailingZeros_0f7a4_61 (by decide) ?_
          show it_Ev g l 1 it_m_J6_numberOfTrailingZeros_0f7a4 0 0 62 [some (.int (((((x0 ^^^ (-1)) &&& (x0 - 1))).toUInt32 >>> ((4 : Int32).toUInt32 &&& Int32.toUInt32 31)).toInt32)), some (.int (1 + 4))] [] κ S (it_pi κ P)
          refine ev_iload_n d_J6_numberOfTrailingZeros_0f7a4_62 rfl ?_
          refine ev_iconst d_J6_numberOfTrailingZeros_0f7a4_63 kv_iconst_4 ?_
          refine ev_icmp_le (tgt := 74) d_J6_numberOfTrailingZeros_0f7a4_64 (by decide) (fun hc6 => ?_) (fun hc6 => ?_)
          · have h := it_ok_t h hc6
            refine ev_iload_n d_J6_numberOfTrailingZeros_0f7a4_74 rfl ?_
            refine ev_iload_n d_J6_numberOfTrailingZeros_0f7a4_75 rfl ?_
            refine ev_iconst d_J6_numberOfTrailingZeros_0f7a4_76 kv_iconst_1 ?_
            refine ev_iushr d_J6_numberOfTrailingZeros_0f7a4_77 ?_
            refine ev_iadd d_J6_numberOfTrailingZeros_0f7a4_78 ?_
            exact ev_ret (v := some (.int _)) ⟨d_J6_numberOfTrailingZeros_0f7a4_79, _, rfl, rfl⟩ (by decide) (by decide) ⟨rfl, _, rfl, it_ok_r h⟩
          · have h := it_ok_f h hc6
            refine ev_iinc d_J6_numberOfTrailingZeros_0f7a4_67 kv_iconst_2 rfl (by decide) ?_
            show it_Ev g l 1 it_m_J6_numberOfTrailingZeros_0f7a4 0 0 70 [some (.int (((((x0 ^^^ (-1)) &&& (x0 - 1))).toUInt32 >>> ((4 : Int32).toUInt32 &&& Int32.toUInt32 31)).toInt32)), some (.int ((1 + 4) + 2))] [] κ S (it_pi κ P)
            refine ev_iload_n d_J6_numberOfTrailingZeros_0f7a4_70 rfl ?_
            refine ev_iconst d_J6_numberOfTrailingZeros_0f7a4_71 kv_iconst_2 ?_
            refine ev_iushr d_J6_numberOfTrailingZeros_0f7a4_72 ?_
            refine ev_istore_n d_J6_numberOfTrailingZeros_0f7a4_73 (by decide) ?_
            show it_Ev g l 1 it_m_J6_numberOfTrailingZeros_0f7a4 0 0 74 [some (.int (((((((x0 ^^^ (-1)) &&& (x0 - 1))).toUInt32 >>> ((4 : Int32).toUInt32 &&& Int32.toUInt32 31)).toInt32).toUInt32 >>> ((2 : Int32).toUInt32 &&& Int32.toUInt32 31)).toInt32)), some (.int ((1 + 4) + 2))] [] κ S (it_pi κ P)
            refine ev_iload_n d_J6_numberOfTrailingZeros_0f7a4_74 rfl ?_
            refine ev_iload_n d_J6_numberOfTrailingZeros_0f7a4_75 rfl ?_
            refine ev_iconst d_J6_numberOfTrailingZeros_0f7a4_76 kv_iconst_1 ?_
            refine ev_iushr d_J6_numberOfTrailingZeros_0f7a4_77 ?_
            refine ev_iadd d_J6_numberOfTrailingZeros_0f7a4_78 ?_
            exact ev_ret (v := some (.int _)) ⟨d_J6_numberOfTrailingZeros_0f7a4_79, _, rfl, rfl⟩ (by decide) (by decide) ⟨rfl, _, rfl, it_ok_r h⟩
      · have h := it_ok_f h hc3
        refine ev_iinc d_J6_numberOfTrailingZeros_0f7a4_41 kv_iconst_8 rfl (by decide) ?_
        show it_Ev g l 1 it_m_J6_numberOfTrailingZeros_0f7a4 0 0 44 [some (.int ((x0 ^^^ (-1)) &&& (x0 - 1))), some (.int (1 + 8))] [] κ S (it_pi κ P)
        refine ev_iload_n d_J6_numberOfTrailingZeros_0f7a4_44 rfl ?_
        refine ev_bipush d_J6_numberOfTrailingZeros_0f7a4_45 kv_bipush_8 ?_
        refine ev_iushr d_J6_numberOfTrailingZeros_0f7a4_47 ?_
        refine ev_istore_n d_J6_numberOfTrailingZeros_0f7a4_48 (by decide) ?_
        show it_Ev g l 1 it_m_J6_numberOfTrailingZeros_0f7a4 0 0 49 [some (.int (((((x0 ^^^ (-1)) &&& (x0 - 1))).toUInt32 >>> ((8 : Int32).toUInt32 &&& Int32.toUInt32 31)).toInt32)), some (.int (1 + 8))] [] κ S (it_pi κ P)
        refine ev_iload_n d_J6_numberOfTrailingZeros_0f7a4_49 rfl ?_
        refine ev_bipush d_J6_numberOfTrailingZeros_0f7a4_50 kv_bipush_16 ?_
        refine ev_icmp_le (tgt := 62) d_J6_numberOfTrailingZeros_0f7a4_52 (by decide) (fun hc7 => ?_) (fun hc7 => ?_)
        · have h := it_ok_t h hc7
          refine ev_iload_n d_J6_numberOfTrailingZeros_0f7a4_62 rfl ?_
          refine ev_iconst d_J6_numberOfTrailingZeros_0f7a4_63 kv_iconst_4 ?_
          refine ev_icmp_le (tgt := 74) d_J6_numberOfTrailingZeros_0f7a4_64 (by decide) (fun hc8 => ?_) (fun hc8 => ?_)
          · have h := it_ok_t h hc8
            refine ev_iload_n d_J6_numberOfTrailingZeros_0f7a4_74 rfl ?_
            refine ev_iload_n d_J6_numberOfTrailingZeros_0f7a4_75 rfl ?_
            refine ev_iconst d_J6_numberOfTrailingZeros_0f7a4_76 kv_iconst_1 ?_
            refine ev_iushr d_J6_numberOfTrailingZeros_0f7a4_77 ?_
            refine ev_iadd d_J6_numberOfTrailingZeros_0f7a4_78 ?_
            exact ev_ret (v := some (.int _)) ⟨d_J6_numberOfTrailingZeros_0f7a4_79, _, rfl, rfl⟩ (by decide) (by decide) ⟨rfl, _, rfl, it_ok_r h⟩
          · have h := it_ok_f h hc8
            refine ev_iinc d_J6_numberOfTrailingZeros_0f7a4_67 kv_iconst_2 rfl (by decide) ?_
            show it_Ev g l 1 it_m_J6_numberOfTrailingZeros_0f7a4 0 0 70 [some (.int (((((x0 ^^^ (-1)) &&& (x0 - 1))).toUInt32 >>> ((8 : Int32).toUInt32 &&& Int32.toUInt32 31)).toInt32)), some (.int ((1 + 8) + 2))] [] κ S (it_pi κ P)
            refine ev_iload_n d_J6_numberOfTrailingZeros_0f7a4_70 rfl ?_
            refine ev_iconst d_J6_numberOfTrailingZeros_0f7a4_71 kv_iconst_2 ?_
            refine ev_iushr d_J6_numberOfTrailingZeros_0f7a4_72 ?_
            refine ev_istore_n d_J6_numberOfTrailingZeros_0f7a4_73 (by decide) ?_
            show it_Ev g l 1 it_m_J6_numberOfTrailingZeros_0f7a4 0 0 74 [some (.int (((((((x0 ^^^ (-1)) &&& (x0 - 1))).toUInt32 >>> ((8 : Int32).toUInt32 &&& Int32.toUInt32 31)).toInt32).toUInt32 >>> ((2 : Int32).toUInt32 &&& Int32.toUInt32 31)).toInt32)), some (.int ((1 + 8) + 2))] [] κ S (it_pi κ P)
            refine ev_iload_n d_J6_numberOfTrailingZeros_0f7a4_74 rfl ?_
            refine ev_iload_n d_J6_numberOfTrailingZeros_0f7a4_75 rfl ?_
            refine ev_iconst d_J6_numberOfTrailingZeros_0f7a4_76 kv_iconst_1 ?_
            refine ev_iushr d_J6_numberOfTrailingZeros_0f7a4_77 ?_
            refine ev_iadd d_J6_numberOfTrailingZeros_0f7a4_78 ?_
            exact ev_ret (v := some (.int _)) ⟨d_J6_numberOfTrailingZeros_0f7a4_79, _, rfl, rfl⟩ (by decide) (by decide) ⟨rfl, _, rfl, it_ok_r h⟩
        · have h := it_ok_f h hc7
          refine ev_iinc d_J6_numberOfTrailingZeros_0f7a4_55 kv_iconst_4 rfl (by decide) ?_
          show it_Ev g l 1 it_m_J6_numberOfTrailingZeros_0f7a4 0 0 58 [some (.int (((((x0 ^^^ (-1)) &&& (x0 - 1))).toUInt32 >>> ((8 : Int32).toUInt32 &&& Int32.toUInt32 31)).toInt32)), some (.int ((1 + 8) + 4))] [] κ S (it_pi κ P)
          refine ev_iload_n d_J6_numberOfTrailingZeros_0f7a4_58 rfl ?_
          refine ev_iconst d_J6_numberOfTrailingZeros_0f7a4_59 kv_iconst_4 ?_
          refine ev_iushr d_J6_numberOfTrailingZeros_0f7a4_60 ?_
          refine ev_istore_n d_J6_numberOfTrailingZeros_0f7a4_61 (by decide) ?_
          show it_Ev g l 1 it_m_J6_numberOfTrailingZeros_0f7a4 0 0 62 [some (.int (((((((x0 ^^^ (-1)) &&& (x0 - 1))).toUInt32 >>> ((8 : Int32).toUInt32 &&& Int32.toUInt32 31)).toInt32).toUInt32 >>> ((4 : Int32).toUInt32 &&& Int32.toUInt32 31)).toInt32)), some (.int ((1 + 8) + 4))] [] κ S (it_pi κ P)
          refine ev_iload_n d_J6_numberOfTrailingZeros_0f7a4_62 rfl ?_
          refine ev_iconst d_J6_numberOfTrailingZeros_0f7a4_63 kv_iconst_4 ?_
          refine ev_icmp_le (tgt := 74) d_J6_numberOfTrailingZeros_0f7a4_64 (by decide) (fun hc9 => ?_) (fun hc9 => ?_)
          · have h := it_ok_t h hc9
            refine ev_iload_n d_J6_numberOfTrailingZeros_0f7a4_74 rfl ?_
            refine ev_iload_n d_J6_numberOfTrailingZeros_0f7a4_75 rfl ?_
            refine ev_iconst d_J6_numberOfTrailingZeros_0f7a4_76 kv_iconst_1 ?_
            refine ev_iushr d_J6_numberOfTrailingZeros_0f7a4_77 ?_
            refine ev_iadd d_J6_numberOfTrailingZeros_0f7a4_78 ?_
            exact ev_ret (v := some (.int _)) ⟨d_J6_numberOfTrailingZeros_0f7a4_79, _, rfl, rfl⟩ (by decide) (by decide) ⟨rfl, _, rfl, it_ok_r h⟩
          · have h := it_ok_f h hc9
            refine ev_iinc d_J6_numberOfTrailingZeros_0f7a4_67 kv_iconst_2 rfl (by decide) ?_
            show it_Ev g l 1 it_m_J6_numberOfTrailingZeros_0f7a4 0 0 70 [some (.int (((((((x0 ^^^ (-1)) &&& (x0 - 1))).toUInt32 >>> ((8 : Int32).toUInt32 &&& Int32.toUInt32 31)).toInt32).toUInt32 >>> ((4 : Int32).toUInt32 &&& Int32.toUInt32 31)).toInt32)), some (.int (((1 + 8) + 4) + 2))] [] κ S (it_pi κ P)
            refine ev_iload_n d_J6_numberOfTrailingZeros_0f7a4_70 rfl ?_
            refine ev_iconst d_J6_numberOfTrailingZeros_0f7a4_71 kv_iconst_2 ?_
            refine ev_iushr d_J6_numberOfTrailingZeros_0f7a4_72 ?_
            refine ev_istore_n d_J6_numberOfTrailingZeros_0f7a4_73 (by decide) ?_
            show it_Ev g l 1 it_m_J6_numberOfTrailingZeros_0f7a4 0 0 74 [some (.int (((((((((x0 ^^^ (-1)) &&& (x0 - 1))).toUInt32 >>> ((8 : Int32).toUInt32 &&& Int32.toUInt32 31)).toInt32).toUInt32 >>> ((4 : Int32).toUInt32 &&& Int32.toUInt32 31)).toInt32).toUInt32 >>> ((2 : Int32).toUInt32 &&& Int32.toUInt32 31)).toInt32)), some (.int (((1 + 8) + 4) + 2))] [] κ S (it_pi κ P)
            refine ev_iload_n d_J6_numberOfTrailingZeros_0f7a4_74 rfl ?_
            refine ev_iload_n d_J6_numberOfTrailingZeros_0f7a4_75 rfl ?_
            refine ev_iconst d_J6_numberOfTrailingZeros_0f7a4_76 kv_iconst_1 ?_
            refine ev_iushr d_J6_numberOfTrailingZeros_0f7a4_77 ?_
            refine ev_iadd d_J6_numberOfTrailingZeros_0f7a4_78 ?_
            exact ev_ret (v := some (.int _)) ⟨d_J6_numberOfTrailingZeros_0f7a4_79, _, rfl, rfl⟩ (by decide) (by decide) ⟨rfl, _, rfl, it_ok_r h⟩
    · have h := it_ok_f h hc2
      refine ev_iinc d_J6_numberOfTrailingZeros_0f7a4_26 kv_iconst_16 rfl (by decide) ?_
      show it_Ev g l 1 it_m_J6_numberOfTrailingZeros_0f7a4 0 0 29 [some (.int ((x0 ^^^ (-1)) &&& (x0 - 1))), some (.int (1 + 16))] [] κ S (it_pi κ P)
      refine ev_iload_n d_J6_numberOfTrailingZeros_0f7a4_29 rfl ?_
      refine ev_bipush d_J6_numberOfTrailingZeros_0f7a4_30 kv_bipush_16 ?_
      refine ev_iushr d_J6_numberOfTrailingZeros_0f7a4_32 ?_
      refine ev_istore_n d_J6_numberOfTrailingZeros_0f7a4_33 (by decide) ?_
      show it_Ev g l 1 it_m_J6_numberOfTrailingZeros_0f7a4 0 0 34 [some (.int (((((x0 ^^^ (-1)) &&& (x0 - 1))).toUInt32 >>> ((16 : Int32).toUInt32 &&& Int32.toUInt32 31)).toInt32)), some (.int (1 + 16))] [] κ S (it_pi κ P)
      refine ev_iload_n d_J6_numberOfTrailingZeros_0f7a4_34 rfl ?_
      refine ev_sipush d_J6_numberOfTrailingZeros_0f7a4_35 kv_sipush_256 ?_
      refine ev_icmp_le (tgt := 49) d_J6_numberOfTrailingZeros_0f7a4_38 (by decide) (fun hc10 => ?_) (fun hc10 => ?_)
      · have h := it_ok_t h hc10
        refine ev_iload_n d_J6_numberOfTrailingZeros_0f7a4_49 rfl ?_
        refine ev_bipush d_J6_numberOfTrailingZeros_0f7a4_50 kv_bipush_16 ?_
        refine ev_icmp_le (tgt := 62) d_J6_numberOfTrailingZeros_0f7a4_52 (by decide) (fun hc11 => ?_) (fun hc11 => ?_)
        · have h := it_ok_t h hc11
          refine ev_iload_n d_J6_numberOfTrailingZeros_0f7a4_62 rfl ?_
          refine ev_iconst d_J6_numberOfTrailingZeros_0f7a4_63 kv_iconst_4 ?_
          refine ev_icmp_le (tgt := 74) d_J6_numberOfTrailingZeros_0f7a4_64 (by decide) (fun hc12 => ?_) (fun hc12 => ?_)
          · have h := it_ok_t h hc12
            refine ev_iload_n d_J6_numberOfTrailingZeros_0f7a4_74 rfl ?_
            refine ev_iload_n d_J6_numberOfTrailingZeros_0f7a4_75 rfl ?_
            refine ev_iconst d_J6_numberOfTrailingZeros_0f7a4_76 kv_iconst_1 ?_
            refine ev_iushr d_J6_numberOfTrailingZeros_0f7a4_77 ?_
            refine ev_iadd d_J6_numberOfTrailingZeros_0f7a4_78 ?_
            exact ev_ret (v := some (.int _)) ⟨d_J6_numberOfTrailingZeros_0f7a4_79, _, rfl, rfl⟩ (by decide) (by decide) ⟨rfl, _, rfl, it_ok_r h⟩
          · have h := it_ok_f h hc12
            refine ev_iinc d_J6_numberOfTrailingZeros_0f7a4_67 kv_iconst_2 rfl (by decide) ?_
            show it_Ev g l 1 it_m_J6_numberOfTrailingZeros_0f7a4 0 0 70 [some (.int (((((x0 ^^^ (-1)) &&& (x0 - 1))).toUInt32 >>> ((16 : Int32).toUInt32 &&& Int32.toUInt32 31)).toInt32)), some (.int ((1 + 16) + 2))] [] κ S (it_pi κ P)
            refine ev_iload_n d_J6_numberOfTrailingZeros_0f7a4_70 rfl ?_
            refine ev_iconst d_J6_numberOfTrailingZeros_0f7a4_71 kv_iconst_2 ?_
            refine ev_iushr d_J6_numberOfTrailingZeros_0f7a4_72 ?_
            refine ev_istore_n d_J6_numberOfTrailingZeros_0f7a4_73 (by decide) ?_
            show it_Ev g l 1 it_m_J6_numberOfTrailingZeros_0f7a4 0 0 74 [some (.int (((((((x0 ^^^ (-1)) &&& (x0 - 1))).toUInt32 >>> ((16 : Int32).toUInt32 &&& Int32.toUInt32 31)).toInt32).toUInt32 >>> ((2 : Int32).toUInt32 &&& Int32.toUInt32 31)).toInt32)), some (.int ((1 + 16) + 2))] [] κ S (it_pi κ P)
            refine ev_iload_n d_J6_numberOfTrailingZeros_0f7a4_74 rfl ?_
            refine ev_iload_n d_J6_numberOfTrailingZeros_0f7a4_75 rfl ?_
            refine ev_iconst d_J6_numberOfTrailingZeros_0f7a4_76 kv_iconst_1 ?_
            refine ev_iushr d_J6_numberOfTrailingZeros_0f7a4_77 ?_
            refine ev_iadd d_J6_numberOfTrailingZeros_0f7a4_78 ?_
            exact ev_ret (v := some (.int _)) ⟨d_J6_numberOfTrailingZeros_0f7a4_79, _, rfl, rfl⟩ (by decide) (by decide) ⟨rfl, _, rfl, it_ok_r h⟩
        · have h := it_ok_f h hc11
          refine ev_iinc d_J6_numberOfTrailingZeros_0f7a4_55 kv_iconst_4 rfl (by decide) ?_
          show it_Ev g l 1 it_m_J6_numberOfTrailingZeros_0f7a4 0 0 58 [some (.int (((((x0 ^^^ (-1)) &&& (x0 - 1))).toUInt32 >>> ((16 : Int32).toUInt32 &&& Int32.toUInt32 31)).toInt32)), some (.int ((1 + 16) + 4))] [] κ S (it_pi κ P)
          refine ev_iload_n d_J6_numberOfTrailingZeros_0f7a4_58 rfl ?_
          refine ev_iconst d_J6_numberOfTrailingZeros_0f7a4_59 kv_iconst_4 ?_
          refine ev_iushr d_J6_numberOfTrailingZeros_0f7a4_60 ?_
          refine ev_istore_n d_J6_numberOfTrailingZeros_0f7a4_61 (by decide) ?_
          show it_Ev g l 1 it_m_J6_numberOfTrailingZeros_0f7a4 0 0 62 [some (.int (((((((x0 ^^^ (-1)) &&& (x0 - 1))).toUInt32 >>> ((16 : Int32).toUInt32 &&& Int32.toUInt32 31)).toInt32).toUInt32 >>> ((4 : Int32).toUInt32 &&& Int32.toUInt32 31)).toInt32)), some (.int ((1 + 16) + 4))] [] κ S (it_pi κ P)
          refine ev_iload_n d_J6_numberOfTrailingZeros_0f7a4_62 rfl ?_
          refine ev_iconst d_J6_numberOfTrailingZeros_0f7a4_63 kv_iconst_4 ?_
          refine ev_icmp_le (tgt := 74) d_J6_numberOfTrailingZeros_0f7a4_64 (by decide) (fun hc13 => ?_) (fun hc13 => ?_)
          · have h := it_ok_t h hc13
            refine ev_iload_n d_J6_numberOfTrailingZeros_0f7a4_74 rfl ?_
            refine ev_iload_n d_J6_numberOfTrailingZeros_0f7a4_75 rfl ?_
            refine ev_iconst d_J6_numberOfTrailingZeros_0f7a4_76 kv_iconst_1 ?_
            refine ev_iushr d_J6_numberOfTrailingZeros_0f7a4_77 ?_
            refine ev_iadd d_J6_numberOfTrailingZeros_0f7a4_78 ?_
            exact ev_ret (v := some (.int _)) ⟨d_J6_numberOfTrailingZeros_0f7a4_79, _, rfl, rfl⟩ (by decide) (by decide) ⟨rfl, _, rfl, it_ok_r h⟩
          · have h := it_ok_f h hc13
            refine ev_iinc d_J6_numberOfTrailingZeros_0f7a4_67 kv_iconst_2 rfl (by decide) ?_
            show it_Ev g l 1 it_m_J6_numberOfTrailingZeros_0f7a4 0 0 70 [some (.int (((((((x0 ^^^ (-1)) &&& (x0 - 1))).toUInt32 >>> ((16 : Int32).toUInt32 &&& Int32.toUInt32 31)).toInt32).toUInt32 >>> ((4 : Int32).toUInt32 &&& Int32.toUInt32 31)).toInt32)), some (.int (((1 + 16) + 4) + 2))] [] κ S (it_pi κ P)
            refine ev_iload_n d_J6_numberOfTrailingZeros_0f7a4_70 rfl ?_
            refine ev_iconst d_J6_numberOfTrailingZeros_0f7a4_71 kv_iconst_2 ?_
            refine ev_iushr d_J6_numberOfTrailingZeros_0f7a4_72 ?_
            refine ev_istore_n d_J6_numberOfTrailingZeros_0f7a4_73 (by decide) ?_
            show it_Ev g l 1 it_m_J6_numberOfTrailingZeros_0f7a4 0 0 74 [some (.int (((((((((x0 ^^^ (-1)) &&& (x0 - 1))).toUInt32 >>> ((16 : Int32).toUInt32 &&& Int32.toUInt32 31)).toInt32).toUInt32 >>> ((4 : Int32).toUInt32 &&& Int32.toUInt32 31)).toInt32).toUInt32 >>> ((2 : Int32).toUInt32 &&& Int32.toUInt32 31)).toInt32)), some (.int (((1 + 16) + 4) + 2))] [] κ S (it_pi κ P)
            refine ev_iload_n d_J6_numberOfTrailingZeros_0f7a4_74 rfl ?_
            refine ev_iload_n d_J6_numberOfTrailingZeros_0f7a4_75 rfl ?_
            refine ev_iconst d_J6_numberOfTrailingZeros_0f7a4_76 kv_iconst_1 ?_
            refine ev_iushr d_J6_numberOfTrailingZeros_0f7a4_77 ?_
            refine ev_iadd d_J6_numberOfTrailingZeros_0f7a4_78 ?_
            exact ev_ret (v := some (.int _)) ⟨d_J6_numberOfTrailingZeros_0f7a4_79, _, rfl, rfl⟩ (by decide) (by decide) ⟨rfl, _, rfl, it_ok_r h⟩
      · have h := it_ok_f h hc10
        refine ev_iinc d_J6_numberOfTrailingZeros_0f7a4_41 kv_iconst_8 rfl (by decide) ?_
        show it_Ev g l 1 it_m_J6_numberOfTrailingZeros_0f7a4 0 0 44 [some (.int (((((x0 ^^^ (-1)) &&& (x0 - 1))).toUInt32 >>> ((16 : Int32).toUInt32 &&& Int32.toUInt32 31)).toInt32)), some (.int ((1 + 16) + 8))] [] κ S (it_pi κ P)
        refine ev_iload_n d_J6_numberOfTrailingZeros_0f7a4_44 rfl ?_
        refine ev_bipush d_J6_numberOfTrailingZeros_0f7a4_45 kv_bipush_8 ?_
        refine ev_iushr d_J6_numberOfTrailingZeros_0f7a4_47 ?_
        refine ev_istore_n d_J6_numberOfTrailingZeros_0f7a4_48 (by decide) ?_
        show it_Ev g l 1 it_m_J6_numberOfTrailingZeros_0f7a4 0 0 49 [some (.int (((((((x0 ^^^ (-1)) &&& (x0 - 1))).toUInt32 >>> ((16 : Int32).toUInt32 &&& Int32.toUInt32 31)).toInt32).toUInt32 >>> ((8 : Int32).toUInt32 &&& Int32.toUInt32 31)).toInt32)), some (.int ((1 + 16) + 8))] [] κ S (it_pi κ P)
        refine ev_iload_n d_J6_numberOfTrailingZeros_0f7a4_49 rfl ?_
        refine ev_bipush d_J6_numberOfTrailingZeros_0f7a4_50 kv_bipush_16 ?_
        refine ev_icmp_le (tgt := 62) d_J6_numberOfTrailingZeros_0f7a4_52 (by decide) (fun hc14 => ?_) (fun hc14 => ?_)
        · have h := it_ok_t h hc14
          refine ev_iload_n d_J6_numberOfTrailingZeros_0f7a4_62 rfl ?_
          refine ev_iconst d_J6_numberOfTrailingZeros_0f7a4_63 kv_iconst_4 ?_
          refine ev_icmp_le (tgt := 74) d_J6_numberOfTrailingZeros_0f7a4_64 (by decide) (fun hc15 => ?_) (fun hc15 => ?_)
          · have h := it_ok_t h hc15
            refine ev_iload_n d_J6_numberOfTrailingZeros_0f7a4_74 rfl ?_
            refine ev_iload_n d_J6_numberOfTrailingZeros_0f7a4_75 rfl ?_
            refine ev_iconst d_J6_numberOfTrailingZeros_0f7a4_76 kv_iconst_1 ?_
            refine ev_iushr d_J6_numberOfTrailingZeros_0f7a4_77 ?_
            refine ev_iadd d_J6_numberOfTrailingZeros_0f7a4_78 ?_
            exact ev_ret (v := some (.int _)) ⟨d_J6_numberOfTrailingZeros_0f7a4_79, _, rfl, rfl⟩ (by decide) (by decide) ⟨rfl, _, rfl, it_ok_r h⟩
          · have h := it_ok_f h hc15
            refine ev_iinc d_J6_numberOfTrailingZeros_0f7a4_67 kv_iconst_2 rfl (by decide) ?_
            show it_Ev g l 1 it_m_J6_numberOfTrailingZeros_0f7a4 0 0 70 [some (.int (((((((x0 ^^^ (-1)) &&& (x0 - 1))).toUInt32 >>> ((16 : Int32).toUInt32 &&& Int32.toUInt32 31)).toInt32).toUInt32 >>> ((8 : Int32).toUInt32 &&& Int32.toUInt32 31)).toInt32)), some (.int (((1 + 16) + 8) + 2))] [] κ S (it_pi κ P)
            refine ev_iload_n d_J6_numberOfTrailingZeros_0f7a4_70 rfl ?_
            refine ev_iconst d_J6_numberOfTrailingZeros_0f7a4_71 kv_iconst_2 ?_
            refine ev_iushr d_J6_numberOfTrailingZeros_0f7a4_72 ?_
            refine ev_istore_n d_J6_numberOfTrailingZeros_0f7a4_73 (by decide) ?_
            show it_Ev g l 1 it_m_J6_numberOfTrailingZeros_0f7a4 0 0 74 [some (.int (((((((((x0 ^^^ (-1)) &&& (x0 - 1))).toUInt32 >>> ((16 : Int32).toUInt32 &&& Int32.toUInt32 31)).toInt32).toUInt32 >>> ((8 : Int32).toUInt32 &&& Int32.toUInt32 31)).toInt32).toUInt32 >>> ((2 : Int32).toUInt32 &&& Int32.toUInt32 31)).toInt32)), some (.int (((1 + 16) + 8) + 2))] [] κ S (it_pi κ P)
            refine ev_iload_n d_J6_numberOfTrailingZeros_0f7a4_74 rfl ?_
            refine ev_iload_n d_J6_numberOfTrailingZeros_0f7a4_75 rfl ?_
            refine ev_iconst d_J6_numberOfTrailingZeros_0f7a4_76 kv_iconst_1 ?_
            refine ev_iushr d_J6_numberOfTrailingZeros_0f7a4_77 ?_
            refine ev_iadd d_J6_numberOfTrailingZeros_0f7a4_78 ?_
            exact ev_ret (v := some (.int _)) ⟨d_J6_numberOfTrailingZeros_0f7a4_79, _, rfl, rfl⟩ (by decide) (by decide) ⟨rfl, _, rfl, it_ok_r h⟩
        · have h := it_ok_f h hc14
          refine ev_iinc d_J6_numberOfTrailingZeros_0f7a4_55 kv_iconst_4 rfl (by decide) ?_
          show it_Ev g l 1 it_m_J6_numberOfTrailingZeros_0f7a4 0 0 58 [some (.int (((((((x0 ^^^ (-1)) &&& (x0 - 1))).toUInt32 >>> ((16 : Int32).toUInt32 &&& Int32.toUInt32 31)).toInt32).toUInt32 >>> ((8 : Int32).toUInt32 &&& Int32.toUInt32 31)).toInt32)), some (.int (((1 + 16) + 8) + 4))] [] κ S (it_pi κ P)
          refine ev_iload_n d_J6_numberOfTrailingZeros_0f7a4_58 rfl ?_
          refine ev_iconst d_J6_numberOfTrailingZeros_0f7a4_59 kv_iconst_4 ?_
          refine ev_iushr d_J6_numberOfTrailingZeros_0f7a4_60 ?_
          refine ev_istore_n d_J6_numberOfTrailingZeros_0f7a4_61 (by decide) ?_
          show it_Ev g l 1 it_m_J6_numberOfTrailingZeros_0f7a4 0 0 62 [some (.int (((((((((x0 ^^^ (-1)) &&& (x0 - 1))).toUInt32 >>> ((16 : Int32).toUInt32 &&& Int32.toUInt32 31)).toInt32).toUInt32 >>> ((8 : Int32).toUInt32 &&& Int32.toUInt32 31)).toInt32).toUInt32 >>> ((4 : Int32).toUInt32 &&& Int32.toUInt32 31)).toInt32)), some (.int (((1 + 16) + 8) + 4))] [] κ S (it_pi κ P)
          refine ev_iload_n d_J6_numberOfTrailingZeros_0f7a4_62 rfl ?_
          refine ev_iconst d_J6_numberOfTrailingZeros_0f7a4_63 kv_iconst_4 ?_
          refine ev_icmp_le (tgt := 74) d_J6_numberOfTrailingZeros_0f7a4_64 (by decide) (fun hc16 => ?_) (fun hc16 => ?_)
          · have h := it_ok_t h hc16
            refine ev_iload_n d_J6_numberOfTrailingZeros_0f7a4_74 rfl ?_
            refine ev_iload_n d_J6_numberOfTrailingZeros_0f7a4_75 rfl ?_
            refine ev_iconst d_J6_numberOfTrailingZeros_0f7a4_76 kv_iconst_1 ?_
            refine ev_iushr d_J6_numberOfTrailingZeros_0f7a4_77 ?_
            refine ev_iadd d_J6_numberOfTrailingZeros_0f7a4_78 ?_
            exact ev_ret (v := some (.int _)) ⟨d_J6_numberOfTrailingZeros_0f7a4_79, _, rfl, rfl⟩ (by decide) (by decide) ⟨rfl, _, rfl, it_ok_r h⟩
          · have h := it_ok_f h hc16
            refine ev_iinc d_J6_numberOfTrailingZeros_0f7a4_67 kv_iconst_2 rfl (by decide) ?_
            show it_Ev g l 1 it_m_J6_numberOfTrailingZeros_0f7a4 0 0 70 [some (.int (((((((((x0 ^^^ (-1)) &&& (x0 - 1))).toUInt32 >>> ((16 : Int32).toUInt32 &&& Int32.toUInt32 31)).toInt32).toUInt32 >>> ((8 : Int32).toUInt32 &&& Int32.toUInt32 31)).toInt32).toUInt32 >>> ((4 : Int32).toUInt32 &&& Int32.toUInt32 31)).toInt32)), some (.int ((((1 + 16) + 8) + 4) + 2))] [] κ S (it_pi κ P)
            refine ev_iload_n d_J6_numberOfTrailingZeros_0f7a4_70 rfl ?_
            refine ev_iconst d_J6_numberOfTrailingZeros_0f7a4_71 kv_iconst_2 ?_
            refine ev_iushr d_J6_numberOfTrailingZeros_0f7a4_72 ?_
            refine ev_istore_n d_J6_numberOfTrailingZeros_0f7a4_73 (by decide) ?_
            show it_Ev g l 1 it_m_J6_numberOfTrailingZeros_0f7a4 0 0 74 [some (.int (((((((((((x0 ^^^ (-1)) &&& (x0 - 1))).toUInt32 >>> ((16 : Int32).toUInt32 &&& Int32.toUInt32 31)).toInt32).toUInt32 >>> ((8 : Int32).toUInt32 &&& Int32.toUInt32 31)).toInt32).toUInt32 >>> ((4 : Int32).toUInt32 &&& Int32.toUInt32 31)).toInt32).toUInt32 >>> ((2 : Int32).toUInt32 &&& Int32.toUInt32 31)).toInt32)), some (.int ((((1 + 16) + 8) + 4) + 2))] [] κ S (it_pi κ P)
            refine ev_iload_n d_J6_numberOfTrailingZeros_0f7a4_74 rfl ?_
            refine ev_iload_n d_J6_numberOfTrailingZeros_0f7a4_75 rfl ?_
            refine ev_iconst d_J6_numberOfTrailingZeros_0f7a4_76 kv_iconst_1 ?_
            refine ev_iushr d_J6_numberOfTrailingZeros_0f7a4_77 ?_
            refine ev_iadd d_J6_numberOfTrailingZeros_0f7a4_78 ?_
            exact ev_ret (v := some (.int _)) ⟨d_J6_numberOfTrailingZeros_0f7a4_79, _, rfl, rfl⟩ (by decide) (by decide) ⟨rfl, _, rfl, it_ok_r h⟩
  · have h := it_ok_f h hc1
    refine ev_iload_n d_J6_numberOfTrailingZeros_0f7a4_12 rfl ?_
    refine ev_bipush d_J6_numberOfTrailingZeros_0f7a4_13 kv_bipush_32 ?_
    refine ev_iand d_J6_numberOfTrailingZeros_0f7a4_15 ?_
    exact ev_ret (v := some (.int _)) ⟨d_J6_numberOfTrailingZeros_0f7a4_16, _, rfl, rfl⟩ (by decide) (by decide) ⟨rfl, _, rfl, it_ok_r h⟩
theorem d_X5_isOutside_0 : decode prog_1_method_40_code 0 = .ok (.iload_n 0, 1) := by decide +kernel
theorem d_X5_isOutside_1 : decode prog_1_method_40_code 1 = .ok (.iload_n 1, 1) := by decide +kernel
theorem d_X5_isOutside_2 : decode prog_1_method_40_code 2 = .ok (.if_icmp .lt 8, 3) := by decide +kernel
theorem d_X5_isOutside_5 : decode prog_1_method_40_code 5 = .ok (.iload_n 0, 1) := by decide +kernel
theorem d_X5_isOutside_6 : decode prog_1_method_40_code 6 = .ok (.iload_n 2, 1) := by decide +kernel
theorem d_X5_isOutside_7 : decode prog_1_method_40_code 7 = .ok (.if_icmp .le 7, 3) := by decide +kernel
theorem d_X5_isOutside_10 : decode prog_1_method_40_code 10 = .ok (.iconst 1, 1) := by decide +kernel
theorem d_X5_isOutside_11 : decode prog_1_method_40_code 11 = .ok (.goto 4, 3) := by decide +kernel
theorem d_X5_isOutside_14 : decode prog_1_method_40_code 14 = .ok (.iconst 0, 1) := by decide +kernel
theorem d_X5_isOutside_15 : decode prog_1_method_40_code 15 = .ok (.ireturn, 1) := by decide +kernel
def f_X5_isOutside (κ : it_KK) (x0 : Int32) (x1 : Int32) (x2 : Int32) (S : it_SS) : Option (Int32 × it_SS) :=
if x0 < x1 then
some (1, S)
else
if x0 ≤ x2 then
some (0, S)
else
some (1, S)
set_option maxHeartbeats 4000000 in
set_option maxRecDepth 100000 in
theorem L_X5_isOutside {g : it_G} {l : Launch} {κ : it_KK} {x0 : Int32} {x1 : Int32} {x2 : Int32} {S : it_SS} {P : Int32 → it_SS → Prop} (h : it_ok (f_X5_isOutside κ x0 x1 x2 S) P) : it_Cn g l 1 it_m_X5_isOutside [.int x0, .int x1, .int x2] κ S (it_pi κ P) := by
  refine it_Cn.of (by decide +kernel) (Nat.le_of_ble_eq_true rfl) ?_
  rw [f_X5_isOutside] at h
  show it_Ev g l 1 it_m_X5_isOutside 0 0 0 [some (.int x0), some (.int x1), some (.int x2)] [] κ S (it_pi κ P)
  refine ev_iload_n d_X5_isOutside_0 rfl ?_
  refine ev_iload_n d_X5_isOutside_1 rfl ?_
  refine ev_icmp_lt (tgt := 10) d_X5_isOutside_2 (by decide) (fun hc1 => ?_) (fun hc1 => ?_)
  · have h := it_ok_t h hc1
    refine ev_iconst d_X5_isOutside_10 kv_iconst_1 ?_
    refine ev_goto (tgt := 15) d_X5_isOutside_11 (by decide) ?_
    exact ev_ret (v := some (.int _)) ⟨d_X5_isOutside_15, _, rfl, rfl⟩ (by decide) (by decide) ⟨rfl, _, rfl, it_ok_r h⟩
  · have h := it_ok_f h hc1
    refine ev_iload_n d_X5_isOutside_5 rfl ?_
    refine ev_iload_n d_X5_isOutside_6 rfl ?_
    refine ev_icmp_le (tgt := 14) d_X5_isOutside_7 (by decide) (fun hc2 => ?_) (fun hc2 => ?_)
    · have h := it_ok_t h hc2
      refine ev_iconst d_X5_isOutside_14 kv_iconst_0 ?_
      exact ev_ret (v := some (.int _)) ⟨d_X5_isOutside_15, _, rfl, rfl⟩ (by decide) (by decide) ⟨rfl, _, rfl, it_ok_r h⟩
    · have h := it_ok_f h hc2
      refine ev_iconst d_X5_isOutside_10 kv_iconst_1 ?_
      refine ev_goto (tgt := 15) d_X5_isOutside_11 (by decide) ?_
      exact ev_ret (v := some (.int _)) ⟨d_X5_isOutside_15, _, rfl, rfl⟩ (by decide) (by decide) ⟨rfl, _, rfl, it_ok_r h⟩
theorem d_X5_isNoByte_0 : decode prog_1_method_41_code 0 = .ok (.iload_n 0, 1) := by decide +kernel
theorem d_X5_isNoByte_1 : decode prog_1_method_41_code 1 = .ok (.iconst 0, 1) := by decide +kernel
theorem d_X5_isNoByte_2 : decode prog_1_method_41_code 2 = .ok (.sipush 255, 3) := by decide +kernel
theorem d_X5_isNoByte_5 : decode prog_1_method_41_code 5 = .ok (.invokestatic 96, 3) := by decide +kernel
theorem d_X5_isNoByte_8 : decode prog_1_method_41_code 8 = .ok (.ireturn, 1) := by decide +kernel
def f_X5_isNoByte (κ : it_KK) (x0 : Int32) (S : it_SS) : Option (Int32 × it_SS) :=
it_bi (f_X5_isOutside κ x0 0 255 S) (fun r2 S1 =>
if it_bz r2 = true then some (r2, S1) else none)
set_option maxHeartbeats 4000000 in
set_option maxRecDepth 100000 in
theorem L_X5_isNoByte {g : it_G} {l : Launch} {κ : it_KK} {x0 : Int32} {S : it_SS} {P : Int32 → it_SS → Prop} (h : it_ok (f_X5_isNoByte κ x0 S) P) : it_Cn g l 2 it_m_X5_isNoByte [.int x0] κ S (it_pi κ P) := by
  refine it_Cn.of (by decide +kernel) (Nat.le_of_ble_eq_true rfl) ?_
  rw [f_X5_isNoByte] at h
  show it_Ev g l 2 it_m_X5_isNoByte 0 0 0 [some (.int x0)] [] κ S (it_pi κ P)
  refine ev_iload_n d_X5_isNoByte_0 rfl ?_
  refine ev_iconst d_X5_isNoByte_1 kv_iconst_0 ?_
  refine ev_sipush d_X5_isNoByte_2 kv_sipush_255 ?_
  refine ev_callS (M' := it_m_X5_isOutside) (d' := 1) (As := [.int x0, .int 0, .int 255]) d_X5_isNoByte_5 ml_IcedTooSoon_96 rfl rfl (Nat.le_of_ble_eq_true rfl) (by decide) (by decide) (by decide) (L_X5_isOutside  (it_ok_b h)) (fun _ _ _ _ q => by cases q.1; rfl) ?_
  rintro _ _ S1 ⟨rfl, r2, rfl, h⟩
  show it_Ev g l 2 it_m_X5_isNoByte 0 0 8 [some (.int x0)] [.int r2] κ S1 (it_pi κ P)
  obtain ⟨hz3, h⟩ := it_ok_g h
  exact ev_ret (v := some (.int _)) ⟨d_X5_isNoByte_8, _, rfl, it_bz_n hz3⟩ (by decide) (by decide) ⟨rfl, _, rfl, it_ok_r h⟩
theorem d_X5_isNoSheet_0 : decode prog_1_method_42_code 0 = .ok (.iload_n 0, 1) := by decide +kernel
theorem d_X5_isNoSheet_1 : decode prog_1_method_42_code 1 = .ok (.iconst 0, 1) := by decide +kernel
theorem d_X5_isNoSheet_2 : decode prog_1_method_42_code 2 = .ok (.iconst 3, 1) := by decide +kernel
theorem d_X5_isNoSheet_3 : decode prog_1_method_42_code 3 = .ok (.invokestatic 96, 3) := by decide +kernel
theorem d_X5_isNoSheet_6 : decode prog_1_method_42_code 6 = .ok (.ireturn, 1) := by decide +kernel
def f_X5_isNoSheet (κ : it_KK) (x0 : Int32) (S : it_SS) : Option (Int32 × it_SS) :=
it_bi (f_X5_isOutside κ x0 0 3 S) (fun r2 S1 =>
if it_bz r2 = true then some (r2, S1) else none)
set_option maxHeartbeats 4000000 in
set_option maxRecDepth 100000 in
theorem L_X5_isNoSheet {g : it_G} {l : Launch} {κ : it_KK} {x0 : Int32} {S : it_SS} {P : Int32 → it_SS → Prop} (h : it_ok (f_X5_isNoSheet κ x0 S) P) : it_Cn g l 2 it_m_X5_isNoSheet [.int x0] κ S (it_pi κ P) := by
  refine it_Cn.of (by decide +kernel) (Nat.le_of_ble_eq_true rfl) ?_
  rw [f_X5_isNoSheet] at h
  show it_Ev g l 2 it_m_X5_isNoSheet 0 0 0 [some (.int x0)] [] κ S (it_pi κ P)
  refine ev_iload_n d_X5_isNoSheet_0 rfl ?_
  refine ev_iconst d_X5_isNoSheet_1 kv_iconst_0 ?_
  refine ev_iconst d_X5_isNoSheet_2 kv_iconst_3 ?_
  refine ev_callS (M' := it_m_X5_isOutside) (d' := 1) (As := [.int x0, .int 0, .int 3]) d_X5_isNoSheet_3 ml_IcedTooSoon_96 rfl rfl (Nat.le_of_ble_eq_true rfl) (by decide) (by decide) (by decide) (L_X5_isOutside  (it_ok_b h)) (fun _ _ _ _ q => by cases q.1; rfl) ?_
  rintro _ _ S1 ⟨rfl, r2, rfl, h⟩
  show it_Ev g l 2 it_m_X5_isNoSheet 0 0 6 [some (.int x0)] [.int r2] κ S1 (it_pi κ P)
  obtain ⟨hz3, h⟩ := it_ok_g h
  exact ev_ret (v := some (.int _)) ⟨d_X5_isNoSheet_6, _, rfl, it_bz_n hz3⟩ (by decide) (by decide) ⟨rfl, _, rfl, it_ok_r h⟩
theorem d_X5_bounded_0 : decode prog_1_method_43_code 0 = .ok (.iload_n 1, 1) := by decide +kernel
theorem d_X5_bounded_1 : decode prog_1_method_43_code 1 = .ok (.iload_n 2, 1) := by decide +kernel
theorem d_X5_bounded_2 : decode prog_1_method_43_code 2 = .ok (.iload_n 0, 1) := by decide +kernel
theorem d_X5_bounded_3 : decode prog_1_method_43_code 3 = .ok (.invokestatic 256, 3) := by decide +kernel
theorem d_X5_bounded_6 : decode prog_1_method_43_code 6 = .ok (.invokestatic 261, 3) := by decide +kernel
theorem d_X5_bounded_9 : decode prog_1_method_43_code 9 = .ok (.ireturn, 1) := by decide +kernel
def f_X5_bounded (κ : it_KK) (x0 : Int32) (x1 : Int32) (x2 : Int32) (S : it_SS) : Option (Int32 × it_SS) :=
some ((if x1 < (if x0 < x2 then x0 else x2) then (if x0 < x2 then x0 else x2) else x1), S)
set_option maxHeartbeats 4000000 in
set_option maxRecDepth 100000 in
theorem L_X5_bounded {g : it_G} {l : Launch} {κ : it_KK} {x0 : Int32} {x1 : Int32} {x2 : Int32} {S : it_SS} {P : Int32 → it_SS → Prop} (h : it_ok (f_X5_bounded κ x0 x1 x2 S) P) : it_Cn g l 2 it_m_X5_bounded [.int x0, .int x1, .int x2] κ S (it_pi κ P) := by
  refine it_Cn.of (by decide +kernel) (Nat.le_of_ble_eq_true rfl) ?_
  rw [f_X5_bounded] at h
  show it_Ev g l 2 it_m_X5_bounded 0 0 0 [some (.int x0), some (.int x1), some (.int x2)] [] κ S (it_pi κ P)
  refine ev_iload_n d_X5_bounded_0 rfl ?_
  refine ev_iload_n d_X5_bounded_1 rfl ?_
  refine ev_iload_n d_X5_bounded_2 rfl ?_
  refine ev_mmin d_X5_bounded_3 mp_IcedTooSoon_256 (by decide) (Nat.le_of_ble_eq_true rfl) (by decide) (by decide) ?_
  refine ev_mmax d_X5_bounded_6 mp_IcedTooSoon_261 (by decide) (Nat.le_of_ble_eq_true rfl) (by decide) (by decide) ?_
  exact ev_ret (v := some (.int _)) ⟨d_X5_bounded_9, _, rfl, rfl⟩ (by decide) (by decide) ⟨rfl, _, rfl, it_ok_r h⟩
theorem d_X5_oneOf_0 : decode prog_1_method_45_code 0 = .ok (.iload_n 0, 1) := by decide +kernel
theorem d_X5_oneOf_1 : decode prog_1_method_45_code 1 = .ok (.bipush 10, 2) := by decide +kernel
theorem d_X5_oneOf_3 : decode prog_1_method_45_code 3 = .ok (.bipush 29, 2) := by decide +kernel
theorem d_X5_oneOf_5 : decode prog_1_method_45_code 5 = .ok (.invokestatic 96, 3) := by decide +kernel
theorem d_X5_oneOf_8 : decode prog_1_method_45_code 8 = .ok (.ifCond .eq 5, 3) := by decide +kernel
theorem d_X5_oneOf_11 : decode prog_1_method_45_code 11 = .ok (.iconst (-1), 1) := by decide +kernel
theorem d_X5_oneOf_12 : decode prog_1_method_45_code 12 = .ok (.ireturn, 1) := by decide +kernel
theorem d_X5_oneOf_13 : decode prog_1_method_45_code 13 = .ok (.iload_n 0, 1) := by decide +kernel
theorem d_X5_oneOf_14 : decode prog_1_method_45_code 14 = .ok (.bipush 10, 2) := by decide +kernel
theorem d_X5_oneOf_16 : decode prog_1_method_45_code 16 = .ok (.irem, 1) := by decide +kernel
theorem d_X5_oneOf_17 : decode prog_1_method_45_code 17 = .ok (.ireturn, 1) := by decide +kernel
def f_X5_oneOf (κ : it_KK) (x0 : Int32) (S : it_SS) : Option (Int32 × it_SS) :=
it_bi (f_X5_isOutside κ x0 10 29 S) (fun r2 S1 =>
if r2 = 0 then
some ((x0 - x0 / 10 * 10), S1)
else
some ((-1), S1))
set_option maxHeartbeats 4000000 in
set_option maxRecDepth 100000 in
theorem L_X5_oneOf {g : it_G} {l : Launch} {κ : it_KK} {x0 : Int32} {S : it_SS} {P : Int32 → it_SS → Prop} (h : it_ok (f_X5_oneOf κ x0 S) P) : it_Cn g l 2 it_m_X5_oneOf [.int x0] κ S (it_pi κ P) := by
  refine it_Cn.of (by decide +kernel) (Nat.le_of_ble_eq_true rfl) ?_
  rw [f_X5_oneOf] at h
  show it_Ev g l 2 it_m_X5_oneOf 0 0 0 [some (.int x0)] [] κ S (it_pi κ P)
  refine ev_iload_n d_X5_oneOf_0 rfl ?_
  refine ev_bipush d_X5_oneOf_1 kv_bipush_10 ?_
  refine ev_bipush d_X5_oneOf_3 kv_bipush_29 ?_
  refine ev_callS (M' := it_m_X5_isOutside) (d' := 1) (As := [.int x0, .int 10, .int 29]) d_X5_oneOf_5 ml_IcedTooSoon_96 rfl rfl (Nat.le_of_ble_eq_true rfl) (by decide) (by decide) (by decide) (L_X5_isOutside  (it_ok_b h)) (fun _ _ _ _ q => by cases q.1; rfl) ?_
  rintro _ _ S1 ⟨rfl, r2, rfl, h⟩
  show it_Ev g l 2 it_m_X5_oneOf 0 0 8 [some (.int x0)] [.int r2] κ S1 (it_pi κ P)
  refine ev_if_eq (tgt := 13) d_X5_oneOf_8 (by decide) (fun hc3 => ?_) (fun hc3 => ?_)
  · have h := it_ok_t h hc3
    refine ev_iload_n d_X5_oneOf_13 rfl ?_
    refine ev_bipush d_X5_oneOf_14 kv_bipush_10 ?_
    refine ev_irem d_X5_oneOf_16 (by decide) ?_
    exact ev_ret (v := some (.int _)) ⟨d_X5_oneOf_17, _, rfl, rfl⟩ (by decide) (by decide) ⟨rfl, _, rfl, it_ok_r h⟩
  · have h := it_ok_f h hc3
    refine ev_iconst d_X5_oneOf_11 kv_iconst_m1 ?_
    exact ev_ret (v := some (.int _)) ⟨d_X5_oneOf_12, _, rfl, rfl⟩ (by decide) (by decide) ⟨rfl, _, rfl, it_ok_r h⟩
theorem d_X5_isAhead_0 : decode prog_1_method_46_code 0 = .ok (.iload_n 0, 1) := by decide +kernel
theorem d_X5_isAhead_1 : decode prog_1_method_46_code 1 = .ok (.invokestatic 267, 3) := by decide +kernel
theorem d_X5_isAhead_4 : decode prog_1_method_46_code 4 = .ok (.iload_n 1, 1) := by decide +kernel
theorem d_X5_isAhead_5 : decode prog_1_method_46_code 5 = .ok (.invokestatic 267, 3) := by decide +kernel
theorem d_X5_isAhead_8 : decode prog_1_method_46_code 8 = .ok (.isub, 1) := by decide +kernel
theorem d_X5_isAhead_9 : decode prog_1_method_46_code 9 = .ok (.istore_n 2, 1) := by decide +kernel
theorem d_X5_isAhead_10 : decode prog_1_method_46_code 10 = .ok (.iload_n 2, 1) := by decide +kernel
theorem d_X5_isAhead_11 : decode prog_1_method_46_code 11 = .ok (.ifCond .eq 13, 3) := by decide +kernel
theorem d_X5_isAhead_14 : decode prog_1_method_46_code 14 = .ok (.iload_n 2, 1) := by decide +kernel
theorem d_X5_isAhead_15 : decode prog_1_method_46_code 15 = .ok (.ifCond .ge 7, 3) := by decide +kernel
theorem d_X5_isAhead_18 : decode prog_1_method_46_code 18 = .ok (.iconst 1, 1) := by decide +kernel
theorem d_X5_isAhead_19 : decode prog_1_method_46_code 19 = .ok (.goto 4, 3) := by decide +kernel
theorem d_X5_isAhead_22 : decode prog_1_method_46_code 22 = .ok (.iconst 0, 1) := by decide +kernel
theorem d_X5_isAhead_23 : decode prog_1_method_46_code 23 = .ok (.ireturn, 1) := by decide +kernel
theorem d_X5_isAhead_24 : decode prog_1_method_46_code 24 = .ok (.iload_n 0, 1) := by decide +kernel
theorem d_X5_isAhead_25 : decode prog_1_method_46_code 25 = .ok (.iload_n 1, 1) := by decide +kernel
theorem d_X5_isAhead_26 : decode prog_1_method_46_code 26 = .ok (.ixor, 1) := by decide +kernel
theorem d_X5_isAhead_27 : decode prog_1_method_46_code 27 = .ok (.istore_n 3, 1) := by decide +kernel
theorem d_X5_isAhead_28 : decode prog_1_method_46_code 28 = .ok (.iload_n 1, 1) := by decide +kernel
theorem d_X5_isAhead_29 : decode prog_1_method_46_code 29 = .ok (.iload_n 3, 1) := by decide +kernel
theorem d_X5_isAhead_30 : decode prog_1_method_46_code 30 = .ok (.iand, 1) := by decide +kernel
theorem d_X5_isAhead_31 : decode prog_1_method_46_code 31 = .ok (.iload_n 3, 1) := by decide +kernel
theorem d_X5_isAhead_32 : decode prog_1_method_46_code 32 = .ok (.ineg, 1) := by decide +kernel
theorem d_X5_isAhead_33 : decode prog_1_method_46_code 33 = .ok (.iand, 1) := by decide +kernel
theorem d_X5_isAhead_34 : decode prog_1_method_46_code 34 = .ok (.ifCond .eq 7, 3) := by decide +kernel
theorem d_X5_isAhead_37 : decode prog_1_method_46_code 37 = .ok (.iconst 1, 1) := by decide +kernel
theorem d_X5_isAhead_38 : decode prog_1_method_46_code 38 = .ok (.goto 4, 3) := by decide +kernel
theorem d_X5_isAhead_41 : decode prog_1_method_46_code 41 = .ok (.iconst 0, 1) := by decide +kernel
theorem d_X5_isAhead_42 : decode prog_1_method_46_code 42 = .ok (.ireturn, 1) := by decide +kernel
def f_X5_isAhead (κ : it_KK) (x0 : Int32) (x1 : Int32) (S : it_SS) : Option (Int32 × it_SS) :=
it_bi (f_J6_bitCount_0f7a4 κ x0 S) (fun r2 S1 =>
it_bi (f_J6_bitCount_0f7a4 κ x1 S1) (fun r4 S3 =>
if (r2 - r4) = 0 then
if ((x1 &&& (x0 ^^^ x1)) &&& (-(x0 ^^^ x1))) = 0 then
some (0, S3)
else
some (1, S3)
else
if 0 ≤ (r2 - r4) then
some (0, S3)
else
some (1, S3)))
set_option maxHeartbeats 4000000 in
set_option maxRecDepth 100000 in
theorem L_X5_isAhead {g : it_G} {l : Launch} {κ : it_KK} {x0 : Int32} {x1 : Int32} {S : it_SS} {P : Int32 → it_SS → Prop} (h : it_ok (f_X5_isAhead κ x0 x1 S) P) : it_Cn g l 2 it_m_X5_isAhead [.int x0, .int x1] κ S (it_pi κ P) := by
  refine it_Cn.of (by decide +kernel) (Nat.le_of_ble_eq_true rfl) ?_
  rw [f_X5_isAhead] at h
  show it_Ev g l 2 it_m_X5_isAhead 0 0 0 [some (.int x0), some (.int x1), none, none] [] κ S (it_pi κ P)
  refine ev_iload_n d_X5_isAhead_0 rfl ?_
  refine ev_callS (M' := it_m_J6_bitCount_0f7a4) (d' := 1) (As := [.int x0]) d_X5_isAhead_1 ml_IcedTooSoon_267 rfl rfl (Nat.le_of_ble_eq_true rfl) (by decide) (by decide) (by decide) (L_J6_bitCount_0f7a4  (it_ok_b h)) (fun _ _ _ _ q => by cases q.1; rfl) ?_
  rintro _ _ S1 ⟨rfl, r2, rfl, h⟩
  show it_Ev g l 2 it_m_X5_isAhead 0 0 4 [some (.int x0), some (.int x1), none, none] [.int r2] κ S1 (it_pi κ P)
  refine ev_iload_n d_X5_isAhead_4 rfl ?_
  refine ev_callS (M' := it_m_J6_bitCount_0f7a4) (d' := 1) (As := [.int x1]) d_X5_isAhead_5 ml_IcedTooSoon_267 rfl rfl (Nat.le_of_ble_eq_true rfl) (by decide) (by decide) (by decide) (L_J6_bitCount_0f7a4  (it_ok_b h)) (fun _ _ _ _ q => by cases q.1; rfl) ?_
  rintro _ _ S3 ⟨rfl, r4, rfl, h⟩
  show it_Ev g l 2 it_m_X5_isAhead 0 0 8 [some (.int x0), some (.int x1), none, none] [.int r4, .int r2] κ S3 (it_pi κ P)
  refine ev_isub d_X5_isAhead_8 ?_
  refine ev_istore_n d_X5_isAhead_9 (by decide) ?_
  show it_Ev g l 2 it_m_X5_isAhead 0 0 10 [some (.int x0), some (.int x1), some (.int (r2 - r4)), none] [] κ S3 (it_pi κ P)
  refine ev_iload_n d_X5_isAhead_10 rfl ?_
  refine ev_if_eq (tgt := 24) d_X5_isAhead_11 (by decide) (fun hc5 => ?_) (fun hc5 => ?_)
  · have h := it_ok_t h hc5
    refine ev_iload_n d_X5_isAhead_24 rfl ?_
    refine ev_iload_n d_X5_isAhead_25 rfl ?_
    refine ev_ixor d_X5_isAhead_26 ?_
    refine ev_istore_n d_X5_isAhead_27 (by decide) ?_
    show it_Ev g l 2 it_m_X5_isAhead 0 0 28 [some (.int x0), some (.int x1), some (.int (r2 - r4)), some (.int (x0 ^^^ x1))] [] κ S3 (it_pi κ P)
    refine ev_iload_n d_X5_isAhead_28 rfl ?_
    refine ev_iload_n d_X5_isAhead_29 rfl ?_
    refine ev_iand d_X5_isAhead_30 ?_
    refine ev_iload_n d_X5_isAhead_31 rfl ?_
    refine ev_ineg d_X5_isAhead_32 ?_
    refine ev_iand d_X5_isAhead_33 ?_
    refine ev_if_eq (tgt := 41) d_X5_isAhead_34 (by decide) (fun hc6 => ?_) (fun hc6 => ?_)
    · have h := it_ok_t h hc6
      refine ev_iconst d_X5_isAhead_41 kv_iconst_0 ?_
      exact ev_ret (v := some (.int _)) ⟨d_X5_isAhead_42, _, rfl, rfl⟩ (by decide) (by decide) ⟨rfl, _, rfl, it_ok_r h⟩
    · have h := it_ok_f h hc6
      refine ev_iconst d_X5_isAhead_37 kv_iconst_1 ?_
      refine ev_goto (tgt := 42) d_X5_isAhead_38 (by decide) ?_
      exact ev_ret (v := some (.int _)) ⟨d_X5_isAhead_42, _, rfl, rfl⟩ (by decide) (by decide) ⟨rfl, _, rfl, it_ok_r h⟩
  · have h := it_ok_f h hc5
    refine ev_iload_n d_X5_isAhead_14 rfl ?_
    refine ev_if_ge (tgt := 22) d_X5_isAhead_15 (by decide) (fun hc7 => ?_) (fun hc7 => ?_)
    · have h := it_ok_t h hc7
      refine ev_iconst d_X5_isAhead_22 kv_iconst_0 ?_
      exact ev_ret (v := some (.int _)) ⟨d_X5_isAhead_23, _, rfl, rfl⟩ (by decide) (by decide) ⟨rfl, _, rfl, it_ok_r h⟩
    · have h := it_ok_f h hc7
      refine ev_iconst d_X5_isAhead_18 kv_iconst_1 ?_
      refine ev_goto (tgt := 23) d_X5_isAhead_19 (by decide) ?_
      exact ev_ret (v := some (.int _)) ⟨d_X5_isAhead_23, _, rfl, rfl⟩ (by decide) (by decide) ⟨rfl, _, rfl, it_ok_r h⟩
theorem d_X5_inLowestTerms_0 : decode prog_1_method_47_code 0 = .ok (.iload_n 0, 1) := by decide +kernel
theorem d_X5_inLowestTerms_1 : decode prog_1_method_47_code 1 = .ok (.invokestatic 272, 3) := by decide +kernel
theorem d_X5_inLowestTerms_4 : decode prog_1_method_47_code 4 = .ok (.istore_n 3, 1) := by decide +kernel
theorem d_X5_inLowestTerms_5 : decode prog_1_method_47_code 5 = .ok (.iload_n 1, 1) := by decide +kernel
theorem d_X5_inLowestTerms_6 : decode prog_1_method_47_code 6 = .ok (.istore 4, 2) := by decide +kernel
theorem d_X5_inLowestTerms_8 : decode prog_1_method_47_code 8 = .ok (.iconst 0, 1) := by decide +kernel
theorem d_X5_inLowestTerms_9 : decode prog_1_method_47_code 9 = .ok (.istore 5, 2) := by decide +kernel
theorem d_X5_inLowestTerms_11 : decode prog_1_method_47_code 11 = .ok (.iload 5, 2) := by decide +kernel
theorem d_X5_inLowestTerms_13 : decode prog_1_method_47_code 13 = .ok (.bipush 64, 2) := by decide +kernel
theorem d_X5_inLowestTerms_15 : decode prog_1_method_47_code 15 = .ok (.if_icmp .ge 25, 3) := by decide +kernel
theorem d_X5_inLowestTerms_18 : decode prog_1_method_47_code 18 = .ok (.iload_n 3, 1) := by decide +kernel
theorem d_X5_inLowestTerms_19 : decode prog_1_method_47_code 19 = .ok (.ifCond .eq 21, 3) := by decide +kernel
theorem d_X5_inLowestTerms_22 : decode prog_1_method_47_code 22 = .ok (.iload 4, 2) := by decide +kernel
theorem d_X5_inLowestTerms_24 : decode prog_1_method_47_code 24 = .ok (.iload_n 3, 1) := by decide +kernel
theorem d_X5_inLowestTerms_25 : decode prog_1_method_47_code 25 = .ok (.irem, 1) := by decide +kernel
theorem d_X5_inLowestTerms_26 : decode prog_1_method_47_code 26 = .ok (.istore 6, 2) := by decide +kernel
theorem d_X5_inLowestTerms_28 : decode prog_1_method_47_code 28 = .ok (.iload_n 3, 1) := by decide +kernel
theorem d_X5_inLowestTerms_29 : decode prog_1_method_47_code 29 = .ok (.istore 4, 2) := by decide +kernel
theorem d_X5_inLowestTerms_31 : decode prog_1_method_47_code 31 = .ok (.iload 6, 2) := by decide +kernel
theorem d_X5_inLowestTerms_33 : decode prog_1_method_47_code 33 = .ok (.istore_n 3, 1) := by decide +kernel
theorem d_X5_inLowestTerms_34 : decode prog_1_method_47_code 34 = .ok (.iinc 5 1, 3) := by decide +kernel
theorem d_X5_inLowestTerms_37 : decode prog_1_method_47_code 37 = .ok (.goto (-26), 3) := by decide +kernel
theorem d_X5_inLowestTerms_40 : decode prog_1_method_47_code 40 = .ok (.iload 4, 2) := by decide +kernel
theorem d_X5_inLowestTerms_42 : decode prog_1_method_47_code 42 = .ok (.ifCond .ne 7, 3) := by decide +kernel
theorem d_X5_inLowestTerms_45 : decode prog_1_method_47_code 45 = .ok (.ldc2_w 198, 3) := by decide +kernel
theorem d_X5_inLowestTerms_48 : decode prog_1_method_47_code 48 = .ok (.lreturn, 1) := by decide +kernel
theorem d_X5_inLowestTerms_49 : decode prog_1_method_47_code 49 = .ok (.iload_n 2, 1) := by decide +kernel
theorem d_X5_inLowestTerms_50 : decode prog_1_method_47_code 50 = .ok (.ifCond .ne 11, 3) := by decide +kernel
theorem d_X5_inLowestTerms_53 : decode prog_1_method_47_code 53 = .ok (.iload_n 0, 1) := by decide +kernel
theorem d_X5_inLowestTerms_54 : decode prog_1_method_47_code 54 = .ok (.iload 4, 2) := by decide +kernel
theorem d_X5_inLowestTerms_56 : decode prog_1_method_47_code 56 = .ok (.idiv, 1) := by decide +kernel
theorem d_X5_inLowestTerms_57 : decode prog_1_method_47_code 57 = .ok (.i2l, 1) := by decide +kernel
theorem d_X5_inLowestTerms_58 : decode prog_1_method_47_code 58 = .ok (.goto 8, 3) := by decide +kernel
theorem d_X5_inLowestTerms_61 : decode prog_1_method_47_code 61 = .ok (.iload_n 1, 1) := by decide +kernel
theorem d_X5_inLowestTerms_62 : decode prog_1_method_47_code 62 = .ok (.iload 4, 2) := by decide +kernel
theorem d_X5_inLowestTerms_64 : decode prog_1_method_47_code 64 = .ok (.idiv, 1) := by decide +kernel
theorem d_X5_inLowestTerms_65 : decode prog_1_method_47_code 65 = .ok (.i2l, 1) := by decide +kernel
theorem d_X5_inLowestTerms_66 : decode prog_1_method_47_code 66 = .ok (.lreturn, 1) := by decide +kernel
def lp_X5_inLowestTerms_11 (κ : it_KK) (x0 : Int32) (x1 : Int32) (x2 : Int32) (k11 : (Int32 → it_SS → Option (Int64 × it_SS))) : Nat → Int32 → Int32 → Int32 → it_SS → Option (Int64 × it_SS)
  | 0, _, _, _, _ => none
  | n11 + 1, v3, v4, v5, S => if 64 ≤ v5 then
k11 v4 S
else
if v3 = 0 then
k11 v4 S
else
if v3 = 0 then none else
lp_X5_inLowestTerms_11 κ x0 x1 x2 k11 n11 (v4 - v4 / v3 * v3) v3 (v5 + 1) S
def f_X5_inLowestTerms (κ : it_KK) (x0 : Int32) (x1 : Int32) (x2 : Int32) (S : it_SS) : Option (Int64 × it_SS) :=
lp_X5_inLowestTerms_11 κ x0 x1 x2 (fun v4 S5 =>
if v4 = 0 then
some ((-4611686018427387904), S5)
else
if x2 = 0 then
if v4 = 0 then none else
some ((((x0 / v4) : Int32).toInt64), S5)
else
if v4 = 0 then none else
some ((((x1 / v4) : Int32).toInt64), S5)) it_FU (if 0 ≤ x0 then x0 else 0 - x0) x1 0 S
set_option maxHeartbeats 4000000 in
set_option maxRecDepth 100000 in
theorem Llp_X5_inLowestTerms_11 {g : it_G} {l : Launch} {κ : it_KK} {x0 : Int32} {x1 : Int32} {x2 : Int32} {P : Int64 → it_SS → Prop} {k11 : (Int32 → it_SS → Option (Int64 × it_SS))} (hk11 : ∀ (v4 : Int32) (S : it_SS), it_ok (k11 v4 S) P → it_Ev g l 2 it_m_X5_inLowestTerms 0 0 40 [some (.int x0), some (.int x1), some (.int x2), none, some (.int v4), none, none] [] κ S (it_pl κ P)) : ∀ (n : Nat) (v3 : Int32) (v4 : Int32) (v5 : Int32) (S : it_SS), it_ok (lp_X5_inLowestTerms_11 κ x0 x1 x2 k11 n v3 v4 v5 S) P → it_Ev g l 2 it_m_X5_inLowestTerms 0 0 11 [some (.int x0), some (.int x1), some (.int x2), some (.int v3), some (.int v4), some (.int v5), none] [] κ S (it_pl κ P) := by
  intro n
  induction n with
  | zero =>
    intro _ _ _ _ h
    exact (it_ok_n h).elim
  | succ n11 ih11 =>
    intro v3 v4 v5 S h
    rw [lp_X5_inLowestTerms_11] at h
    refine ev_iload d_X5_inLowestTerms_11 rfl ?_
    refine ev_bipush d_X5_inLowestTerms_13 kv_bipush_64 ?_
    refine ev_icmp_ge (tgt := 40) d_X5_inLowestTerms_15 (by decide) (fun hc1 => ?_) (fun hc1 => ?_)
    · have h := it_ok_t h hc1
      refine ev_keep [true, true, true, false, true, false, false] ?_
      exact hk11 _ _ h
    · have h := it_ok_f h hc1
      refine ev_iload_n d_X5_inLowestTerms_18 rfl ?_
      refine ev_if_eq (tgt := 40) d_X5_inLowestTerms_19 (by decide) (fun hc2 => ?_) (fun hc2 => ?_)
      · have h := it_ok_t h hc2
        refine ev_keep [true, true, true, false, true, false, false] ?_
        exact hk11 _ _ h
      · have h := it_ok_f h hc2
        refine ev_iload d_X5_inLowestTerms_22 rfl ?_
        refine ev_iload_n d_X5_inLowestTerms_24 rfl ?_
        obtain ⟨hz3, h⟩ := it_ok_z h
        refine ev_irem d_X5_inLowestTerms_25 hz3 ?_
        refine ev_istore d_X5_inLowestTerms_26 (by decide) ?_
        show it_Ev g l 2 it_m_X5_inLowestTerms 0 0 28 [some (.int x0), some (.int x1), some (.int x2), some (.int v3), some (.int v4), some (.int v5), some (.int (v4 - v4 / v3 * v3))] [] κ S (it_pl κ P)
        refine ev_iload_n d_X5_inLowestTerms_28 rfl ?_
        refine ev_istore d_X5_inLowestTerms_29 (by decide) ?_
        show it_Ev g l 2 it_m_X5_inLowestTerms 0 0 31 [some (.int x0), some (.int x1), some (.int x2), some (.int v3), some (.int v3), some (.int v5), some (.int (v4 - v4 / v3 * v3))] [] κ S (it_pl κ P)
        refine ev_iload d_X5_inLowestTerms_31 rfl ?_
        refine ev_istore_n d_X5_inLowestTerms_33 (by decide) ?_
        show it_Ev g l 2 it_m_X5_inLowestTerms 0 0 34 [some (.int x0), some (.int x1), some (.int x2), some (.int (v4 - v4 / v3 * v3)), some (.int v3), some (.int v5), some (.int (v4 - v4 / v3 * v3))] [] κ S (it_pl κ P)
        refine ev_iinc d_X5_inLowestTerms_34 kv_iconst_1 rfl (by decide) ?_
        show it_Ev g l 2 it_m_X5_inLowestTerms 0 0 37 [some (.int x0), some (.int x1), some (.int x2), some (.int (v4 - v4 / v3 * v3)), some (.int v3), some (.int (v5 + 1)), some (.int (v4 - v4 / v3 * v3))] [] κ S (it_pl κ P)
        refine ev_goto (tgt := 11) d_X5_inLowestTerms_37 (by decide) ?_
        refine ev_keep [true, true, true, true, true, true, false] ?_
        exact ih11 _ _ _ _ h
set_option maxHeartbeats 4000000 in
set_option maxRecDepth 100000 in
theorem L_X5_inLowestTerms {g : it_G} {l : Launch} {κ : it_KK} {x0 : Int32} {x1 : Int32} {x2 : Int32} {S : it_SS} {P : Int64 → it_SS → Prop} (h : it_ok (f_X5_inLowestTerms κ x0 x1 x2 S) P) : it_Cn g l 2 it_m_X5_inLowestTerms [.int x0, .int x1, .int x2] κ S (it_pl κ P) := by
  refine it_Cn.of (by decide +kernel) (Nat.le_of_ble_eq_true rfl) ?_
  rw [f_X5_inLowestTerms] at h
  show it_Ev g l 2 it_m_X5_inLowestTerms 0 0 0 [some (.int x0), some (.int x1), some (.int x2), none, none, none, none] [] κ S (it_pl κ P)
  refine ev_iload_n d_X5_inLowestTerms_0 rfl ?_
  refine ev_mabs d_X5_inLowestTerms_1 mp_IcedTooSoon_272 (by decide) (Nat.le_of_ble_eq_true rfl) (by decide) (by decide) ?_
  refine ev_istore_n d_X5_inLowestTerms_4 (by decide) ?_
  show it_Ev g l 2 it_m_X5_inLowestTerms 0 0 5 [some (.int x0), some (.int x1), some (.int x2), some (.int (if 0 ≤ x0 then x0 else 0 - x0)), none, none, none] [] κ S (it_pl κ P)
  refine ev_iload_n d_X5_inLowestTerms_5 rfl ?_
  refine ev_istore d_X5_inLowestTerms_6 (by decide) ?_
  show it_Ev g l 2 it_m_X5_inLowestTerms 0 0 8 [some (.int x0), some (.int x1), some (.int x2), some (.int (if 0 ≤ x0 then x0 else 0 - x0)), some (.int x1), none, none] [] κ S (it_pl κ P)
  refine ev_iconst d_X5_inLowestTerms_8 kv_iconst_0 ?_
  refine ev_istore d_X5_inLowestTerms_9 (by decide) ?_
  show it_Ev g l 2 it_m_X5_inLowestTerms 0 0 11 [some (.int x0), some (.int x1), some (.int x2), some (.int (if 0 ≤ x0 then x0 else 0 - x0)), some (.int x1), some (.int 0), none] [] κ S (it_pl κ P)
  refine ev_keep [true, true, true, true, true, true, false] ?_
  refine Llp_X5_inLowestTerms_11  (fun v4 S5 h => ?_) _ _ _ _ _ h
  show it_Ev g l 2 it_m_X5_inLowestTerms 0 0 40 [some (.int x0), some (.int x1), some (.int x2), none, some (.int v4), none, none] [] κ S5 (it_pl κ P)
  refine ev_iload d_X5_inLowestTerms_40 rfl ?_
  refine ev_if_ne (tgt := 49) d_X5_inLowestTerms_42 (by decide) (fun hc6 => ?_) (fun hc6 => ?_)
  · have h := it_ok_f h hc6
    refine ev_iload_n d_X5_inLowestTerms_49 rfl ?_
    refine ev_if_ne (tgt := 61) d_X5_inLowestTerms_50 (by decide) (fun hc7 => ?_) (fun hc7 => ?_)
    · have h := it_ok_f h hc7
      refine ev_iload_n d_X5_inLowestTerms_61 rfl ?_
      refine ev_iload d_X5_inLowestTerms_62 rfl ?_
      obtain ⟨hz8, h⟩ := it_ok_z h
      refine ev_idiv d_X5_inLowestTerms_64 hz8 ?_
      refine ev_i2l d_X5_inLowestTerms_65 ?_
      exact ev_ret (v := some (.long _)) ⟨d_X5_inLowestTerms_66, rfl⟩ (by decide) (by decide) ⟨rfl, _, rfl, it_ok_r h⟩
    · have h := it_ok_t h hc7
      refine ev_iload_n d_X5_inLowestTerms_53 rfl ?_
      refine ev_iload d_X5_inLowestTerms_54 rfl ?_
      obtain ⟨hz9, h⟩ := it_ok_z h
      refine ev_idiv d_X5_inLowestTerms_56 hz9 ?_
      refine ev_i2l d_X5_inLowestTerms_57 ?_
      refine ev_goto (tgt := 66) d_X5_inLowestTerms_58 (by decide) ?_
      exact ev_ret (v := some (.long _)) ⟨d_X5_inLowestTerms_66, rfl⟩ (by decide) (by decide) ⟨rfl, _, rfl, it_ok_r h⟩
  · have h := it_ok_t h hc6
    refine ev_ldc2 d_X5_inLowestTerms_45 kn_IcedTooSoon_198 ?_
    exact ev_ret (v := some (.long _)) ⟨d_X5_inLowestTerms_48, rfl⟩ (by decide) (by decide) ⟨rfl, _, rfl, it_ok_r h⟩
theorem d_X5_lotBehind_0 : decode prog_1_method_57_code 0 = .ok (.lload_n 0, 1) := by decide +kernel
theorem d_X5_lotBehind_1 : decode prog_1_method_57_code 1 = .ok (.ldc2_w 291, 3) := by decide +kernel
theorem d_X5_lotBehind_4 : decode prog_1_method_57_code 4 = .ok (.lmul, 1) := by decide +kernel
theorem d_X5_lotBehind_5 : decode prog_1_method_57_code 5 = .ok (.ldc2_w 293, 3) := by decide +kernel
theorem d_X5_lotBehind_8 : decode prog_1_method_57_code 8 = .ok (.lrem, 1) := by decide +kernel
theorem d_X5_lotBehind_9 : decode prog_1_method_57_code 9 = .ok (.lreturn, 1) := by decide +kernel
def f_X5_lotBehind (κ : it_KK) (x0 : Int64) (S : it_SS) : Option (Int64 × it_SS) :=
some (((x0 * 48271) - (x0 * 48271) / 2147483647 * 2147483647), S)
set_option maxHeartbeats 4000000 in
set_option maxRecDepth 100000 in
theorem L_X5_lotBehind {g : it_G} {l : Launch} {κ : it_KK} {x0 : Int64} {S : it_SS} {P : Int64 → it_SS → Prop} (h : it_ok (f_X5_lotBehind κ x0 S) P) : it_Cn g l 1 it_m_X5_lotBehind [.long x0] κ S (it_pl κ P) := by
  refine it_Cn.of (by decide +kernel) (Nat.le_of_ble_eq_true rfl) ?_
  rw [f_X5_lotBehind] at h
  show it_Ev g l 1 it_m_X5_lotBehind 0 0 0 [some (.long x0), none] [] κ S (it_pl κ P)
  refine ev_lload_n d_X5_lotBehind_0 rfl ?_
  refine ev_ldc2 d_X5_lotBehind_1 kn_IcedTooSoon_291 ?_
  refine ev_lmul d_X5_lotBehind_4 ?_
  refine ev_ldc2 d_X5_lotBehind_5 kn_IcedTooSoon_293 ?_
  refine ev_lrem d_X5_lotBehind_8 (by decide) ?_
  exact ev_ret (v := some (.long _)) ⟨d_X5_lotBehind_9, rfl⟩ (by decide) (by decide) ⟨rfl, _, rfl, it_ok_r h⟩
theorem d_X5_isOfKind_0 : decode prog_1_method_44_code 0 = .ok (.iload_n 0, 1) := by decide +kernel
theorem d_X5_isOfKind_1 : decode prog_1_method_44_code 1 = .ok (.istore_n 2, 1) := by decide +kernel
theorem d_X5_isOfKind_2 : decode prog_1_method_44_code 2 = .ok (.iconst 0, 1) := by decide +kernel
theorem d_X5_isOfKind_3 : decode prog_1_method_44_code 3 = .ok (.istore_n 3, 1) := by decide +kernel
theorem d_X5_isOfKind_4 : decode prog_1_method_44_code 4 = .ok (.iload_n 3, 1) := by decide +kernel
theorem d_X5_isOfKind_5 : decode prog_1_method_44_code 5 = .ok (.bipush 6, 2) := by decide +kernel
theorem d_X5_isOfKind_7 : decode prog_1_method_44_code 7 = .ok (.if_icmp .ge 31, 3) := by decide +kernel
theorem d_X5_isOfKind_10 : decode prog_1_method_44_code 10 = .ok (.iload_n 2, 1) := by decide +kernel
theorem d_X5_isOfKind_11 : decode prog_1_method_44_code 11 = .ok (.iconst 0, 1) := by decide +kernel
theorem d_X5_isOfKind_12 : decode prog_1_method_44_code 12 = .ok (.iconst 5, 1) := by decide +kernel
theorem d_X5_isOfKind_13 : decode prog_1_method_44_code 13 = .ok (.invokestatic 96, 3) := by decide +kernel
theorem d_X5_isOfKind_16 : decode prog_1_method_44_code 16 = .ok (.ifCond .ne 22, 3) := by decide +kernel
theorem d_X5_isOfKind_19 : decode prog_1_method_44_code 19 = .ok (.iload_n 2, 1) := by decide +kernel
theorem d_X5_isOfKind_20 : decode prog_1_method_44_code 20 = .ok (.iload_n 1, 1) := by decide +kernel
theorem d_X5_isOfKind_21 : decode prog_1_method_44_code 21 = .ok (.if_icmp .ne 5, 3) := by decide +kernel
theorem d_X5_isOfKind_24 : decode prog_1_method_44_code 24 = .ok (.iconst 1, 1) := by decide +kernel
theorem d_X5_isOfKind_25 : decode prog_1_method_44_code 25 = .ok (.ireturn, 1) := by decide +kernel
theorem d_X5_isOfKind_26 : decode prog_1_method_44_code 26 = .ok (.getstatic 264, 3) := by decide +kernel
theorem d_X5_isOfKind_29 : decode prog_1_method_44_code 29 = .ok (.iload_n 2, 1) := by decide +kernel
theorem d_X5_isOfKind_30 : decode prog_1_method_44_code 30 = .ok (.iaload, 1) := by decide +kernel
theorem d_X5_isOfKind_31 : decode prog_1_method_44_code 31 = .ok (.istore_n 2, 1) := by decide +kernel
theorem d_X5_isOfKind_32 : decode prog_1_method_44_code 32 = .ok (.iinc 3 1, 3) := by decide +kernel
theorem d_X5_isOfKind_35 : decode prog_1_method_44_code 35 = .ok (.goto (-31), 3) := by decide +kernel
theorem d_X5_isOfKind_38 : decode prog_1_method_44_code 38 = .ok (.iconst 0, 1) := by decide +kernel
theorem d_X5_isOfKind_39 : decode prog_1_method_44_code 39 = .ok (.ireturn, 1) := by decide +kernel
def lp_X5_isOfKind_4 (κ : it_KK) (x0 : Int32) (x1 : Int32) (k4 : (it_SS → Option (Int32 × it_SS))) : Nat → Int32 → Int32 → it_SS → Option (Int32 × it_SS)
  | 0, _, _, _ => none
  | n4 + 1, v2, v3, S => if 6 ≤ v3 then
k4  S
else
it_bi (f_X5_isOutside κ v2 0 5 S) (fun r3 S2 =>
if r3 = 0 then
if v2 = x1 then
some (1, S2)
else
if it_bd v2 6 = true then
lp_X5_isOfKind_4 κ x0 x1 k4 n4 (it_above.getD (v2 : Int32).toNatClampNeg 0) (v3 + 1) S2
else none
else
k4  S2)
def f_X5_isOfKind (κ : it_KK) (x0 : Int32) (x1 : Int32) (S : it_SS) : Option (Int32 × it_SS) :=
lp_X5_isOfKind_4 κ x0 x1 (fun  S7 =>
some (0, S7)) it_FU x0 0 S
set_option maxHeartbeats 4000000 in
set_option maxRecDepth 100000 in
theorem Llp_X5_isOfKind_4 {g : it_G} {l : Launch} {κ : it_KK} {x0 : Int32} {x1 : Int32} {P : Int32 → it_SS → Prop} {k4 : (it_SS → Option (Int32 × it_SS))} (hk4 : ∀  (S : it_SS), it_ok (k4  S) P → it_Ev g l 2 it_m_X5_isOfKind 0 0 38 [none, none, none, none] [] κ S (it_pi κ P)) : ∀ (n : Nat) (v2 : Int32) (v3 : Int32) (S : it_SS), it_ok (lp_X5_isOfKind_4 κ x0 x1 k4 n v2 v3 S) P → it_Ev g l 2 it_m_X5_isOfKind 0 0 4 [none, some (.int x1), some (.int v2), some (.int v3)] [] κ S (it_pi κ P) := by
  intro n
  induction n with
  | zero =>
    intro _ _ _ h
    exact (it_ok_n h).elim
  | succ n4 ih4 =>
    intro v2 v3 S h
    rw [lp_X5_isOfKind_4] at h
    refine ev_iload_n d_X5_isOfKind_4 rfl ?_
    refine ev_bipush d_X5_isOfKind_5 kv_bipush_6 ?_
    refine ev_icmp_ge (tgt := 38) d_X5_isOfKind_7 (by decide) (fun hc1 => ?_) (fun hc1 => ?_)
    · have h := it_ok_t h hc1
      refine ev_keep [false, false, false, false] ?_
      exact hk4  _ h
    · have h := it_ok_f h hc1
      refine ev_iload_n d_X5_isOfKind_10 rfl ?_
      refine ev_iconst d_X5_isOfKind_11 kv_iconst_0 ?_
      refine ev_iconst d_X5_isOfKind_12 kv_iconst_5 ?_
      refine ev_callS (M' := it_m_X5_isOutside) (d' := 1) (As := [.int v2, .int 0, .int 5]) d_X5_isOfKind_13 ml_IcedTooSoon_96 rfl rfl (Nat.le_of_ble_eq_true rfl) (by decide) (by decide) (by decide) (L_X5_isOutside  (it_ok_b h)) (fun _ _ _ _ q => by cases q.1; rfl) ?_
      rintro _ _ S2 ⟨rfl, r3, rfl, h⟩
      show it_Ev g l 2 it_m_X5_isOfKind 0 0 16 [none, some (.int x1), some (.int v2), some (.int v3)] [.int r3] κ S2 (it_pi κ P)
      refine ev_if_ne (tgt := 38) d_X5_isOfKind_16 (by decide) (fun hc4 => ?_) (fun hc4 => ?_)
      · have h := it_ok_f h hc4
        refine ev_keep [false, false, false, false] ?_
        exact hk4  _ h
      · have h := it_ok_t h hc4
        refine ev_iload_n d_X5_isOfKind_19 rfl ?_
        refine ev_iload_n d_X5_isOfKind_20 rfl ?_
        refine ev_icmp_ne (tgt := 26) d_X5_isOfKind_21 (by decide) (fun hc5 => ?_) (fun hc5 => ?_)
        · have h := it_ok_f h hc5
          refine ev_above d_X5_isOfKind_26 (it_in_tb (List.mem_of_getElem? (i := 802) (by decide +kernel)) rfl) ?_
          refine ev_iload_n d_X5_isOfKind_29 rfl ?_
          obtain ⟨hb6, h⟩ := it_ok_g h
          refine ev_iald7 d_X5_isOfKind_30 (it_bd_in hb6) ?_
          refine ev_istore_n d_X5_isOfKind_31 (by decide) ?_
          show it_Ev g l 2 it_m_X5_isOfKind 0 0 32 [none, some (.int x1), some (.int (it_above.getD (v2 : Int32).toNatClampNeg 0)), some (.int v3)] [] κ S2 (it_pi κ P)
          refine ev_iinc d_X5_isOfKind_32 kv_iconst_1 rfl (by decide) ?_
          show it_Ev g l 2 it_m_X5_isOfKind 0 0 35 [none, some (.int x1), some (.int (it_above.getD (v2 : Int32).toNatClampNeg 0)), some (.int (v3 + 1))] [] κ S2 (it_pi κ P)
          refine ev_goto (tgt := 4) d_X5_isOfKind_35 (by decide) ?_
          refine ev_keep [false, true, true, true] ?_
          exact ih4 _ _ _ h
        · have h := it_ok_t h hc5
          refine ev_iconst d_X5_isOfKind_24 kv_iconst_1 ?_
          exact ev_ret (v := some (.int _)) ⟨d_X5_isOfKind_25, _, rfl, rfl⟩ (by decide) (by decide) ⟨rfl, _, rfl, it_ok_r h⟩
set_option maxHeartbeats 4000000 in
set_option maxRecDepth 100000 in
theorem L_X5_isOfKind {g : it_G} {l : Launch} {κ : it_KK} {x0 : Int32} {x1 : Int32} {S : it_SS} {P : Int32 → it_SS → Prop} (h : it_ok (f_X5_isOfKind κ x0 x1 S) P) : it_Cn g l 2 it_m_X5_isOfKind [.int x0, .int x1] κ S (it_pi κ P) := by
  refine it_Cn.of (by decide +kernel) (Nat.le_of_ble_eq_true rfl) ?_
  rw [f_X5_isOfKind] at h
  show it_Ev g l 2 it_m_X5_isOfKind 0 0 0 [some (.int x0), some (.int x1), none, none] [] κ S (it_pi κ P)
  refine ev_iload_n d_X5_isOfKind_0 rfl ?_
  refine ev_istore_n d_X5_isOfKind_1 (by decide) ?_
  show it_Ev g l 2 it_m_X5_isOfKind 0 0 2 [some (.int x0), some (.int x1), some (.int x0), none] [] κ S (it_pi κ P)
  refine ev_iconst d_X5_isOfKind_2 kv_iconst_0 ?_
  refine ev_istore_n d_X5_isOfKind_3 (by decide) ?_
  show it_Ev g l 2 it_m_X5_isOfKind 0 0 4 [some (.int x0), some (.int x1), some (.int x0), some (.int 0)] [] κ S (it_pi κ P)
  refine ev_keep [false, true, true, true] ?_
  refine Llp_X5_isOfKind_4  (fun  S7 h => ?_) _ _ _ _ h
  show it_Ev g l 2 it_m_X5_isOfKind 0 0 38 [none, none, none, none] [] κ S7 (it_pi κ P)
  refine ev_iconst d_X5_isOfKind_38 kv_iconst_0 ?_
  exact ev_ret (v := some (.int _)) ⟨d_X5_isOfKind_39, _, rfl, rfl⟩ (by decide) (by decide) ⟨rfl, _, rfl, it_ok_r h⟩
theorem d_X6_in_0 : decode prog_8_method_3_code 0 = .ok (.iload_n 0, 1) := by decide +kernel
theorem d_X6_in_1 : decode prog_8_method_3_code 1 = .ok (.iload_n 1, 1) := by decide +kernel
theorem d_X6_in_2 : decode prog_8_method_3_code 2 = .ok (.if_icmp .lt 12, 3) := by decide +kernel
theorem d_X6_in_5 : decode prog_8_method_3_code 5 = .ok (.iload_n 0, 1) := by decide +kernel
theorem d_X6_in_6 : decode prog_8_method_3_code 6 = .ok (.iload_n 2, 1) := by decide +kernel
theorem d_X6_in_7 : decode prog_8_method_3_code 7 = .ok (.if_icmp .gt 7, 3) := by decide +kernel
theorem d_X6_in_10 : decode prog_8_method_3_code 10 = .ok (.iconst 1, 1) := by decide +kernel
theorem d_X6_in_11 : decode prog_8_method_3_code 11 = .ok (.goto 4, 3) := by decide +kernel
theorem d_X6_in_14 : decode prog_8_method_3_code 14 = .ok (.iconst 0, 1) := by decide +kernel
theorem d_X6_in_15 : decode prog_8_method_3_code 15 = .ok (.ireturn, 1) := by decide +kernel
def f_X6_in (κ : it_KK) (x0 : Int32) (x1 : Int32) (x2 : Int32) (S : it_SS) : Option (Int32 × it_SS) :=
if x0 < x1 then
some (0, S)
else
if x2 < x0 then
some (0, S)
else
some (1, S)
set_option maxHeartbeats 4000000 in
set_option maxRecDepth 100000 in
theorem L_X6_in {g : it_G} {l : Launch} {κ : it_KK} {x0 : Int32} {x1 : Int32} {x2 : Int32} {S : it_SS} {P : Int32 → it_SS → Prop} (h : it_ok (f_X6_in κ x0 x1 x2 S) P) : it_Cn g l 1 it_m_X6_in [.int x0, .int x1, .int x2] κ S (it_pi κ P) := by
  refine it_Cn.of (by decide +kernel) (Nat.le_of_ble_eq_true rfl) ?_
  rw [f_X6_in] at h
  show it_Ev g l 1 it_m_X6_in 0 0 0 [some (.int x0), some (.int x1), some (.int x2)] [] κ S (it_pi κ P)
  refine ev_iload_n d_X6_in_0 rfl ?_
  refine ev_iload_n d_X6_in_1 rfl ?_
  refine ev_icmp_lt (tgt := 14) d_X6_in_2 (by decide) (fun hc1 => ?_) (fun hc1 => ?_)
  · have h := it_ok_t h hc1
    refine ev_iconst d_X6_in_14 kv_iconst_0 ?_
    exact ev_ret (v := some (.int _)) ⟨d_X6_in_15, _, rfl, rfl⟩ (by decide) (by decide) ⟨rfl, _, rfl, it_ok_r h⟩
  · have h := it_ok_f h hc1
    refine ev_iload_n d_X6_in_5 rfl ?_
    refine ev_iload_n d_X6_in_6 rfl ?_
    refine ev_icmp_gt (tgt := 14) d_X6_in_7 (by decide) (fun hc2 => ?_) (fun hc2 => ?_)
    · have h := it_ok_t h hc2
      refine ev_iconst d_X6_in_14 kv_iconst_0 ?_
      exact ev_ret (v := some (.int _)) ⟨d_X6_in_15, _, rfl, rfl⟩ (by decide) (by decide) ⟨rfl, _, rfl, it_ok_r h⟩
    · have h := it_ok_f h hc2
      refine ev_iconst d_X6_in_10 kv_iconst_1 ?_
      refine ev_goto (tgt := 15) d_X6_in_11 (by decide) ?_
      exact ev_ret (v := some (.int _)) ⟨d_X6_in_15, _, rfl, rfl⟩ (by decide) (by decide) ⟨rfl, _, rfl, it_ok_r h⟩
theorem d_X6_within_0 : decode prog_8_method_4_code 0 = .ok (.iload_n 0, 1) := by decide +kernel
theorem d_X6_within_1 : decode prog_8_method_4_code 1 = .ok (.iload_n 1, 1) := by decide +kernel
theorem d_X6_within_2 : decode prog_8_method_4_code 2 = .ok (.if_icmp .ge 7, 3) := by decide +kernel
theorem d_X6_within_5 : decode prog_8_method_4_code 5 = .ok (.iload_n 1, 1) := by decide +kernel
theorem d_X6_within_6 : decode prog_8_method_4_code 6 = .ok (.goto 13, 3) := by decide +kernel
theorem d_X6_within_9 : decode prog_8_method_4_code 9 = .ok (.iload_n 0, 1) := by decide +kernel
theorem d_X6_within_10 : decode prog_8_method_4_code 10 = .ok (.iload_n 2, 1) := by decide +kernel
theorem d_X6_within_11 : decode prog_8_method_4_code 11 = .ok (.if_icmp .le 7, 3) := by decide +kernel
theorem d_X6_within_14 : decode prog_8_method_4_code 14 = .ok (.iload_n 2, 1) := by decide +kernel
theorem d_X6_within_15 : decode prog_8_method_4_code 15 = .ok (.goto 4, 3) := by decide +kernel
theorem d_X6_within_18 : decode prog_8_method_4_code 18 = .ok (.iload_n 0, 1) := by decide +kernel
theorem d_X6_within_19 : decode prog_8_method_4_code 19 = .ok (.ireturn, 1) := by decide +kernel
def f_X6_within (κ : it_KK) (x0 : Int32) (x1 : Int32) (x2 : Int32) (S : it_SS) : Option (Int32 × it_SS) :=
if x1 ≤ x0 then
if x0 ≤ x2 then
some (x0, S)
else
some (x2, S)
else
some (x1, S)
set_option maxHeartbeats 4000000 in
set_option maxRecDepth 100000 in
theorem L_X6_within {g : it_G} {l : Launch} {κ : it_KK} {x0 : Int32} {x1 : Int32} {x2 : Int32} {S : it_SS} {P : Int32 → it_SS → Prop} (h : it_ok (f_X6_within κ x0 x1 x2 S) P) : it_Cn g l 1 it_m_X6_within [.int x0, .int x1, .int x2] κ S (it_pi κ P) := by
  refine it_Cn.of (by decide +kernel) (Nat.le_of_ble_eq_true rfl) ?_
  rw [f_X6_within] at h
  show it_Ev g l 1 it_m_X6_within 0 0 0 [some (.int x0), some (.int x1), some (.int x2)] [] κ S (it_pi κ P)
  refine ev_iload_n d_X6_within_0 rfl ?_
  refine ev_iload_n d_X6_within_1 rfl ?_
  refine ev_icmp_ge (tgt := 9) d_X6_within_2 (by decide) (fun hc1 => ?_) (fun hc1 => ?_)
  · have h := it_ok_t h hc1
    refine ev_iload_n d_X6_within_9 rfl ?_
    refine ev_iload_n d_X6_within_10 rfl ?_
    refine ev_icmp_le (tgt := 18) d_X6_within_11 (by decide) (fun hc2 => ?_) (fun hc2 => ?_)
    · have h := it_ok_t h hc2
      refine ev_iload_n d_X6_within_18 rfl ?_
      exact ev_ret (v := some (.int _)) ⟨d_X6_within_19, _, rfl, rfl⟩ (by decide) (by decide) ⟨rfl, _, rfl, it_ok_r h⟩
    · have h := it_ok_f h hc2
      refine ev_iload_n d_X6_within_14 rfl ?_
      refine ev_goto (tgt := 19) d_X6_within_15 (by decide) ?_
      exact ev_ret (v := some (.int _)) ⟨d_X6_within_19, _, rfl, rfl⟩ (by decide) (by decide) ⟨rfl, _, rfl, it_ok_r h⟩
  · have h := it_ok_f h hc1
    refine ev_iload_n d_X6_within_5 rfl ?_
    refine ev_goto (tgt := 19) d_X6_within_6 (by decide) ?_
    exact ev_ret (v := some (.int _)) ⟨d_X6_within_19, _, rfl, rfl⟩ (by decide) (by decide) ⟨rfl, _, rfl, it_ok_r h⟩
theorem d_X6_isByte_0 : decode prog_8_method_11_code 0 = .ok (.iload_n 0, 1) := by decide +kernel
theorem d_X6_isByte_1 : decode prog_8_method_11_code 1 = .ok (.iconst 0, 1) := by decide +kernel
theorem d_X6_isByte_2 : decode prog_8_method_11_code 2 = .ok (.sipush 255, 3) := by decide +kernel
theorem d_X6_isByte_5 : decode prog_8_method_11_code 5 = .ok (.invokestatic 78, 3) := by decide +kernel
theorem d_X6_isByte_8 : decode prog_8_method_11_code 8 = .ok (.ireturn, 1) := by decide +kernel
def f_X6_isByte (κ : it_KK) (x0 : Int32) (S : it_SS) : Option (Int32 × it_SS) :=
it_bi (f_X6_in κ x0 0 255 S) (fun r2 S1 =>
if it_bz r2 = true then some (r2, S1) else none)
set_option maxHeartbeats 4000000 in
set_option maxRecDepth 100000 in
theorem L_X6_isByte {g : it_G} {l : Launch} {κ : it_KK} {x0 : Int32} {S : it_SS} {P : Int32 → it_SS → Prop} (h : it_ok (f_X6_isByte κ x0 S) P) : it_Cn g l 2 it_m_X6_isByte [.int x0] κ S (it_pi κ P) := by
  refine it_Cn.of (by decide +kernel) (Nat.le_of_ble_eq_true rfl) ?_
  rw [f_X6_isByte] at h
  show it_Ev g l 2 it_m_X6_isByte 0 0 0 [some (.int x0)] [] κ S (it_pi κ P)
  refine ev_iload_n d_X6_isByte_0 rfl ?_
  refine ev_iconst d_X6_isByte_1 kv_iconst_0 ?_
  refine ev_sipush d_X6_isByte_2 kv_sipush_255 ?_
  refine ev_callS (M' := it_m_X6_in) (d' := 1) (As := [.int x0, .int 0, .int 255]) d_X6_isByte_5 ml_IcedTooSoonModel_78 rfl rfl (Nat.le_of_ble_eq_true rfl) (by decide) (by decide) (by decide) (L_X6_in  (it_ok_b h)) (fun _ _ _ _ q => by cases q.1; rfl) ?_
  rintro _ _ S1 ⟨rfl, r2, rfl, h⟩
  show it_Ev g l 2 it_m_X6_isByte 0 0 8 [some (.int x0)] [.int r2] κ S1 (it_pi κ P)
  obtain ⟨hz3, h⟩ := it_ok_g h
  exact ev_ret (v := some (.int _)) ⟨d_X6_isByte_8, _, rfl, it_bz_n hz3⟩ (by decide) (by decide) ⟨rfl, _, rfl, it_ok_r h⟩
theorem d_X6_rank_0 : decode prog_8_method_15_code 0 = .ok (.iload_n 0, 1) := by decide +kernel
theorem d_X6_rank_1 : decode prog_8_method_15_code 1 = .ok (.ifCond .ne 7, 3) := by decide +kernel
theorem d_X6_rank_4 : decode prog_8_method_15_code 4 = .ok (.iconst 0, 1) := by decide +kernel
theorem d_X6_rank_5 : decode prog_8_method_15_code 5 = .ok (.goto 66, 3) := by decide +kernel
theorem d_X6_rank_8 : decode prog_8_method_15_code 8 = .ok (.iload_n 0, 1) := by decide +kernel
theorem d_X6_rank_9 : decode prog_8_method_15_code 9 = .ok (.bipush 11, 2) := by decide +kernel
theorem d_X6_rank_11 : decode prog_8_method_15_code 11 = .ok (.if_icmp .ne 7, 3) := by decide +kernel
theorem d_X6_rank_14 : decode prog_8_method_15_code 14 = .ok (.iconst 1, 1) := by decide +kernel
theorem d_X6_rank_15 : decode prog_8_method_15_code 15 = .ok (.goto 56, 3) := by decide +kernel
theorem d_X6_rank_18 : decode prog_8_method_15_code 18 = .ok (.iload_n 0, 1) := by decide +kernel
theorem d_X6_rank_19 : decode prog_8_method_15_code 19 = .ok (.bipush 12, 2) := by decide +kernel
theorem d_X6_rank_21 : decode prog_8_method_15_code 21 = .ok (.if_icmp .ne 7, 3) := by decide +kernel
theorem d_X6_rank_24 : decode prog_8_method_15_code 24 = .ok (.iconst 2, 1) := by decide +kernel
theorem d_X6_rank_25 : decode prog_8_method_15_code 25 = .ok (.goto 46, 3) := by decide +kernel
theorem d_X6_rank_28 : decode prog_8_method_15_code 28 = .ok (.iload_n 0, 1) := by decide +kernel
theorem d_X6_rank_29 : decode prog_8_method_15_code 29 = .ok (.bipush 13, 2) := by decide +kernel
theorem d_X6_rank_31 : decode prog_8_method_15_code 31 = .ok (.if_icmp .ne 7, 3) := by decide +kernel
theorem d_X6_rank_34 : decode prog_8_method_15_code 34 = .ok (.iconst 3, 1) := by decide +kernel
theorem d_X6_rank_35 : decode prog_8_method_15_code 35 = .ok (.goto 36, 3) := by decide +kernel
theorem d_X6_rank_38 : decode prog_8_method_15_code 38 = .ok (.iload_n 0, 1) := by decide +kernel
theorem d_X6_rank_39 : decode prog_8_method_15_code 39 = .ok (.bipush 15, 2) := by decide +kernel
theorem d_X6_rank_41 : decode prog_8_method_15_code 41 = .ok (.if_icmp .gt 7, 3) := by decide +kernel
theorem d_X6_rank_44 : decode prog_8_method_15_code 44 = .ok (.iconst 4, 1) := by decide +kernel
theorem d_X6_rank_45 : decode prog_8_method_15_code 45 = .ok (.goto 26, 3) := by decide +kernel
theorem d_X6_rank_48 : decode prog_8_method_15_code 48 = .ok (.iload_n 0, 1) := by decide +kernel
theorem d_X6_rank_49 : decode prog_8_method_15_code 49 = .ok (.bipush 17, 2) := by decide +kernel
theorem d_X6_rank_51 : decode prog_8_method_15_code 51 = .ok (.if_icmp .gt 7, 3) := by decide +kernel
theorem d_X6_rank_54 : decode prog_8_method_15_code 54 = .ok (.iconst 5, 1) := by decide +kernel
theorem d_X6_rank_55 : decode prog_8_method_15_code 55 = .ok (.goto 16, 3) := by decide +kernel
theorem d_X6_rank_58 : decode prog_8_method_15_code 58 = .ok (.iload_n 0, 1) := by decide +kernel
theorem d_X6_rank_59 : decode prog_8_method_15_code 59 = .ok (.bipush 18, 2) := by decide +kernel
theorem d_X6_rank_61 : decode prog_8_method_15_code 61 = .ok (.if_icmp .ne 8, 3) := by decide +kernel
theorem d_X6_rank_64 : decode prog_8_method_15_code 64 = .ok (.bipush 6, 2) := by decide +kernel
theorem d_X6_rank_66 : decode prog_8_method_15_code 66 = .ok (.goto 5, 3) := by decide +kernel
theorem d_X6_rank_69 : decode prog_8_method_15_code 69 = .ok (.bipush 7, 2) := by decide +kernel
theorem d_X6_rank_71 : decode prog_8_method_15_code 71 = .ok (.ireturn, 1) := by decide +kernel
def f_X6_rank (κ : it_KK) (x0 : Int32) (S : it_SS) : Option (Int32 × it_SS) :=
if x0 = 0 then
some (0, S)
else
if x0 = 11 then
some (1, S)
else
if x0 = 12 then
some (2, S)
else
if x0 = 13 then
some (3, S)
else
if 15 < x0 then
if 17 < x0 then
if x0 = 18 then
some (6, S)
else
some (7, S)
else
some (5, S)
else
some (4, S)
set_option maxHeartbeats 4000000 in
set_option maxRecDepth 100000 in
theorem L_X6_rank {g : it_G} {l : Launch} {κ : it_KK} {x0 : Int32} {S : it_SS} {P : Int32 → it_SS → Prop} (h : it_ok (f_X6_rank κ x0 S) P) : it_Cn g l 1 it_m_X6_rank [.int x0] κ S (it_pi κ P) := by
  refine it_Cn.of (by decide +kernel) (Nat.le_of_ble_eq_true rfl) ?_
  rw [f_X6_rank] at h
  show it_Ev g l 1 it_m_X6_rank 0 0 0 [some (.int x0)] [] κ S (it_pi κ P)
  refine ev_iload_n d_X6_rank_0 rfl ?_
  refine ev_if_ne (tgt := 8) d_X6_rank_1 (by decide) (fun hc1 => ?_) (fun hc1 => ?_)
  · have h := it_ok_f h hc1
    refine ev_iload_n d_X6_rank_8 rfl ?_
    refine ev_bipush d_X6_rank_9 kv_bipush_11 ?_
    refine ev_icmp_ne (tgt := 18) d_X6_rank_11 (by decide) (fun hc2 => ?_) (fun hc2 => ?_)
    · have h := it_ok_f h hc2
      refine ev_iload_n d_X6_rank_18 rfl ?_
      refine ev_bipush d_X6_rank_19 kv_bipush_12 ?_
      refine ev_icmp_ne (tgt := 28) d_X6_rank_21 (by decide) (fun hc3 => ?_) (fun hc3 => ?_)
      · have h := it_ok_f h hc3
        refine ev_iload_n d_X6_rank_28 rfl ?_
        refine ev_bipush d_X6_rank_29 kv_bipush_13 ?_
        refine ev_icmp_ne (tgt := 38) d_X6_rank_31 (by decide) (fun hc4 => ?_) (fun hc4 => ?_)
        · have h := it_ok_f h hc4
          refine ev_iload_n d_X6_rank_38 rfl ?_
          refine ev_bipush d_X6_rank_39 kv_bipush_15 ?_
          refine ev_icmp_gt (tgt := 48) d_X6_rank_41 (by decide) (fun hc5 => ?_) (fun hc5 => ?_)
          · have h := it_ok_t h hc5
            refine ev_iload_n d_X6_rank_48 rfl ?_
            refine ev_bipush d_X6_rank_49 kv_bipush_17 ?_
            refine ev_icmp_gt (tgt := 58) d_X6_rank_51 (by decide) (fun hc6 => ?_) (fun hc6 => ?_)
            · have h := it_ok_t h hc6
              refine ev_iload_n d_X6_rank_58 rfl ?_
              refine ev_bipush d_X6_rank_59 kv_bipush_18 ?_
              refine ev_icmp_ne (tgt := 69) d_X6_rank_61 (by decide) (fun hc7 => ?_) (fun hc7 => ?_)
              · have h := it_ok_f h hc7
                refine ev_bipush d_X6_rank_69 kv_bipush_7 ?_
                exact ev_ret (v := some (.int _)) ⟨d_X6_rank_71, _, rfl, rfl⟩ (by decide) (by decide) ⟨rfl, _, rfl, it_ok_r h⟩
              · have h := it_ok_t h hc7
                refine ev_bipush d_X6_rank_64 kv_bipush_6 ?_
                refine ev_goto (tgt := 71) d_X6_rank_66 (by decide) ?_
                exact ev_ret (v := some (.int _)) ⟨d_X6_rank_71, _, rfl, rfl⟩ (by decide) (by decide) ⟨rfl, _, rfl, it_ok_r h⟩
            · have h := it_ok_f h hc6
              refine ev_iconst d_X6_rank_54 kv_iconst_5 ?_
              refine ev_goto (tgt := 71) d_X6_rank_55 (by decide) ?_
              exact ev_ret (v := some (.int _)) ⟨d_X6_rank_71, _, rfl, rfl⟩ (by decide) (by decide) ⟨rfl, _, rfl, it_ok_r h⟩
          · have h := it_ok_f h hc5
            refine ev_iconst d_X6_rank_44 kv_iconst_4 ?_
            refine ev_goto (tgt := 71) d_X6_rank_45 (by decide) ?_
            exact ev_ret (v := some (.int _)) ⟨d_X6_rank_71, _, rfl, rfl⟩ (by decide) (by decide) ⟨rfl, _, rfl, it_ok_r h⟩
        · have h := it_ok_t h hc4
          refine ev_iconst d_X6_rank_34 kv_iconst_3 ?_
          refine ev_goto (tgt := 71) d_X6_rank_35 (by decide) ?_
          exact ev_ret (v := some (.int _)) ⟨d_X6_rank_71, _, rfl, rfl⟩ (by decide) (by decide) ⟨rfl, _, rfl, it_ok_r h⟩
      · have h := it_ok_t h hc3
        refine ev_iconst d_X6_rank_24 kv_iconst_2 ?_
        refine ev_goto (tgt := 71) d_X6_rank_25 (by decide) ?_
        exact ev_ret (v := some (.int _)) ⟨d_X6_rank_71, _, rfl, rfl⟩ (by decide) (by decide) ⟨rfl, _, rfl, it_ok_r h⟩
    · have h := it_ok_t h hc2
      refine ev_iconst d_X6_rank_14 kv_iconst_1 ?_
      refine ev_goto (tgt := 71) d_X6_rank_15 (by decide) ?_
      exact ev_ret (v := some (.int _)) ⟨d_X6_rank_71, _, rfl, rfl⟩ (by decide) (by decide) ⟨rfl, _, rfl, it_ok_r h⟩
  · have h := it_ok_t h hc1
    refine ev_iconst d_X6_rank_4 kv_iconst_0 ?_
    refine ev_goto (tgt := 71) d_X6_rank_5 (by decide) ?_
    exact ev_ret (v := some (.int _)) ⟨d_X6_rank_71, _, rfl, rfl⟩ (by decide) (by decide) ⟨rfl, _, rfl, it_ok_r h⟩
theorem d_X6_two_0 : decode prog_8_method_24_code 0 = .ok (.iload_n 0, 1) := by decide +kernel
theorem d_X6_two_1 : decode prog_8_method_24_code 1 = .ok (.tableswitch 101 11 17 #[43, 57, 101, 71, 82, 93, 97], 43) := by decide +kernel
theorem d_X6_two_44 : decode prog_8_method_24_code 44 = .ok (.iload_n 1, 1) := by decide +kernel
theorem d_X6_two_45 : decode prog_8_method_24_code 45 = .ok (.ifCond .ne 7, 3) := by decide +kernel
theorem d_X6_two_48 : decode prog_8_method_24_code 48 = .ok (.iload_n 2, 1) := by decide +kernel
theorem d_X6_two_49 : decode prog_8_method_24_code 49 = .ok (.ifCond .eq 7, 3) := by decide +kernel
theorem d_X6_two_52 : decode prog_8_method_24_code 52 = .ok (.iconst 1, 1) := by decide +kernel
theorem d_X6_two_53 : decode prog_8_method_24_code 53 = .ok (.goto 4, 3) := by decide +kernel
theorem d_X6_two_56 : decode prog_8_method_24_code 56 = .ok (.iconst 0, 1) := by decide +kernel
theorem d_X6_two_57 : decode prog_8_method_24_code 57 = .ok (.ireturn, 1) := by decide +kernel
theorem d_X6_two_58 : decode prog_8_method_24_code 58 = .ok (.iload_n 1, 1) := by decide +kernel
theorem d_X6_two_59 : decode prog_8_method_24_code 59 = .ok (.ifCond .eq 11, 3) := by decide +kernel
theorem d_X6_two_62 : decode prog_8_method_24_code 62 = .ok (.iload_n 2, 1) := by decide +kernel
theorem d_X6_two_63 : decode prog_8_method_24_code 63 = .ok (.ifCond .eq 7, 3) := by decide +kernel
theorem d_X6_two_66 : decode prog_8_method_24_code 66 = .ok (.iconst 1, 1) := by decide +kernel
theorem d_X6_two_67 : decode prog_8_method_24_code 67 = .ok (.goto 4, 3) := by decide +kernel
theorem d_X6_two_70 : decode prog_8_method_24_code 70 = .ok (.iconst 0, 1) := by decide +kernel
theorem d_X6_two_71 : decode prog_8_method_24_code 71 = .ok (.ireturn, 1) := by decide +kernel
theorem d_X6_two_72 : decode prog_8_method_24_code 72 = .ok (.iload_n 1, 1) := by decide +kernel
theorem d_X6_two_73 : decode prog_8_method_24_code 73 = .ok (.iload_n 2, 1) := by decide +kernel
theorem d_X6_two_74 : decode prog_8_method_24_code 74 = .ok (.if_icmp .ge 7, 3) := by decide +kernel
theorem d_X6_two_77 : decode prog_8_method_24_code 77 = .ok (.iconst 1, 1) := by decide +kernel
theorem d_X6_two_78 : decode prog_8_method_24_code 78 = .ok (.goto 4, 3) := by decide +kernel
theorem d_X6_two_81 : decode prog_8_method_24_code 81 = .ok (.iconst 0, 1) := by decide +kernel
theorem d_X6_two_82 : decode prog_8_method_24_code 82 = .ok (.ireturn, 1) := by decide +kernel
theorem d_X6_two_83 : decode prog_8_method_24_code 83 = .ok (.iload_n 1, 1) := by decide +kernel
theorem d_X6_two_84 : decode prog_8_method_24_code 84 = .ok (.iload_n 2, 1) := by decide +kernel
theorem d_X6_two_85 : decode prog_8_method_24_code 85 = .ok (.if_icmp .ne 7, 3) := by decide +kernel
theorem d_X6_two_88 : decode prog_8_method_24_code 88 = .ok (.iconst 1, 1) := by decide +kernel
theorem d_X6_two_89 : decode prog_8_method_24_code 89 = .ok (.goto 4, 3) := by decide +kernel
theorem d_X6_two_92 : decode prog_8_method_24_code 92 = .ok (.iconst 0, 1) := by decide +kernel
theorem d_X6_two_93 : decode prog_8_method_24_code 93 = .ok (.ireturn, 1) := by decide +kernel
theorem d_X6_two_94 : decode prog_8_method_24_code 94 = .ok (.iload_n 1, 1) := by decide +kernel
theorem d_X6_two_95 : decode prog_8_method_24_code 95 = .ok (.iload_n 2, 1) := by decide +kernel
theorem d_X6_two_96 : decode prog_8_method_24_code 96 = .ok (.iadd, 1) := by decide +kernel
theorem d_X6_two_97 : decode prog_8_method_24_code 97 = .ok (.ireturn, 1) := by decide +kernel
theorem d_X6_two_98 : decode prog_8_method_24_code 98 = .ok (.iload_n 1, 1) := by decide +kernel
theorem d_X6_two_99 : decode prog_8_method_24_code 99 = .ok (.iload_n 2, 1) := by decide +kernel
theorem d_X6_two_100 : decode prog_8_method_24_code 100 = .ok (.isub, 1) := by decide +kernel
theorem d_X6_two_101 : decode prog_8_method_24_code 101 = .ok (.ireturn, 1) := by decide +kernel
theorem d_X6_two_102 : decode prog_8_method_24_code 102 = .ok (.iload_n 1, 1) := by decide +kernel
theorem d_X6_two_103 : decode prog_8_method_24_code 103 = .ok (.iload_n 2, 1) := by decide +kernel
theorem d_X6_two_104 : decode prog_8_method_24_code 104 = .ok (.imul, 1) := by decide +kernel
theorem d_X6_two_105 : decode prog_8_method_24_code 105 = .ok (.ireturn, 1) := by decide +kernel
def f_X6_two (κ : it_KK) (x0 : Int32) (x1 : Int32) (x2 : Int32) (S : it_SS) : Option (Int32 × it_SS) :=
if x0 = 11 then
if x1 = 0 then
if x2 = 0 then
some (0, S)
else
some (1, S)
else
some (1, S)
else if x0 = 12 then
if x1 = 0 then
some (0, S)
else
if x2 = 0 then
some (0, S)
else
some (1, S)
else if x0 = 13 then
some ((x1 * x2), S)
else if x0 = 14 then
if x2 ≤ x1 then
some (0, S)
else
some (1, S)
else if x0 = 15 then
if x1 = x2 then
some (1, S)
else
some (0, S)
else if x0 = 16 then
some ((x1 + x2), S)
else if x0 = 17 then
some ((x1 - x2), S)
else 
some ((x1 * x2), S)
set_option maxHeartbeats 4000000 in
set_option maxRecDepth 100000 in
theorem L_X6_two {g : it_G} {l : Launch} {κ : it_KK} {x0 : Int32} {x1 : Int32} {x2 : Int32} {S : it_SS} {P : Int32 → it_SS → Prop} (h : it_ok (f_X6_two κ x0 x1 x2 S) P) : it_Cn g l 1 it_m_X6_two [.int x0, .int x1, .int x2] κ S (it_pi κ P) := by
  refine it_Cn.of (by decide +kernel) (Nat.le_of_ble_eq_true rfl) ?_
  rw [f_X6_two] at h
  show it_Ev g l 1 it_m_X6_two 0 0 0 [some (.int x0), some (.int x1), some (.int x2)] [] κ S (it_pi κ P)
  refine ev_iload_n d_X6_two_0 rfl ?_
  rcases Classical.em (x0 = 11) with hc1 | hc1
  · have h := it_ok_t h hc1
    refine ev_table (c1 := 11) (off := 43) (tgt := 44) hc1 d_X6_two_1 (by decide) (by decide) (by decide) (by decide) ?_
    refine ev_iload_n d_X6_two_44 rfl ?_
    refine ev_if_ne (tgt := 52) d_X6_two_45 (by decide) (fun hc2 => ?_) (fun hc2 => ?_)
    · have h := it_ok_f h hc2
      refine ev_iconst d_X6_two_52 kv_iconst_1 ?_
      refine ev_goto (tgt := 57) d_X6_two_53 (by decide) ?_
      exact ev_ret (v := some (.int _)) ⟨d_X6_two_57, _, rfl, rfl⟩ (by decide) (by decide) ⟨rfl, _, rfl, it_ok_r h⟩
    · have h := it_ok_t h hc2
      refine ev_iload_n d_X6_two_48 rfl ?_
      refine ev_if_eq (tgt := 56) d_X6_two_49 (by decide) (fun hc3 => ?_) (fun hc3 => ?_)
      · have h := it_ok_t h hc3
        refine ev_iconst d_X6_two_56 kv_iconst_0 ?_
        exact ev_ret (v := some (.int _)) ⟨d_X6_two_57, _, rfl, rfl⟩ (by decide) (by decide) ⟨rfl, _, rfl, it_ok_r h⟩
      · have h := it_ok_f h hc3
        refine ev_iconst d_X6_two_52 kv_iconst_1 ?_
        refine ev_goto (tgt := 57) d_X6_two_53 (by decide) ?_
        exact ev_ret (v := some (.int _)) ⟨d_X6_two_57, _, rfl, rfl⟩ (by decide) (by decide) ⟨rfl, _, rfl, it_ok_r h⟩
  · have h := it_ok_f h hc1
    rcases Classical.em (x0 = 12) with hc4 | hc4
    · have h := it_ok_t h hc4
      refine ev_table (c1 := 12) (off := 57) (tgt := 58) hc4 d_X6_two_1 (by decide) (by decide) (by decide) (by decide) ?_
      refine ev_iload_n d_X6_two_58 rfl ?_
      refine ev_if_eq (tgt := 70) d_X6_two_59 (by decide) (fun hc5 => ?_) (fun hc5 => ?_)
      · have h := it_ok_t h hc5
        refine ev_iconst d_X6_two_70 kv_iconst_0 ?_
        exact ev_ret (v := some (.int _)) ⟨d_X6_two_71, _, rfl, rfl⟩ (by decide) (by decide) ⟨rfl, _, rfl, it_ok_r h⟩
      · have h := it_ok_f h hc5
        refine ev_iload_n d_X6_two_62 rfl ?_
        refine ev_if_eq (tgt := 70) d_X6_two_63 (by decide) (fun hc6 => ?_) (fun hc6 => ?_)
        · have h := it_ok_t h hc6
          refine ev_iconst d_X6_two_70 kv_iconst_0 ?_
          exact ev_ret (v := some (.int _)) ⟨d_X6_two_71, _, rfl, rfl⟩ (by decide) (by decide) ⟨rfl, _, rfl, it_ok_r h⟩
        · have h := it_ok_f h hc6
          refine ev_iconst d_X6_two_66 kv_iconst_1 ?_
          refine ev_goto (tgt := 71) d_X6_two_67 (by decide) ?_
          exact ev_ret (v := some (.int _)) ⟨d_X6_two_71, _, rfl, rfl⟩ (by decide) (by decide) ⟨rfl, _, rfl, it_ok_r h⟩
    · have h := it_ok_f h hc4
      rcases Classical.em (x0 = 13) with hc7 | hc7
      · have h := it_ok_t h hc7
        refine ev_table (c1 := 13) (off := 101) (tgt := 102) hc7 d_X6_two_1 (by decide) (by decide) (by decide) (by decide) ?_
        refine ev_iload_n d_X6_two_102 rfl ?_
        refine ev_iload_n d_X6_two_103 rfl ?_
        refine ev_imul d_X6_two_104 ?_
        exact ev_ret (v := some (.int _)) ⟨d_X6_two_105, _, rfl, rfl⟩ (by decide) (by decide) ⟨rfl, _, rfl, it_ok_r h⟩
      · have h := it_ok_f h hc7
        rcases Classical.em (x0 = 14) with hc8 | hc8
        · have h := it_ok_t h hc8
          refine ev_table (c1 := 14) (off := 71) (tgt := 72) hc8 d_X6_two_1 (by decide) (by decide) (by decide) (by decide) ?_
          refine ev_iload_n d_X6_two_72 rfl ?_
          refine ev_iload_n d_X6_two_73 rfl ?_
          refine ev_icmp_ge (tgt := 81) d_X6_two_74 (by decide) (fun hc9 => ?_) (fun hc9 => ?_)
          · have h := it_ok_t h hc9
            refine ev_iconst d_X6_two_81 kv_iconst_0 ?_
            exact ev_ret (v := some (.int _)) ⟨d_X6_two_82, _, rfl, rfl⟩ (by decide) (by decide) ⟨rfl, _, rfl, it_ok_r h⟩
          · have h := it_ok_f h hc9
            refine ev_iconst d_X6_two_77 kv_iconst_1 ?_
            refine ev_goto (tgt := 82) d_X6_two_78 (by decide) ?_
            exact ev_ret (v := some (.int _)) ⟨d_X6_two_82, _, rfl, rfl⟩ (by decide) (by decide) ⟨rfl, _, rfl, it_ok_r h⟩
        · have h := it_ok_f h hc8
          rcases Classical.em (x0 = 15) with hc10 | hc10
          · have h := it_ok_t h hc10
            refine ev_table (c1 := 15) (off := 82) (tgt := 83) hc10 d_X6_two_1 (by decide) (by decide) (by decide) (by decide) ?_
            refine ev_iload_n d_X6_two_83 rfl ?_
            refine ev_iload_n d_X6_two_84 rfl ?_
            refine ev_icmp_ne (tgt := 92) d_X6_two_85 (by decide) (fun hc11 => ?_) (fun hc11 => ?_)
            · have h := it_ok_f h hc11
              refine ev_iconst d_X6_two_92 kv_iconst_0 ?_
              exact ev_ret (v := some (.int _)) ⟨d_X6_two_93, _, rfl, rfl⟩ (by decide) (by decide) ⟨rfl, _, rfl, it_ok_r h⟩
            · have h := it_ok_t h hc11
              refine ev_iconst d_X6_two_88 kv_iconst_1 ?_
              refine ev_goto (tgt := 93) d_X6_two_89 (by decide) ?_
              exact ev_ret (v := some (.int _)) ⟨d_X6_two_93, _, rfl, rfl⟩ (by decide) (by decide) ⟨rfl, _, rfl, it_ok_r h⟩
          · have h := it_ok_f h hc10
            rcases Classical.em (x0 = 16) with hc12 | hc12
            · have h := it_ok_t h hc12
              refine ev_table (c1 := 16) (off := 93) (tgt := 94) hc12 d_X6_two_1 (by decide) (by decide) (by decide) (by decide) ?_
              refine ev_iload_n d_X6_two_94 rfl ?_
              refine ev_iload_n d_X6_two_95 rfl ?_
              refine ev_iadd d_X6_two_96 ?_
              exact ev_ret (v := some (.int _)) ⟨d_X6_two_97, _, rfl, rfl⟩ (by decide) (by decide) ⟨rfl, _, rfl, it_ok_r h⟩
            · have h := it_ok_f h hc12
              rcases Classical.em (x0 = 17) with hc13 | hc13
              · have h := it_ok_t h hc13
                refine ev_table (c1 := 17) (off := 97) (tgt := 98) hc13 d_X6_two_1 (by decide) (by decide) (by decide) (by decide) ?_
                refine ev_iload_n d_X6_two_98 rfl ?_
                refine ev_iload_n d_X6_two_99 rfl ?_
                refine ev_isub d_X6_two_100 ?_
                exact ev_ret (v := some (.int _)) ⟨d_X6_two_101, _, rfl, rfl⟩ (by decide) (by decide) ⟨rfl, _, rfl, it_ok_r h⟩
              · have h := it_ok_f h hc13
                refine ev_tableOut (tgt := 102) d_X6_two_1 (it_sw (fun h1 h2 => ?_)) (by decide) ?_
                · rcases (by omega : (x0).toInt = 11 ∨ (x0).toInt = 12 ∨ (x0).toInt = 13 ∨ (x0).toInt = 14 ∨ (x0).toInt = 15 ∨ (x0).toInt = 16 ∨ (x0).toInt = 17) with q | q | q | q | q | q | q
                  · exact hc1 (Int32.toInt_inj.mp (q.trans (by decide)))
                  · exact hc4 (Int32.toInt_inj.mp (q.trans (by decide)))
                  · exact hc7 (Int32.toInt_inj.mp (q.trans (by decide)))
                  · exact hc8 (Int32.toInt_inj.mp (q.trans (by decide)))
                  · exact hc10 (Int32.toInt_inj.mp (q.trans (by decide)))
                  · exact hc12 (Int32.toInt_inj.mp (q.trans (by decide)))
                  · exact hc13 (Int32.toInt_inj.mp (q.trans (by decide)))
                · skip
                  refine ev_iload_n d_X6_two_102 rfl ?_
                  refine ev_iload_n d_X6_two_103 rfl ?_
                  refine ev_imul d_X6_two_104 ?_
                  exact ev_ret (v := some (.int _)) ⟨d_X6_two_105, _, rfl, rfl⟩ (by decide) (by decide) ⟨rfl, _, rfl, it_ok_r h⟩
theorem d_X6_lowest_0 : decode prog_8_method_59_code 0 = .ok (.lload_n 0, 1) := by decide +kernel
theorem d_X6_lowest_1 : decode prog_8_method_59_code 1 = .ok (.lconst 0, 1) := by decide +kernel
theorem d_X6_lowest_2 : decode prog_8_method_59_code 2 = .ok (.lcmp, 1) := by decide +kernel
theorem d_X6_lowest_3 : decode prog_8_method_59_code 3 = .ok (.ifCond .ge 8, 3) := by decide +kernel
theorem d_X6_lowest_6 : decode prog_8_method_59_code 6 = .ok (.lload_n 0, 1) := by decide +kernel
theorem d_X6_lowest_7 : decode prog_8_method_59_code 7 = .ok (.lneg, 1) := by decide +kernel
theorem d_X6_lowest_8 : decode prog_8_method_59_code 8 = .ok (.goto 4, 3) := by decide +kernel
theorem d_X6_lowest_11 : decode prog_8_method_59_code 11 = .ok (.lload_n 0, 1) := by decide +kernel
theorem d_X6_lowest_12 : decode prog_8_method_59_code 12 = .ok (.lstore 5, 2) := by decide +kernel
theorem d_X6_lowest_14 : decode prog_8_method_59_code 14 = .ok (.lload_n 2, 1) := by decide +kernel
theorem d_X6_lowest_15 : decode prog_8_method_59_code 15 = .ok (.lstore 7, 2) := by decide +kernel
theorem d_X6_lowest_17 : decode prog_8_method_59_code 17 = .ok (.lload 7, 2) := by decide +kernel
theorem d_X6_lowest_19 : decode prog_8_method_59_code 19 = .ok (.lconst 0, 1) := by decide +kernel
theorem d_X6_lowest_20 : decode prog_8_method_59_code 20 = .ok (.lcmp, 1) := by decide +kernel
theorem d_X6_lowest_21 : decode prog_8_method_59_code 21 = .ok (.ifCond .eq 21, 3) := by decide +kernel
theorem d_X6_lowest_24 : decode prog_8_method_59_code 24 = .ok (.lload 5, 2) := by decide +kernel
theorem d_X6_lowest_26 : decode prog_8_method_59_code 26 = .ok (.lload 7, 2) := by decide +kernel
theorem d_X6_lowest_28 : decode prog_8_method_59_code 28 = .ok (.lrem, 1) := by decide +kernel
theorem d_X6_lowest_29 : decode prog_8_method_59_code 29 = .ok (.lstore 9, 2) := by decide +kernel
theorem d_X6_lowest_31 : decode prog_8_method_59_code 31 = .ok (.lload 7, 2) := by decide +kernel
theorem d_X6_lowest_33 : decode prog_8_method_59_code 33 = .ok (.lstore 5, 2) := by decide +kernel
theorem d_X6_lowest_35 : decode prog_8_method_59_code 35 = .ok (.lload 9, 2) := by decide +kernel
theorem d_X6_lowest_37 : decode prog_8_method_59_code 37 = .ok (.lstore 7, 2) := by decide +kernel
theorem d_X6_lowest_39 : decode prog_8_method_59_code 39 = .ok (.goto (-22), 3) := by decide +kernel
theorem d_X6_lowest_42 : decode prog_8_method_59_code 42 = .ok (.iload 4, 2) := by decide +kernel
theorem d_X6_lowest_44 : decode prog_8_method_59_code 44 = .ok (.ifCond .ne 7, 3) := by decide +kernel
theorem d_X6_lowest_47 : decode prog_8_method_59_code 47 = .ok (.lload_n 0, 1) := by decide +kernel
theorem d_X6_lowest_48 : decode prog_8_method_59_code 48 = .ok (.goto 4, 3) := by decide +kernel
theorem d_X6_lowest_51 : decode prog_8_method_59_code 51 = .ok (.lload_n 2, 1) := by decide +kernel
theorem d_X6_lowest_52 : decode prog_8_method_59_code 52 = .ok (.lload 5, 2) := by decide +kernel
theorem d_X6_lowest_54 : decode prog_8_method_59_code 54 = .ok (.ldiv, 1) := by decide +kernel
theorem d_X6_lowest_55 : decode prog_8_method_59_code 55 = .ok (.lreturn, 1) := by decide +kernel
def lp_X6_lowest_17 (κ : it_KK) (x0 : Int64) (x2 : Int64) (x4 : Int32) (k17 : (Int64 → it_SS → Option (Int64 × it_SS))) : Nat → Int64 → Int64 → it_SS → Option (Int64 × it_SS)
  | 0, _, _, _ => none
  | n17 + 1, v5, v7, S => if (lg_cmp v7 0) = 0 then
k17 v5 S
else
if v7 = 0 then none else
lp_X6_lowest_17 κ x0 x2 x4 k17 n17 v7 (v5 - v5 / v7 * v7) S
def f_X6_lowest (κ : it_KK) (x0 : Int64) (x2 : Int64) (x4 : Int32) (S : it_SS) : Option (Int64 × it_SS) :=
if 0 ≤ (lg_cmp x0 0) then
lp_X6_lowest_17 κ x0 x2 x4 (fun v4 S5 =>
if x4 = 0 then
if v4 = 0 then none else
some ((x0 / v4), S5)
else
if v4 = 0 then none else
some ((x2 / v4), S5)) it_FU x0 x2 S
else
lp_X6_lowest_17 κ x0 x2 x4 (fun v9 S10 =>
if x4 = 0 then
if v9 = 0 then none else
some ((x0 / v9), S10)
else
if v9 = 0 then none else
some ((x2 / v9), S10)) it_FU (-x0) x2 S
set_option maxHeartbeats 4000000 in
set_option maxRecDepth 100000 in
theorem Llp_X6_lowest_17 {g : it_G} {l : Launch} {κ : it_KK} {x0 : Int64} {x2 : Int64} {x4 : Int32} {P : Int64 → it_SS → Prop} {k17 : (Int64 → it_SS → Option (Int64 × it_SS))} (hk17 : ∀ (v5 : Int64) (S : it_SS), it_ok (k17 v5 S) P → it_Ev g l 1 it_m_X6_lowest 0 0 42 [some (.long x0), none, some (.long x2), none, some (.int x4), some (.long v5), none, none, none, none, none] [] κ S (it_pl κ P)) : ∀ (n : Nat) (v5 : Int64) (v7 : Int64) (S : it_SS), it_ok (lp_X6_lowest_17 κ x0 x2 x4 k17 n v5 v7 S) P → it_Ev g l 1 it_m_X6_lowest 0 0 17 [some (.long x0), none, some (.long x2), none, some (.int x4), some (.long v5), none, some (.long v7), none, none, none] [] κ S (it_pl κ P) := by
  intro n
  induction n with
  | zero =>
    intro _ _ _ h
    exact (it_ok_n h).elim
  | succ n17 ih17 =>
    intro v5 v7 S h
    rw [lp_X6_lowest_17] at h
    refine ev_lload d_X6_lowest_17 rfl ?_
    refine ev_lconst d_X6_lowest_19 kv_lconst_0 ?_
    refine ev_lcmp d_X6_lowest_20 ?_
    refine ev_if_eq (tgt := 42) d_X6_lowest_21 (by decide) (fun hc2 => ?_) (fun hc2 => ?_)
    · have h := it_ok_t h hc2
      refine ev_keep [true, false, true, false, true, true, false, false, false, false, false] ?_
      exact hk17 _ _ h
    · have h := it_ok_f h hc2
      refine ev_lload d_X6_lowest_24 rfl ?_
      refine ev_lload d_X6_lowest_26 rfl ?_
      obtain ⟨hz3, h⟩ := it_ok_z h
      refine ev_lrem d_X6_lowest_28 hz3 ?_
      refine ev_lstore d_X6_lowest_29 (by decide) ?_
      show it_Ev g l 1 it_m_X6_lowest 0 0 31 [some (.long x0), none, some (.long x2), none, some (.int x4), some (.long v5), none, some (.long v7), none, some (.long (v5 - v5 / v7 * v7)), none] [] κ S (it_pl κ P)
      refine ev_lload d_X6_lowest_31 rfl ?_
      refine ev_lstore d_X6_lowest_33 (by decide) ?_
      show it_Ev g l 1 it_m_X6_lowest 0 0 35 [some (.long x0), none, some (.long x2), none, some (.int x4), some (.long v7), none, some (.long v7), none, some (.long (v5 - v5 / v7 * v7)), none] [] κ S (it_pl κ P)
      refine ev_lload d_X6_lowest_35 rfl ?_
      refine ev_lstore d_X6_lowest_37 (by decide) ?_
      show it_Ev g l 1 it_m_X6_lowest 0 0 39 [some (.long x0), none, some (.long x2), none, some (.int x4), some (.long v7), none, some (.long (v5 - v5 / v7 * v7)), none, some (.long (v5 - v5 / v7 * v7)), none] [] κ S (it_pl κ P)
      refine ev_goto (tgt := 17) d_X6_lowest_39 (by decide) ?_
      refine ev_keep [true, false, true, false, true, true, false, true, false, false, false] ?_
      exact ih17 _ _ _ h
set_option maxHeartbeats 4000000 in
set_option maxRecDepth 100000 in
theorem L_X6_lowest {g : it_G} {l : Launch} {κ : it_KK} {x0 : Int64} {x2 : Int64} {x4 : Int32} {S : it_SS} {P : Int64 → it_SS → Prop} (h : it_ok (f_X6_lowest κ x0 x2 x4 S) P) : it_Cn g l 1 it_m_X6_lowest [.long x0, .long x2, .int x4] κ S (it_pl κ P) := by
  refine it_Cn.of (by decide +kernel) (Nat.le_of_ble_eq_true rfl) ?_
  rw [f_X6_lowest] at h
  show it_Ev g l 1 it_m_X6_lowest 0 0 0 [some (.long x0), none, some (.long x2), none, some (.int x4), none, none, none, none, none, none] [] κ S (it_pl κ P)
  refine ev_lload_n d_X6_lowest_0 rfl ?_
  refine ev_lconst d_X6_lowest_1 kv_lconst_0 ?_
  refine ev_lcmp d_X6_lowest_2 ?_
  refine ev_if_ge (tgt := 11) d_X6_lowest_3 (by decide) (fun hc1 => ?_) (fun hc1 => ?_)
  · have h := it_ok_t h hc1
    refine ev_lload_n d_X6_lowest_11 rfl ?_
    refine ev_lstore d_X6_lowest_12 (by decide) ?_
    show it_Ev g l 1 it_m_X6_lowest 0 0 14 [some (.long x0), none, some (.long x2), none, some (.int x4), some (.long x0), none, none, none, none, none] [] κ S (it_pl κ P)
    refine ev_lload_n d_X6_lowest_14 rfl ?_
    refine ev_lstore d_X6_lowest_15 (by decide) ?_
    show it_Ev g l 1 it_m_X6_lowest 0 0 17 [some (.long x0), none, some (.long x2), none, some (.int x4), some (.long x0), none, some (.long x2), none, none, none] [] κ S (it_pl κ P)
    refine ev_keep [true, false, true, false, true, true, false, true, false, false, false] ?_
    refine Llp_X6_lowest_17  (fun v4 S5 h => ?_) _ _ _ _ h
    show it_Ev g l 1 it_m_X6_lowest 0 0 42 [some (.long x0), none, some (.long x2), none, some (.int x4), some (.long v4), none, none, none, none, none] [] κ S5 (it_pl κ P)
    refine ev_iload d_X6_lowest_42 rfl ?_
    refine ev_if_ne (tgt := 51) d_X6_lowest_44 (by decide) (fun hc6 => ?_) (fun hc6 => ?_)
    · have h := it_ok_f h hc6
      refine ev_lload_n d_X6_lowest_51 rfl ?_
      refine ev_lload d_X6_lowest_52 rfl ?_
      obtain ⟨hz7, h⟩ := it_ok_z h
      refine ev_ldiv d_X6_lowest_54 hz7 ?_
      exact ev_ret (v := some (.long _)) ⟨d_X6_lowest_55, rfl⟩ (by decide) (by decide) ⟨rfl, _, rfl, it_ok_r h⟩
    · have h := it_ok_t h hc6
      refine ev_lload_n d_X6_lowest_47 rfl ?_
      refine ev_goto (tgt := 52) d_X6_lowest_48 (by decide) ?_
      refine ev_lload d_X6_lowest_52 rfl ?_
      obtain ⟨hz8, h⟩ := it_ok_z h
      refine ev_ldiv d_X6_lowest_54 hz8 ?_
      exact ev_ret (v := some (.long _)) ⟨d_X6_lowest_55, rfl⟩ (by decide) (by decide) ⟨rfl, _, rfl, it_ok_r h⟩
  · have h := it_ok_f h hc1
    refine ev_lload_n d_X6_lowest_6 rfl ?_
    refine ev_lneg d_X6_lowest_7 ?_
    refine ev_goto (tgt := 12) d_X6_lowest_8 (by decide) ?_
    refine ev_lstore d_X6_lowest_12 (by decide) ?_
    show it_Ev g l 1 it_m_X6_lowest 0 0 14 [some (.long x0), none, some (.long x2), none, some (.int x4), some (.long (-x0)), none, none, none, none, none] [] κ S (it_pl κ P)
    refine ev_lload_n d_X6_lowest_14 rfl ?_
    refine ev_lstore d_X6_lowest_15 (by decide) ?_
    show it_Ev g l 1 it_m_X6_lowest 0 0 17 [some (.long x0), none, some (.long x2), none, some (.int x4), some (.long (-x0)), none, some (.long x2), none, none, none] [] κ S (it_pl κ P)
    refine ev_keep [true, false, true, false, true, true, false, true, false, false, false] ?_
    refine Llp_X6_lowest_17  (fun v9 S10 h => ?_) _ _ _ _ h
    show it_Ev g l 1 it_m_X6_lowest 0 0 42 [some (.long x0), none, some (.long x2), none, some (.int x4), some (.long v9), none, none, none, none, none] [] κ S10 (it_pl κ P)
    refine ev_iload d_X6_lowest_42 rfl ?_
    refine ev_if_ne (tgt := 51) d_X6_lowest_44 (by decide) (fun hc11 => ?_) (fun hc11 => ?_)
    · have h := it_ok_f h hc11
      refine ev_lload_n d_X6_lowest_51 rfl ?_
      refine ev_lload d_X6_lowest_52 rfl ?_
      obtain ⟨hz12, h⟩ := it_ok_z h
      refine ev_ldiv d_X6_lowest_54 hz12 ?_
      exact ev_ret (v := some (.long _)) ⟨d_X6_lowest_55, rfl⟩ (by decide) (by decide) ⟨rfl, _, rfl, it_ok_r h⟩
    · have h := it_ok_t h hc11
      refine ev_lload_n d_X6_lowest_47 rfl ?_
      refine ev_goto (tgt := 52) d_X6_lowest_48 (by decide) ?_
      refine ev_lload d_X6_lowest_52 rfl ?_
      obtain ⟨hz13, h⟩ := it_ok_z h
      refine ev_ldiv d_X6_lowest_54 hz13 ?_
      exact ev_ret (v := some (.long _)) ⟨d_X6_lowest_55, rfl⟩ (by decide) (by decide) ⟨rfl, _, rfl, it_ok_r h⟩
theorem d_X6_isUnder_0 : decode prog_8_method_80_code 0 = .ok (.iload_n 1, 1) := by decide +kernel
theorem d_X6_isUnder_1 : decode prog_8_method_80_code 1 = .ok (.ifCond .eq 28, 3) := by decide +kernel
theorem d_X6_isUnder_4 : decode prog_8_method_80_code 4 = .ok (.iload_n 0, 1) := by decide +kernel
theorem d_X6_isUnder_5 : decode prog_8_method_80_code 5 = .ok (.iload_n 1, 1) := by decide +kernel
theorem d_X6_isUnder_6 : decode prog_8_method_80_code 6 = .ok (.if_icmp .eq 23, 3) := by decide +kernel
theorem d_X6_isUnder_9 : decode prog_8_method_80_code 9 = .ok (.iload_n 1, 1) := by decide +kernel
theorem d_X6_isUnder_10 : decode prog_8_method_80_code 10 = .ok (.iconst 1, 1) := by decide +kernel
theorem d_X6_isUnder_11 : decode prog_8_method_80_code 11 = .ok (.if_icmp .ne 8, 3) := by decide +kernel
theorem d_X6_isUnder_14 : decode prog_8_method_80_code 14 = .ok (.iload_n 0, 1) := by decide +kernel
theorem d_X6_isUnder_15 : decode prog_8_method_80_code 15 = .ok (.iconst 3, 1) := by decide +kernel
theorem d_X6_isUnder_16 : decode prog_8_method_80_code 16 = .ok (.if_icmp .eq 13, 3) := by decide +kernel
theorem d_X6_isUnder_19 : decode prog_8_method_80_code 19 = .ok (.iload_n 1, 1) := by decide +kernel
theorem d_X6_isUnder_20 : decode prog_8_method_80_code 20 = .ok (.iconst 2, 1) := by decide +kernel
theorem d_X6_isUnder_21 : decode prog_8_method_80_code 21 = .ok (.if_icmp .ne 12, 3) := by decide +kernel
theorem d_X6_isUnder_24 : decode prog_8_method_80_code 24 = .ok (.iload_n 0, 1) := by decide +kernel
theorem d_X6_isUnder_25 : decode prog_8_method_80_code 25 = .ok (.iconst 4, 1) := by decide +kernel
theorem d_X6_isUnder_26 : decode prog_8_method_80_code 26 = .ok (.if_icmp .ne 7, 3) := by decide +kernel
theorem d_X6_isUnder_29 : decode prog_8_method_80_code 29 = .ok (.iconst 1, 1) := by decide +kernel
theorem d_X6_isUnder_30 : decode prog_8_method_80_code 30 = .ok (.goto 4, 3) := by decide +kernel
theorem d_X6_isUnder_33 : decode prog_8_method_80_code 33 = .ok (.iconst 0, 1) := by decide +kernel
theorem d_X6_isUnder_34 : decode prog_8_method_80_code 34 = .ok (.ireturn, 1) := by decide +kernel
def f_X6_isUnder (κ : it_KK) (x0 : Int32) (x1 : Int32) (S : it_SS) : Option (Int32 × it_SS) :=
if x1 = 0 then
some (1, S)
else
if x0 = x1 then
some (1, S)
else
if x1 = 1 then
if x0 = 3 then
some (1, S)
else
if x1 = 2 then
if x0 = 4 then
some (1, S)
else
some (0, S)
else
some (0, S)
else
if x1 = 2 then
if x0 = 4 then
some (1, S)
else
some (0, S)
else
some (0, S)
set_option maxHeartbeats 4000000 in
set_option maxRecDepth 100000 in
theorem L_X6_isUnder {g : it_G} {l : Launch} {κ : it_KK} {x0 : Int32} {x1 : Int32} {S : it_SS} {P : Int32 → it_SS → Prop} (h : it_ok (f_X6_isUnder κ x0 x1 S) P) : it_Cn g l 1 it_m_X6_isUnder [.int x0, .int x1] κ S (it_pi κ P) := by
  refine it_Cn.of (by decide +kernel) (Nat.le_of_ble_eq_true rfl) ?_
  rw [f_X6_isUnder] at h
  show it_Ev g l 1 it_m_X6_isUnder 0 0 0 [some (.int x0), some (.int x1)] [] κ S (it_pi κ P)
  refine ev_iload_n d_X6_isUnder_0 rfl ?_
  refine ev_if_eq (tgt := 29) d_X6_isUnder_1 (by decide) (fun hc1 => ?_) (fun hc1 => ?_)
  · have h := it_ok_t h hc1
    refine ev_iconst d_X6_isUnder_29 kv_iconst_1 ?_
    refine ev_goto (tgt := 34) d_X6_isUnder_30 (by decide) ?_
    exact ev_ret (v := some (.int _)) ⟨d_X6_isUnder_34, _, rfl, rfl⟩ (by decide) (by decide) ⟨rfl, _, rfl, it_ok_r h⟩
  · have h := it_ok_f h hc1
    refine ev_iload_n d_X6_isUnder_4 rfl ?_
    refine ev_iload_n d_X6_isUnder_5 rfl ?_
    refine ev_icmp_eq (tgt := 29) d_X6_isUnder_6 (by decide) (fun hc2 => ?_) (fun hc2 => ?_)
    · have h := it_ok_t h hc2
      refine ev_iconst d_X6_isUnder_29 kv_iconst_1 ?_
      refine ev_goto (tgt := 34) d_X6_isUnder_30 (by decide) ?_
      exact ev_ret (v := some (.int _)) ⟨d_X6_isUnder_34, _, rfl, rfl⟩ (by decide) (by decide) ⟨rfl, _, rfl, it_ok_r h⟩
    · have h := it_ok_f h hc2
      refine ev_iload_n d_X6_isUnder_9 rfl ?_
      refine ev_iconst d_X6_isUnder_10 kv_iconst_1 ?_
      refine ev_icmp_ne (tgt := 19) d_X6_isUnder_11 (by decide) (fun hc3 => ?_) (fun hc3 => ?_)
      · have h := it_ok_f h hc3
        refine ev_iload_n d_X6_isUnder_19 rfl ?_
        refine ev_iconst d_X6_isUnder_20 kv_iconst_2 ?_
        refine ev_icmp_ne (tgt := 33) d_X6_isUnder_21 (by decide) (fun hc4 => ?_) (fun hc4 => ?_)
        · have h := it_ok_f h hc4
          refine ev_iconst d_X6_isUnder_33 kv_iconst_0 ?_
          exact ev_ret (v := some (.int _)) ⟨d_X6_isUnder_34, _, rfl, rfl⟩ (by decide) (by decide) ⟨rfl, _, rfl, it_ok_r h⟩
        · have h := it_ok_t h hc4
          refine ev_iload_n d_X6_isUnder_24 rfl ?_
          refine ev_iconst d_X6_isUnder_25 kv_iconst_4 ?_
          refine ev_icmp_ne (tgt := 33) d_X6_isUnder_26 (by decide) (fun hc5 => ?_) (fun hc5 => ?_)
          · have h := it_ok_f h hc5
            refine ev_iconst d_X6_isUnder_33 kv_iconst_0 ?_
            exact ev_ret (v := some (.int _)) ⟨d_X6_isUnder_34, _, rfl, rfl⟩ (by decide) (by decide) ⟨rfl, _, rfl, it_ok_r h⟩
          · have h := it_ok_t h hc5
            refine ev_iconst d_X6_isUnder_29 kv_iconst_1 ?_
            refine ev_goto (tgt := 34) d_X6_isUnder_30 (by decide) ?_
            exact ev_ret (v := some (.int _)) ⟨d_X6_isUnder_34, _, rfl, rfl⟩ (by decide) (by decide) ⟨rfl, _, rfl, it_ok_r h⟩
      · have h := it_ok_t h hc3
        refine ev_iload_n d_X6_isUnder_14 rfl ?_
        refine ev_iconst d_X6_isUnder_15 kv_iconst_3 ?_
        refine ev_icmp_eq (tgt := 29) d_X6_isUnder_16 (by decide) (fun hc6 => ?_) (fun hc6 => ?_)
        · have h := it_ok_t h hc6
          refine ev_iconst d_X6_isUnder_29 kv_iconst_1 ?_
          refine ev_goto (tgt := 34) d_X6_isUnder_30 (by decide) ?_
          exact ev_ret (v := some (.int _)) ⟨d_X6_isUnder_34, _, rfl, rfl⟩ (by decide) (by decide) ⟨rfl, _, rfl, it_ok_r h⟩
        · have h := it_ok_f h hc6
          refine ev_iload_n d_X6_isUnder_19 rfl ?_
          refine ev_iconst d_X6_isUnder_20 kv_iconst_2 ?_
          refine ev_icmp_ne (tgt := 33) d_X6_isUnder_21 (by decide) (fun hc7 => ?_) (fun hc7 => ?_)
          · have h := it_ok_f h hc7
            refine ev_iconst d_X6_isUnder_33 kv_iconst_0 ?_
            exact ev_ret (v := some (.int _)) ⟨d_X6_isUnder_34, _, rfl, rfl⟩ (by decide) (by decide) ⟨rfl, _, rfl, it_ok_r h⟩
          · have h := it_ok_t h hc7
            refine ev_iload_n d_X6_isUnder_24 rfl ?_
            refine ev_iconst d_X6_isUnder_25 kv_iconst_4 ?_
            refine ev_icmp_ne (tgt := 33) d_X6_isUnder_26 (by decide) (fun hc8 => ?_) (fun hc8 => ?_)
            · have h := it_ok_f h hc8
              refine ev_iconst d_X6_isUnder_33 kv_iconst_0 ?_
              exact ev_ret (v := some (.int _)) ⟨d_X6_isUnder_34, _, rfl, rfl⟩ (by decide) (by decide) ⟨rfl, _, rfl, it_ok_r h⟩
            · have h := it_ok_t h hc8
              refine ev_iconst d_X6_isUnder_29 kv_iconst_1 ?_
              refine ev_goto (tgt := 34) d_X6_isUnder_30 (by decide) ?_
              exact ev_ret (v := some (.int _)) ⟨d_X6_isUnder_34, _, rfl, rfl⟩ (by decide) (by decide) ⟨rfl, _, rfl, it_ok_r h⟩
theorem d_X3_isName_0 : decode prog_5_method_4_code 0 = .ok (.iload_n 0, 1) := by decide +kernel
theorem d_X3_isName_1 : decode prog_5_method_4_code 1 = .ok (.bipush 6, 2) := by decide +kernel
theorem d_X3_isName_3 : decode prog_5_method_4_code 3 = .ok (.if_icmp .lt 13, 3) := by decide +kernel
theorem d_X3_isName_6 : decode prog_5_method_4_code 6 = .ok (.iload_n 0, 1) := by decide +kernel
theorem d_X3_isName_7 : decode prog_5_method_4_code 7 = .ok (.bipush 12, 2) := by decide +kernel
theorem d_X3_isName_9 : decode prog_5_method_4_code 9 = .ok (.if_icmp .ge 7, 3) := by decide +kernel
theorem d_X3_isName_12 : decode prog_5_method_4_code 12 = .ok (.iconst 1, 1) := by decide +kernel
theorem d_X3_isName_13 : decode prog_5_method_4_code 13 = .ok (.goto 4, 3) := by decide +kernel
theorem d_X3_isName_16 : decode prog_5_method_4_code 16 = .ok (.iconst 0, 1) := by decide +kernel
theorem d_X3_isName_17 : decode prog_5_method_4_code 17 = .ok (.ireturn, 1) := by decide +kernel
def f_X3_isName (κ : it_KK) (x0 : Int32) (S : it_SS) : Option (Int32 × it_SS) :=
if x0 < 6 then
some (0, S)
else
if 12 ≤ x0 then
some (0, S)
else
some (1, S)
set_option maxHeartbeats 4000000 in
set_option maxRecDepth 100000 in
theorem L_X3_isName {g : it_G} {l : Launch} {κ : it_KK} {x0 : Int32} {S : it_SS} {P : Int32 → it_SS → Prop} (h : it_ok (f_X3_isName κ x0 S) P) : it_Cn g l 1 it_m_X3_isName [.int x0] κ S (it_pi κ P) := by
  refine it_Cn.of (by decide +kernel) (Nat.le_of_ble_eq_true rfl) ?_
  rw [f_X3_isName] at h
  show it_Ev g l 1 it_m_X3_isName 0 0 0 [some (.int x0)] [] κ S (it_pi κ P)
  refine ev_iload_n d_X3_isName_0 rfl ?_
  refine ev_bipush d_X3_isName_1 kv_bipush_6 ?_
  refine ev_icmp_lt (tgt := 16) d_X3_isName_3 (by decide) (fun hc1 => ?_) (fun hc1 => ?_)
  · have h := it_ok_t h hc1
    refine ev_iconst d_X3_isName_16 kv_iconst_0 ?_
    exact ev_ret (v := some (.int _)) ⟨d_X3_isName_17, _, rfl, rfl⟩ (by decide) (by decide) ⟨rfl, _, rfl, it_ok_r h⟩
  · have h := it_ok_f h hc1
    refine ev_iload_n d_X3_isName_6 rfl ?_
    refine ev_bipush d_X3_isName_7 kv_bipush_12 ?_
    refine ev_icmp_ge (tgt := 16) d_X3_isName_9 (by decide) (fun hc2 => ?_) (fun hc2 => ?_)
    · have h := it_ok_t h hc2
      refine ev_iconst d_X3_isName_16 kv_iconst_0 ?_
      exact ev_ret (v := some (.int _)) ⟨d_X3_isName_17, _, rfl, rfl⟩ (by decide) (by decide) ⟨rfl, _, rfl, it_ok_r h⟩
    · have h := it_ok_f h hc2
      refine ev_iconst d_X3_isName_12 kv_iconst_1 ?_
      refine ev_goto (tgt := 17) d_X3_isName_13 (by decide) ?_
      exact ev_ret (v := some (.int _)) ⟨d_X3_isName_17, _, rfl, rfl⟩ (by decide) (by decide) ⟨rfl, _, rfl, it_ok_r h⟩
theorem d_X3_isTurn_0 : decode prog_5_method_5_code 0 = .ok (.iload_n 0, 1) := by decide +kernel
theorem d_X3_isTurn_1 : decode prog_5_method_5_code 1 = .ok (.iconst 5, 1) := by decide +kernel
theorem d_X3_isTurn_2 : decode prog_5_method_5_code 2 = .ok (.if_icmp .eq 9, 3) := by decide +kernel
theorem d_X3_isTurn_5 : decode prog_5_method_5_code 5 = .ok (.iload_n 0, 1) := by decide +kernel
theorem d_X3_isTurn_6 : decode prog_5_method_5_code 6 = .ok (.bipush 15, 2) := by decide +kernel
theorem d_X3_isTurn_8 : decode prog_5_method_5_code 8 = .ok (.if_icmp .ne 7, 3) := by decide +kernel
theorem d_X3_isTurn_11 : decode prog_5_method_5_code 11 = .ok (.iconst 1, 1) := by decide +kernel
theorem d_X3_isTurn_12 : decode prog_5_method_5_code 12 = .ok (.goto 4, 3) := by decide +kernel
theorem d_X3_isTurn_15 : decode prog_5_method_5_code 15 = .ok (.iconst 0, 1) := by decide +kernel
theorem d_X3_isTurn_16 : decode prog_5_method_5_code 16 = .ok (.ireturn, 1) := by decide +kernel
def f_X3_isTurn (κ : it_KK) (x0 : Int32) (S : it_SS) : Option (Int32 × it_SS) :=
if x0 = 5 then
some (1, S)
else
if x0 = 15 then
some (1, S)
else
some (0, S)
set_option maxHeartbeats 4000000 in
set_option maxRecDepth 100000 in
theorem L_X3_isTurn {g : it_G} {l : Launch} {κ : it_KK} {x0 : Int32} {S : it_SS} {P : Int32 → it_SS → Prop} (h : it_ok (f_X3_isTurn κ x0 S) P) : it_Cn g l 1 it_m_X3_isTurn [.int x0] κ S (it_pi κ P) := by
  refine it_Cn.of (by decide +kernel) (Nat.le_of_ble_eq_true rfl) ?_
  rw [f_X3_isTurn] at h
  show it_Ev g l 1 it_m_X3_isTurn 0 0 0 [some (.int x0)] [] κ S (it_pi κ P)
  refine ev_iload_n d_X3_isTurn_0 rfl ?_
  refine ev_iconst d_X3_isTurn_1 kv_iconst_5 ?_
  refine ev_icmp_eq (tgt := 11) d_X3_isTurn_2 (by decide) (fun hc1 => ?_) (fun hc1 => ?_)
  · have h := it_ok_t h hc1
    refine ev_iconst d_X3_isTurn_11 kv_iconst_1 ?_
    refine ev_goto (tgt := 16) d_X3_isTurn_12 (by decide) ?_
    exact ev_ret (v := some (.int _)) ⟨d_X3_isTurn_16, _, rfl, rfl⟩ (by decide) (by decide) ⟨rfl, _, rfl, it_ok_r h⟩
  · have h := it_ok_f h hc1
    refine ev_iload_n d_X3_isTurn_5 rfl ?_
    refine ev_bipush d_X3_isTurn_6 kv_bipush_15 ?_
    refine ev_icmp_ne (tgt := 15) d_X3_isTurn_8 (by decide) (fun hc2 => ?_) (fun hc2 => ?_)
    · have h := it_ok_f h hc2
      refine ev_iconst d_X3_isTurn_15 kv_iconst_0 ?_
      exact ev_ret (v := some (.int _)) ⟨d_X3_isTurn_16, _, rfl, rfl⟩ (by decide) (by decide) ⟨rfl, _, rfl, it_ok_r h⟩
    · have h := it_ok_t h hc2
      refine ev_iconst d_X3_isTurn_11 kv_iconst_1 ?_
      refine ev_goto (tgt := 16) d_X3_isTurn_12 (by decide) ?_
      exact ev_ret (v := some (.int _)) ⟨d_X3_isTurn_16, _, rfl, rfl⟩ (by decide) (by decide) ⟨rfl, _, rfl, it_ok_r h⟩
theorem d_X3_isLetter_0 : decode prog_5_method_18_code 0 = .ok (.iload_n 0, 1) := by decide +kernel
theorem d_X3_isLetter_1 : decode prog_5_method_18_code 1 = .ok (.bipush 97, 2) := by decide +kernel
theorem d_X3_isLetter_3 : decode prog_5_method_18_code 3 = .ok (.if_icmp .lt 13, 3) := by decide +kernel
theorem d_X3_isLetter_6 : decode prog_5_method_18_code 6 = .ok (.iload_n 0, 1) := by decide +kernel
theorem d_X3_isLetter_7 : decode prog_5_method_18_code 7 = .ok (.bipush 122, 2) := by decide +kernel
theorem d_X3_isLetter_9 : decode prog_5_method_18_code 9 = .ok (.if_icmp .gt 7, 3) := by decide +kernel
theorem d_X3_isLetter_12 : decode prog_5_method_18_code 12 = .ok (.iconst 1, 1) := by decide +kernel
theorem d_X3_isLetter_13 : decode prog_5_method_18_code 13 = .ok (.goto 4, 3) := by decide +kernel
theorem d_X3_isLetter_16 : decode prog_5_method_18_code 16 = .ok (.iconst 0, 1) := by decide +kernel
theorem d_X3_isLetter_17 : decode prog_5_method_18_code 17 = .ok (.ireturn, 1) := by decide +kernel
def f_X3_isLetter (κ : it_KK) (x0 : Int32) (S : it_SS) : Option (Int32 × it_SS) :=
if x0 < 97 then
some (0, S)
else
if 122 < x0 then
some (0, S)
else
some (1, S)
set_option maxHeartbeats 4000000 in
set_option maxRecDepth 100000 in
theorem L_X3_isLetter {g : it_G} {l : Launch} {κ : it_KK} {x0 : Int32} {S : it_SS} {P : Int32 → it_SS → Prop} (h : it_ok (f_X3_isLetter κ x0 S) P) : it_Cn g l 1 it_m_X3_isLetter [.int x0] κ S (it_pi κ P) := by
  refine it_Cn.of (by decide +kernel) (Nat.le_of_ble_eq_true rfl) ?_
  rw [f_X3_isLetter] at h
  show it_Ev g l 1 it_m_X3_isLetter 0 0 0 [some (.int x0)] [] κ S (it_pi κ P)
  refine ev_iload_n d_X3_isLetter_0 rfl ?_
  refine ev_bipush d_X3_isLetter_1 kv_bipush_97 ?_
  refine ev_icmp_lt (tgt := 16) d_X3_isLetter_3 (by decide) (fun hc1 => ?_) (fun hc1 => ?_)
  · have h := it_ok_t h hc1
    refine ev_iconst d_X3_isLetter_16 kv_iconst_0 ?_
    exact ev_ret (v := some (.int _)) ⟨d_X3_isLetter_17, _, rfl, rfl⟩ (by decide) (by decide) ⟨rfl, _, rfl, it_ok_r h⟩
  · have h := it_ok_f h hc1
    refine ev_iload_n d_X3_isLetter_6 rfl ?_
    refine ev_bipush d_X3_isLetter_7 kv_bipush_122 ?_
    refine ev_icmp_gt (tgt := 16) d_X3_isLetter_9 (by decide) (fun hc2 => ?_) (fun hc2 => ?_)
    · have h := it_ok_t h hc2
      refine ev_iconst d_X3_isLetter_16 kv_iconst_0 ?_
      exact ev_ret (v := some (.int _)) ⟨d_X3_isLetter_17, _, rfl, rfl⟩ (by decide) (by decide) ⟨rfl, _, rfl, it_ok_r h⟩
    · have h := it_ok_f h hc2
      refine ev_iconst d_X3_isLetter_12 kv_iconst_1 ?_
      refine ev_goto (tgt := 17) d_X3_isLetter_13 (by decide) ?_
      exact ev_ret (v := some (.int _)) ⟨d_X3_isLetter_17, _, rfl, rfl⟩ (by decide) (by decide) ⟨rfl, _, rfl, it_ok_r h⟩
theorem d_X3_isDigit_0 : decode prog_5_method_19_code 0 = .ok (.iload_n 0, 1) := by decide +kernel
theorem d_X3_isDigit_1 : decode prog_5_method_19_code 1 = .ok (.bipush 48, 2) := by decide +kernel
theorem d_X3_isDigit_3 : decode prog_5_method_19_code 3 = .ok (.if_icmp .lt 13, 3) := by decide +kernel
theorem d_X3_isDigit_6 : decode prog_5_method_19_code 6 = .ok (.iload_n 0, 1) := by decide +kernel
theorem d_X3_isDigit_7 : decode prog_5_method_19_code 7 = .ok (.bipush 57, 2) := by decide +kernel
theorem d_X3_isDigit_9 : decode prog_5_method_19_code 9 = .ok (.if_icmp .gt 7, 3) := by decide +kernel
theorem d_X3_isDigit_12 : decode prog_5_method_19_code 12 = .ok (.iconst 1, 1) := by decide +kernel
theorem d_X3_isDigit_13 : decode prog_5_method_19_code 13 = .ok (.goto 4, 3) := by decide +kernel
theorem d_X3_isDigit_16 : decode prog_5_method_19_code 16 = .ok (.iconst 0, 1) := by decide +kernel
theorem d_X3_isDigit_17 : decode prog_5_method_19_code 17 = .ok (.ireturn, 1) := by decide +kernel
def f_X3_isDigit (κ : it_KK) (x0 : Int32) (S : it_SS) : Option (Int32 × it_SS) :=
if x0 < 48 then
some (0, S)
else
if 57 < x0 then
some (0, S)
else
some (1, S)
set_option maxHeartbeats 4000000 in
set_option maxRecDepth 100000 in
theorem L_X3_isDigit {g : it_G} {l : Launch} {κ : it_KK} {x0 : Int32} {S : it_SS} {P : Int32 → it_SS → Prop} (h : it_ok (f_X3_isDigit κ x0 S) P) : it_Cn g l 1 it_m_X3_isDigit [.int x0] κ S (it_pi κ P) := by
  refine it_Cn.of (by decide +kernel) (Nat.le_of_ble_eq_true rfl) ?_
  rw [f_X3_isDigit] at h
  show it_Ev g l 1 it_m_X3_isDigit 0 0 0 [some (.int x0)] [] κ S (it_pi κ P)
  refine ev_iload_n d_X3_isDigit_0 rfl ?_
  refine ev_bipush d_X3_isDigit_1 kv_bipush_48 ?_
  refine ev_icmp_lt (tgt := 16) d_X3_isDigit_3 (by decide) (fun hc1 => ?_) (fun hc1 => ?_)
  · have h := it_ok_t h hc1
    refine ev_iconst d_X3_isDigit_16 kv_iconst_0 ?_
    exact ev_ret (v := some (.int _)) ⟨d_X3_isDigit_17, _, rfl, rfl⟩ (by decide) (by decide) ⟨rfl, _, rfl, it_ok_r h⟩
  · have h := it_ok_f h hc1
    refine ev_iload_n d_X3_isDigit_6 rfl ?_
    refine ev_bipush d_X3_isDigit_7 kv_bipush_57 ?_
    refine ev_icmp_gt (tgt := 16) d_X3_isDigit_9 (by decide) (fun hc2 => ?_) (fun hc2 => ?_)
    · have h := it_ok_t h hc2
      refine ev_iconst d_X3_isDigit_16 kv_iconst_0 ?_
      exact ev_ret (v := some (.int _)) ⟨d_X3_isDigit_17, _, rfl, rfl⟩ (by decide) (by decide) ⟨rfl, _, rfl, it_ok_r h⟩
    · have h := it_ok_f h hc2
      refine ev_iconst d_X3_isDigit_12 kv_iconst_1 ?_
      refine ev_goto (tgt := 17) d_X3_isDigit_13 (by decide) ?_
      exact ev_ret (v := some (.int _)) ⟨d_X3_isDigit_17, _, rfl, rfl⟩ (by decide) (by decide) ⟨rfl, _, rfl, it_ok_r h⟩
theorem d_X1_turned_0 : decode prog_3_method_5_code 0 = .ok (.iload_n 0, 1) := by decide +kernel
theorem d_X1_turned_1 : decode prog_3_method_5_code 1 = .ok (.iconst 5, 1) := by decide +kernel
theorem d_X1_turned_2 : decode prog_3_method_5_code 2 = .ok (.if_icmp .ne 13, 3) := by decide +kernel
theorem d_X1_turned_5 : decode prog_3_method_5_code 5 = .ok (.iload_n 1, 1) := by decide +kernel
theorem d_X1_turned_6 : decode prog_3_method_5_code 6 = .ok (.ifCond .ne 7, 3) := by decide +kernel
theorem d_X1_turned_9 : decode prog_3_method_5_code 9 = .ok (.iconst 1, 1) := by decide +kernel
theorem d_X1_turned_10 : decode prog_3_method_5_code 10 = .ok (.goto 4, 3) := by decide +kernel
theorem d_X1_turned_13 : decode prog_3_method_5_code 13 = .ok (.iconst 0, 1) := by decide +kernel
theorem d_X1_turned_14 : decode prog_3_method_5_code 14 = .ok (.ireturn, 1) := by decide +kernel
theorem d_X1_turned_15 : decode prog_3_method_5_code 15 = .ok (.iload_n 1, 1) := by decide +kernel
theorem d_X1_turned_16 : decode prog_3_method_5_code 16 = .ok (.ineg, 1) := by decide +kernel
theorem d_X1_turned_17 : decode prog_3_method_5_code 17 = .ok (.ireturn, 1) := by decide +kernel
def f_X1_turned (κ : it_KK) (x0 : Int32) (x1 : Int32) (S : it_SS) : Option (Int32 × it_SS) :=
if x0 = 5 then
if x1 = 0 then
some (1, S)
else
some (0, S)
else
some ((-x1), S)
set_option maxHeartbeats 4000000 in
set_option maxRecDepth 100000 in
theorem L_X1_turned {g : it_G} {l : Launch} {κ : it_KK} {x0 : Int32} {x1 : Int32} {S : it_SS} {P : Int32 → it_SS → Prop} (h : it_ok (f_X1_turned κ x0 x1 S) P) : it_Cn g l 1 it_m_X1_turned [.int x0, .int x1] κ S (it_pi κ P) := by
  refine it_Cn.of (by decide +kernel) (Nat.le_of_ble_eq_true rfl) ?_
  rw [f_X1_turned] at h
  show it_Ev g l 1 it_m_X1_turned 0 0 0 [some (.int x0), some (.int x1)] [] κ S (it_pi κ P)
  refine ev_iload_n d_X1_turned_0 rfl ?_
  refine ev_iconst d_X1_turned_1 kv_iconst_5 ?_
  refine ev_icmp_ne (tgt := 15) d_X1_turned_2 (by decide) (fun hc1 => ?_) (fun hc1 => ?_)
  · have h := it_ok_f h hc1
    refine ev_iload_n d_X1_turned_15 rfl ?_
    refine ev_ineg d_X1_turned_16 ?_
    exact ev_ret (v := some (.int _)) ⟨d_X1_turned_17, _, rfl, rfl⟩ (by decide) (by decide) ⟨rfl, _, rfl, it_ok_r h⟩
  · have h := it_ok_t h hc1
    refine ev_iload_n d_X1_turned_5 rfl ?_
    refine ev_if_ne (tgt := 13) d_X1_turned_6 (by decide) (fun hc2 => ?_) (fun hc2 => ?_)
    · have h := it_ok_f h hc2
      refine ev_iconst d_X1_turned_13 kv_iconst_0 ?_
      exact ev_ret (v := some (.int _)) ⟨d_X1_turned_14, _, rfl, rfl⟩ (by decide) (by decide) ⟨rfl, _, rfl, it_ok_r h⟩
    · have h := it_ok_t h hc2
      refine ev_iconst d_X1_turned_9 kv_iconst_1 ?_
      refine ev_goto (tgt := 14) d_X1_turned_10 (by decide) ?_
      exact ev_ret (v := some (.int _)) ⟨d_X1_turned_14, _, rfl, rfl⟩ (by decide) (by decide) ⟨rfl, _, rfl, it_ok_r h⟩
theorem d_X1_joined_0 : decode prog_3_method_6_code 0 = .ok (.iload_n 1, 1) := by decide +kernel
theorem d_X1_joined_1 : decode prog_3_method_6_code 1 = .ok (.lookupswitch 117 #[(3, 59), (4, 73), (43, 109), (45, 113), (60, 87), (61, 98)], 59) := by decide +kernel
theorem d_X1_joined_60 : decode prog_3_method_6_code 60 = .ok (.iload_n 0, 1) := by decide +kernel
theorem d_X1_joined_61 : decode prog_3_method_6_code 61 = .ok (.ifCond .ne 7, 3) := by decide +kernel
theorem d_X1_joined_64 : decode prog_3_method_6_code 64 = .ok (.iload_n 2, 1) := by decide +kernel
theorem d_X1_joined_65 : decode prog_3_method_6_code 65 = .ok (.ifCond .eq 7, 3) := by decide +kernel
theorem d_X1_joined_68 : decode prog_3_method_6_code 68 = .ok (.iconst 1, 1) := by decide +kernel
theorem d_X1_joined_69 : decode prog_3_method_6_code 69 = .ok (.goto 4, 3) := by decide +kernel
theorem d_X1_joined_72 : decode prog_3_method_6_code 72 = .ok (.iconst 0, 1) := by decide +kernel
theorem d_X1_joined_73 : decode prog_3_method_6_code 73 = .ok (.ireturn, 1) := by decide +kernel
theorem d_X1_joined_74 : decode prog_3_method_6_code 74 = .ok (.iload_n 0, 1) := by decide +kernel
theorem d_X1_joined_75 : decode prog_3_method_6_code 75 = .ok (.ifCond .eq 11, 3) := by decide +kernel
theorem d_X1_joined_78 : decode prog_3_method_6_code 78 = .ok (.iload_n 2, 1) := by decide +kernel
theorem d_X1_joined_79 : decode prog_3_method_6_code 79 = .ok (.ifCond .eq 7, 3) := by decide +kernel
theorem d_X1_joined_82 : decode prog_3_method_6_code 82 = .ok (.iconst 1, 1) := by decide +kernel
theorem d_X1_joined_83 : decode prog_3_method_6_code 83 = .ok (.goto 4, 3) := by decide +kernel
theorem d_X1_joined_86 : decode prog_3_method_6_code 86 = .ok (.iconst 0, 1) := by decide +kernel
theorem d_X1_joined_87 : decode prog_3_method_6_code 87 = .ok (.ireturn, 1) := by decide +kernel
theorem d_X1_joined_88 : decode prog_3_method_6_code 88 = .ok (.iload_n 0, 1) := by decide +kernel
theorem d_X1_joined_89 : decode prog_3_method_6_code 89 = .ok (.iload_n 2, 1) := by decide +kernel
theorem d_X1_joined_90 : decode prog_3_method_6_code 90 = .ok (.if_icmp .ge 7, 3) := by decide +kernel
theorem d_X1_joined_93 : decode prog_3_method_6_code 93 = .ok (.iconst 1, 1) := by decide +kernel
theorem d_X1_joined_94 : decode prog_3_method_6_code 94 = .ok (.goto 4, 3) := by decide +kernel
theorem d_X1_joined_97 : decode prog_3_method_6_code 97 = .ok (.iconst 0, 1) := by decide +kernel
theorem d_X1_joined_98 : decode prog_3_method_6_code 98 = .ok (.ireturn, 1) := by decide +kernel
theorem d_X1_joined_99 : decode prog_3_method_6_code 99 = .ok (.iload_n 0, 1) := by decide +kernel
theorem d_X1_joined_100 : decode prog_3_method_6_code 100 = .ok (.iload_n 2, 1) := by decide +kernel
theorem d_X1_joined_101 : decode prog_3_method_6_code 101 = .ok (.if_icmp .ne 7, 3) := by decide +kernel
theorem d_X1_joined_104 : decode prog_3_method_6_code 104 = .ok (.iconst 1, 1) := by decide +kernel
theorem d_X1_joined_105 : decode prog_3_method_6_code 105 = .ok (.goto 4, 3) := by decide +kernel
theorem d_X1_joined_108 : decode prog_3_method_6_code 108 = .ok (.iconst 0, 1) := by decide +kernel
theorem d_X1_joined_109 : decode prog_3_method_6_code 109 = .ok (.ireturn, 1) := by decide +kernel
theorem d_X1_joined_110 : decode prog_3_method_6_code 110 = .ok (.iload_n 0, 1) := by decide +kernel
theorem d_X1_joined_111 : decode prog_3_method_6_code 111 = .ok (.iload_n 2, 1) := by decide +kernel
theorem d_X1_joined_112 : decode prog_3_method_6_code 112 = .ok (.iadd, 1) := by decide +kernel
theorem d_X1_joined_113 : decode prog_3_method_6_code 113 = .ok (.ireturn, 1) := by decide +kernel
theorem d_X1_joined_114 : decode prog_3_method_6_code 114 = .ok (.iload_n 0, 1) := by decide +kernel
theorem d_X1_joined_115 : decode prog_3_method_6_code 115 = .ok (.iload_n 2, 1) := by decide +kernel
theorem d_X1_joined_116 : decode prog_3_method_6_code 116 = .ok (.isub, 1) := by decide +kernel
theorem d_X1_joined_117 : decode prog_3_method_6_code 117 = .ok (.ireturn, 1) := by decide +kernel
theorem d_X1_joined_118 : decode prog_3_method_6_code 118 = .ok (.iload_n 0, 1) := by decide +kernel
theorem d_X1_joined_119 : decode prog_3_method_6_code 119 = .ok (.iload_n 2, 1) := by decide +kernel
theorem d_X1_joined_120 : decode prog_3_method_6_code 120 = .ok (.imul, 1) := by decide +kernel
theorem d_X1_joined_121 : decode prog_3_method_6_code 121 = .ok (.ireturn, 1) := by decide +kernel
def f_X1_joined (κ : it_KK) (x0 : Int32) (x1 : Int32) (x2 : Int32) (S : it_SS) : Option (Int32 × it_SS) :=
if x1 = 3 then
if x0 = 0 then
if x2 = 0 then
some (0, S)
else
some (1, S)
else
some (1, S)
else if x1 = 4 then
if x0 = 0 then
some (0, S)
else
if x2 = 0 then
some (0, S)
else
some (1, S)
else if x1 = 43 then
some ((x0 + x2), S)
else if x1 = 45 then
some ((x0 - x2), S)
else if x1 = 60 then
if x2 ≤ x0 then
some (0, S)
else
some (1, S)
else if x1 = 61 then
if x0 = x2 then
some (1, S)
else
some (0, S)
else 
some ((x0 * x2), S)
set_option maxHeartbeats 4000000 in
set_option maxRecDepth 100000 in
theorem L_X1_joined {g : it_G} {l : Launch} {κ : it_KK} {x0 : Int32} {x1 : Int32} {x2 : Int32} {S : it_SS} {P : Int32 → it_SS → Prop} (h : it_ok (f_X1_joined κ x0 x1 x2 S) P) : it_Cn g l 1 it_m_X1_joined [.int x0, .int x1, .int x2] κ S (it_pi κ P) := by
  refine it_Cn.of (by decide +kernel) (Nat.le_of_ble_eq_true rfl) ?_
  rw [f_X1_joined] at h
  show it_Ev g l 1 it_m_X1_joined 0 0 0 [some (.int x0), some (.int x1), some (.int x2)] [] κ S (it_pi κ P)
  refine ev_iload_n d_X1_joined_0 rfl ?_
  rcases Classical.em (x1 = 3) with hc1 | hc1
  · have h := it_ok_t h hc1
    refine ev_lookup (off := 59) (tgt := 60) d_X1_joined_1 (by decide) (by rw [hc1]; decide) (by decide) ?_
    refine ev_iload_n d_X1_joined_60 rfl ?_
    refine ev_if_ne (tgt := 68) d_X1_joined_61 (by decide) (fun hc2 => ?_) (fun hc2 => ?_)
    · have h := it_ok_f h hc2
      refine ev_iconst d_X1_joined_68 kv_iconst_1 ?_
      refine ev_goto (tgt := 73) d_X1_joined_69 (by decide) ?_
      exact ev_ret (v := some (.int _)) ⟨d_X1_joined_73, _, rfl, rfl⟩ (by decide) (by decide) ⟨rfl, _, rfl, it_ok_r h⟩
    · have h := it_ok_t h hc2
      refine ev_iload_n d_X1_joined_64 rfl ?_
      refine ev_if_eq (tgt := 72) d_X1_joined_65 (by decide) (fun hc3 => ?_) (fun hc3 => ?_)
      · have h := it_ok_t h hc3
        refine ev_iconst d_X1_joined_72 kv_iconst_0 ?_
        exact ev_ret (v := some (.int _)) ⟨d_X1_joined_73, _, rfl, rfl⟩ (by decide) (by decide) ⟨rfl, _, rfl, it_ok_r h⟩
      · have h := it_ok_f h hc3
        refine ev_iconst d_X1_joined_68 kv_iconst_1 ?_
        refine ev_goto (tgt := 73) d_X1_joined_69 (by decide) ?_
        exact ev_ret (v := some (.int _)) ⟨d_X1_joined_73, _, rfl, rfl⟩ (by decide) (by decide) ⟨rfl, _, rfl, it_ok_r h⟩
  · have h := it_ok_f h hc1
    rcases Classical.em (x1 = 4) with hc4 | hc4
    · have h := it_ok_t h hc4
      refine ev_lookup (off := 73) (tgt := 74) d_X1_joined_1 (by decide) (by rw [hc4]; decide) (by decide) ?_
      refine ev_iload_n d_X1_joined_74 rfl ?_
      refine ev_if_eq (tgt := 86) d_X1_joined_75 (by decide) (fun hc5 => ?_) (fun hc5 => ?_)
      · have h := it_ok_t h hc5
        refine ev_iconst d_X1_joined_86 kv_iconst_0 ?_
        exact ev_ret (v := some (.int _)) ⟨d_X1_joined_87, _, rfl, rfl⟩ (by decide) (by decide) ⟨rfl, _, rfl, it_ok_r h⟩
      · have h := it_ok_f h hc5
        refine ev_iload_n d_X1_joined_78 rfl ?_
        refine ev_if_eq (tgt := 86) d_X1_joined_79 (by decide) (fun hc6 => ?_) (fun hc6 => ?_)
        · have h := it_ok_t h hc6
          refine ev_iconst d_X1_joined_86 kv_iconst_0 ?_
          exact ev_ret (v := some (.int _)) ⟨d_X1_joined_87, _, rfl, rfl⟩ (by decide) (by decide) ⟨rfl, _, rfl, it_ok_r h⟩
        · have h := it_ok_f h hc6
          refine ev_iconst d_X1_joined_82 kv_iconst_1 ?_
          refine ev_goto (tgt := 87) d_X1_joined_83 (by decide) ?_
          exact ev_ret (v := some (.int _)) ⟨d_X1_joined_87, _, rfl, rfl⟩ (by decide) (by decide) ⟨rfl, _, rfl, it_ok_r h⟩
    · have h := it_ok_f h hc4
      rcases Classical.em (x1 = 43) with hc7 | hc7
      · have h := it_ok_t h hc7
        refine ev_lookup (off := 109) (tgt := 110) d_X1_joined_1 (by decide) (by rw [hc7]; decide) (by decide) ?_
        refine ev_iload_n d_X1_joined_110 rfl ?_
        refine ev_iload_n d_X1_joined_111 rfl ?_
        refine ev_iadd d_X1_joined_112 ?_
        exact ev_ret (v := some (.int _)) ⟨d_X1_joined_113, _, rfl, rfl⟩ (by decide) (by decide) ⟨rfl, _, rfl, it_ok_r h⟩
      · have h := it_ok_f h hc7
        rcases Classical.em (x1 = 45) with hc8 | hc8
        · have h := it_ok_t h hc8
          refine ev_lookup (off := 113) (tgt := 114) d_X1_joined_1 (by decide) (by rw [hc8]; decide) (by decide) ?_
          refine ev_iload_n d_X1_joined_114 rfl ?_
          refine ev_iload_n d_X1_joined_115 rfl ?_
          refine ev_isub d_X1_joined_116 ?_
          exact ev_ret (v := some (.int _)) ⟨d_X1_joined_117, _, rfl, rfl⟩ (by decide) (by decide) ⟨rfl, _, rfl, it_ok_r h⟩
        · have h := it_ok_f h hc8
          rcases Classical.em (x1 = 60) with hc9 | hc9
          · have h := it_ok_t h hc9
            refine ev_lookup (off := 87) (tgt := 88) d_X1_joined_1 (by decide) (by rw [hc9]; decide) (by decide) ?_
            refine ev_iload_n d_X1_joined_88 rfl ?_
            refine ev_iload_n d_X1_joined_89 rfl ?_
            refine ev_icmp_ge (tgt := 97) d_X1_joined_90 (by decide) (fun hc10 => ?_) (fun hc10 => ?_)
            · have h := it_ok_t h hc10
              refine ev_iconst d_X1_joined_97 kv_iconst_0 ?_
              exact ev_ret (v := some (.int _)) ⟨d_X1_joined_98, _, rfl, rfl⟩ (by decide) (by decide) ⟨rfl, _, rfl, it_ok_r h⟩
            · have h := it_ok_f h hc10
              refine ev_iconst d_X1_joined_93 kv_iconst_1 ?_
              refine ev_goto (tgt := 98) d_X1_joined_94 (by decide) ?_
              exact ev_ret (v := some (.int _)) ⟨d_X1_joined_98, _, rfl, rfl⟩ (by decide) (by decide) ⟨rfl, _, rfl, it_ok_r h⟩
          · have h := it_ok_f h hc9
            rcases Classical.em (x1 = 61) with hc11 | hc11
            · have h := it_ok_t h hc11
              refine ev_lookup (off := 98) (tgt := 99) d_X1_joined_1 (by decide) (by rw [hc11]; decide) (by decide) ?_
              refine ev_iload_n d_X1_joined_99 rfl ?_
              refine ev_iload_n d_X1_joined_100 rfl ?_
              refine ev_icmp_ne (tgt := 108) d_X1_joined_101 (by decide) (fun hc12 => ?_) (fun hc12 => ?_)
              · have h := it_ok_f h hc12
                refine ev_iconst d_X1_joined_108 kv_iconst_0 ?_
                exact ev_ret (v := some (.int _)) ⟨d_X1_joined_109, _, rfl, rfl⟩ (by decide) (by decide) ⟨rfl, _, rfl, it_ok_r h⟩
              · have h := it_ok_t h hc12
                refine ev_iconst d_X1_joined_104 kv_iconst_1 ?_
                refine ev_goto (tgt := 109) d_X1_joined_105 (by decide) ?_
                exact ev_ret (v := some (.int _)) ⟨d_X1_joined_109, _, rfl, rfl⟩ (by decide) (by decide) ⟨rfl, _, rfl, it_ok_r h⟩
            · have h := it_ok_f h hc11
              refine ev_lookup (off := 117) (tgt := 118) d_X1_joined_1 (by decide) (by show Op.lookupswitch.offset [(3, 59), (4, 73), (43, 109), (45, 113), (60, 87), (61, 98)] 117 _ = 117; rw [lv_osw hc1 (by decide), lv_osw hc4 (by decide), lv_osw hc7 (by decide), lv_osw hc8 (by decide), lv_osw hc9 (by decide), lv_osw hc11 (by decide)]; rfl) (by decide) ?_
              refine ev_iload_n d_X1_joined_118 rfl ?_
              refine ev_iload_n d_X1_joined_119 rfl ?_
              refine ev_imul d_X1_joined_120 ?_
              exact ev_ret (v := some (.int _)) ⟨d_X1_joined_121, _, rfl, rfl⟩ (by decide) (by decide) ⟨rfl, _, rfl, it_ok_r h⟩
