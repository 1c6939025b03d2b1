theorem d_X3_isWord_0 : decode prog_5_method_16_code 0 = .ok (.getstatic 101, 3) := by decide +kernel
theorem d_X3_isWord_3 : decode prog_5_method_16_code 3 = .ok (.iload_n 1, 1) := by decide +kernel
theorem d_X3_isWord_4 : decode prog_5_method_16_code 4 = .ok (.iaload, 1) := by decide +kernel
theorem d_X3_isWord_5 : decode prog_5_method_16_code 5 = .ok (.istore_n 2, 1) := by decide +kernel
theorem d_X3_isWord_6 : decode prog_5_method_16_code 6 = .ok (.aload_n 0, 1) := by decide +kernel
theorem d_X3_isWord_7 : decode prog_5_method_16_code 7 = .ok (.getfield 39, 3) := by decide +kernel
theorem d_X3_isWord_10 : decode prog_5_method_16_code 10 = .ok (.aload_n 0, 1) := by decide +kernel
theorem d_X3_isWord_11 : decode prog_5_method_16_code 11 = .ok (.getfield 75, 3) := by decide +kernel
theorem d_X3_isWord_14 : decode prog_5_method_16_code 14 = .ok (.isub, 1) := by decide +kernel
theorem d_X3_isWord_15 : decode prog_5_method_16_code 15 = .ok (.getstatic 101, 3) := by decide +kernel
theorem d_X3_isWord_18 : decode prog_5_method_16_code 18 = .ok (.iload_n 1, 1) := by decide +kernel
theorem d_X3_isWord_19 : decode prog_5_method_16_code 19 = .ok (.iconst 1, 1) := by decide +kernel
theorem d_X3_isWord_20 : decode prog_5_method_16_code 20 = .ok (.iadd, 1) := by decide +kernel
theorem d_X3_isWord_21 : decode prog_5_method_16_code 21 = .ok (.iaload, 1) := by decide +kernel
theorem d_X3_isWord_22 : decode prog_5_method_16_code 22 = .ok (.iload_n 2, 1) := by decide +kernel
theorem d_X3_isWord_23 : decode prog_5_method_16_code 23 = .ok (.isub, 1) := by decide +kernel
theorem d_X3_isWord_24 : decode prog_5_method_16_code 24 = .ok (.if_icmp .eq 5, 3) := by decide +kernel
theorem d_X3_isWord_27 : decode prog_5_method_16_code 27 = .ok (.iconst 0, 1) := by decide +kernel
theorem d_X3_isWord_28 : decode prog_5_method_16_code 28 = .ok (.ireturn, 1) := by decide +kernel
theorem d_X3_isWord_29 : decode prog_5_method_16_code 29 = .ok (.iconst 0, 1) := by decide +kernel
theorem d_X3_isWord_30 : decode prog_5_method_16_code 30 = .ok (.istore_n 3, 1) := by decide +kernel
theorem d_X3_isWord_31 : decode prog_5_method_16_code 31 = .ok (.iload_n 3, 1) := by decide +kernel
theorem d_X3_isWord_32 : decode prog_5_method_16_code 32 = .ok (.aload_n 0, 1) := by decide +kernel
theorem d_X3_isWord_33 : decode prog_5_method_16_code 33 = .ok (.getfield 39, 3) := by decide +kernel
theorem d_X3_isWord_36 : decode prog_5_method_16_code 36 = .ok (.aload_n 0, 1) := by decide +kernel
theorem d_X3_isWord_37 : decode prog_5_method_16_code 37 = .ok (.getfield 75, 3) := by decide +kernel
theorem d_X3_isWord_40 : decode prog_5_method_16_code 40 = .ok (.isub, 1) := by decide +kernel
theorem d_X3_isWord_41 : decode prog_5_method_16_code 41 = .ok (.if_icmp .ge 33, 3) := by decide +kernel
theorem d_X3_isWord_44 : decode prog_5_method_16_code 44 = .ok (.aload_n 0, 1) := by decide +kernel
theorem d_X3_isWord_45 : decode prog_5_method_16_code 45 = .ok (.getfield 9, 3) := by decide +kernel
theorem d_X3_isWord_48 : decode prog_5_method_16_code 48 = .ok (.aload_n 0, 1) := by decide +kernel
theorem d_X3_isWord_49 : decode prog_5_method_16_code 49 = .ok (.getfield 75, 3) := by decide +kernel
theorem d_X3_isWord_52 : decode prog_5_method_16_code 52 = .ok (.iload_n 3, 1) := by decide +kernel
theorem d_X3_isWord_53 : decode prog_5_method_16_code 53 = .ok (.iadd, 1) := by decide +kernel
theorem d_X3_isWord_54 : decode prog_5_method_16_code 54 = .ok (.iaload, 1) := by decide +kernel
theorem d_X3_isWord_55 : decode prog_5_method_16_code 55 = .ok (.ldc 104, 2) := by decide +kernel
theorem d_X3_isWord_57 : decode prog_5_method_16_code 57 = .ok (.iload_n 2, 1) := by decide +kernel
theorem d_X3_isWord_58 : decode prog_5_method_16_code 58 = .ok (.iload_n 3, 1) := by decide +kernel
theorem d_X3_isWord_59 : decode prog_5_method_16_code 59 = .ok (.iadd, 1) := by decide +kernel
theorem d_X3_isWord_60 : decode prog_5_method_16_code 60 = .ok (.invokevirtual 106, 3) := by decide +kernel
theorem d_X3_isWord_63 : decode prog_5_method_16_code 63 = .ok (.if_icmp .eq 5, 3) := by decide +kernel
theorem d_X3_isWord_66 : decode prog_5_method_16_code 66 = .ok (.iconst 0, 1) := by decide +kernel
theorem d_X3_isWord_67 : decode prog_5_method_16_code 67 = .ok (.ireturn, 1) := by decide +kernel
theorem d_X3_isWord_68 : decode prog_5_method_16_code 68 = .ok (.iinc 3 1, 3) := by decide +kernel
theorem d_X3_isWord_71 : decode prog_5_method_16_code 71 = .ok (.goto (-40), 3) := by decide +kernel
theorem d_X3_isWord_74 : decode prog_5_method_16_code 74 = .ok (.iconst 1, 1) := by decide +kernel
theorem d_X3_isWord_75 : decode prog_5_method_16_code 75 = .ok (.ireturn, 1) := by decide +kernel
def lp_X3_isWord_31 (κ : it_KK) (x1 : Int32) (k31 : (it_SS → Option (Int32 × it_SS))) : Nat → Int32 → Int32 → it_SS → Option (Int32 × it_SS)
  | 0, _, _, _ => none
  | n31 + 1, v2, v3, S => if ((S 5 2) - (S 5 5)) ≤ v3 then
k31  S
else
if it_bd ((S 5 5) + v3) 160 = true then
it_bi (f_J0_charAt_5068e κ 1 (v2 + v3) S) (fun r7 S6 =>
if (S 6 (((S 5 5) + v3) : Int32).toNatClampNeg) = r7 then
lp_X3_isWord_31 κ x1 k31 n31 v2 (v3 + 1) S6
else
some (0, S6))
else none
def f_X3_isWord (κ : it_KK) (x1 : Int32) (S : it_SS) : Option (Int32 × it_SS) :=
if it_bd x1 13 = true then
if it_bd (x1 + 1) 13 = true then
if ((S 5 2) - (S 5 5)) = ((it_wordAt.getD ((x1 + 1) : Int32).toNatClampNeg 0) - (it_wordAt.getD (x1 : Int32).toNatClampNeg 0)) then
lp_X3_isWord_31 κ x1 (fun  S9 =>
some (1, S9)) it_FU (it_wordAt.getD (x1 : Int32).toNatClampNeg 0) 0 S
else
some (0, S)
else none
else none
set_option maxHeartbeats 4000000 in
set_option maxRecDepth 100000 in
theorem Llp_X3_isWord_31 {g : it_G} {l : Launch} {κ : it_KK} {x1 : Int32} (ht : it_wt κ) (hb1 : it_bd x1 13 = true) {P : Int32 → it_SS → Prop} {k31 : (it_SS → Option (Int32 × it_SS))} (hk31 : ∀  (S : it_SS), it_ok (k31  S) P → it_Ev g l 5 it_m_X3_isWord 0 0 74 [none, none, none, none] [] κ S (it_pi κ P)) : ∀ (n : Nat) (v2 : Int32) (v3 : Int32) (S : it_SS), it_ok (lp_X3_isWord_31 κ x1 k31 n v2 v3 S) P → it_Ev g l 5 it_m_X3_isWord 0 0 31 [some (.ref 5), none, some (.int v2), some (.int v3)] [] κ S (it_pi κ P) := by
  intro n
  induction n with
  | zero =>
    intro _ _ _ h
    exact (it_ok_n h).elim
  | succ n31 ih31 =>
    intro v2 v3 S h
    rw [lp_X3_isWord_31] at h
    refine ev_iload_n d_X3_isWord_31 rfl ?_
    refine ev_aload_n d_X3_isWord_32 rfl ?_
    refine ev_getI d_X3_isWord_33 fl_IcedTooSoon_Tape_39 ht.1 rfl ?_
    refine ev_aload_n d_X3_isWord_36 rfl ?_
    refine ev_getI d_X3_isWord_37 fl_IcedTooSoon_Tape_75 ht.1 rfl ?_
    refine ev_isub d_X3_isWord_40 ?_
    refine ev_icmp_ge (tgt := 74) d_X3_isWord_41 (by decide) (fun hc4 => ?_) (fun hc4 => ?_)
    · have h := it_ok_t h hc4
      refine ev_keep [false, false, false, false] ?_
      exact hk31  _ h
    · have h := it_ok_f h hc4
      refine ev_aload_n d_X3_isWord_44 rfl ?_
      refine ev_getRr (r := 6) rfl d_X3_isWord_45 fl_IcedTooSoon_Tape_9 ht.1 rfl ?_
      refine ev_aload_n d_X3_isWord_48 rfl ?_
      refine ev_getI d_X3_isWord_49 fl_IcedTooSoon_Tape_75 ht.1 rfl ?_
      refine ev_iload_n d_X3_isWord_52 rfl ?_
      refine ev_iadd d_X3_isWord_53 ?_
      obtain ⟨hb5, h⟩ := it_ok_g h
      refine ev_iald d_X3_isWord_54 (ht).2.1 (it_bd_in hb5) ?_
      refine ev_ldc1 rfl d_X3_isWord_55 ?_
      refine ev_iload_n d_X3_isWord_57 rfl ?_
      refine ev_iload_n d_X3_isWord_58 rfl ?_
      refine ev_iadd d_X3_isWord_59 ?_
      refine ev_callO (t := 1) (M' := it_m_J0_charAt_5068e) (d' := 4) (As := [.int (v2 + v3)]) (by decide) d_X3_isWord_60 ml_IcedTooSoon_Tape_106 rfl rfl rfl (Nat.le_of_ble_eq_true rfl) (by decide) (by decide) (by decide) (L_J0_charAt_5068e (by decide) (it_ok_b h)) (fun _ _ _ _ q => by cases q.1; rfl) ?_
      rintro _ _ S6 ⟨rfl, r7, rfl, h⟩
      show it_Ev g l 5 it_m_X3_isWord 0 0 63 [some (.ref 5), none, some (.int v2), some (.int v3)] [.int r7, .int (S 6 (((S 5 5) + v3) : Int32).toNatClampNeg)] κ S6 (it_pi κ P)
      refine ev_icmp_eq (tgt := 68) d_X3_isWord_63 (by decide) (fun hc8 => ?_) (fun hc8 => ?_)
      · have h := it_ok_t h hc8
        refine ev_iinc d_X3_isWord_68 kv_iconst_1 rfl (by decide) ?_
        show it_Ev g l 5 it_m_X3_isWord 0 0 71 [some (.ref 5), none, some (.int v2), some (.int (v3 + 1))] [] κ S6 (it_pi κ P)
        refine ev_goto (tgt := 31) d_X3_isWord_71 (by decide) ?_
        refine ev_keep [true, false, true, true] ?_
        exact ih31 _ _ _ h
      · have h := it_ok_f h hc8
        refine ev_iconst d_X3_isWord_66 kv_iconst_0 ?_
        exact ev_ret (v := some (.int _)) ⟨d_X3_isWord_67, _, rfl, rfl⟩ (by decide) (by decide) ⟨rfl, _, rfl, it_ok_r h⟩
set_option maxHeartbeats 4000000 in
set_option maxRecDepth 100000 in
theorem L_X3_isWord {g : it_G} {l : Launch} {κ : it_KK} {x1 : Int32} (ht : it_wt κ) {S : it_SS} {P : Int32 → it_SS → Prop} (h : it_ok (f_X3_isWord κ x1 S) P) : it_Cn g l 5 it_m_X3_isWord [.ref 5, .int x1] κ S (it_pi κ P) := by
  refine it_Cn.of (by decide +kernel) (Nat.le_of_ble_eq_true rfl) ?_
  rw [f_X3_isWord] at h
  show it_Ev g l 5 it_m_X3_isWord 0 0 0 [some (.ref 5), some (.int x1), none, none] [] κ S (it_pi κ P)
  refine ev_wordAt d_X3_isWord_0 (it_in_tb (List.mem_of_getElem? (i := 282) (by decide +kernel)) rfl) ?_
  refine ev_iload_n d_X3_isWord_3 rfl ?_
  obtain ⟨hb1, h⟩ := it_ok_g h
  refine ev_iald8 d_X3_isWord_4 (it_bd_in hb1) ?_
  refine ev_istore_n d_X3_isWord_5 (by decide) ?_
  show it_Ev g l 5 it_m_X3_isWord 0 0 6 [some (.ref 5), some (.int x1), some (.int (it_wordAt.getD (x1 : Int32).toNatClampNeg 0)), none] [] κ S (it_pi κ P)
  refine ev_aload_n d_X3_isWord_6 rfl ?_
  refine ev_getI d_X3_isWord_7 fl_IcedTooSoon_Tape_39 ht.1 rfl ?_
  refine ev_aload_n d_X3_isWord_10 rfl ?_
  refine ev_getI d_X3_isWord_11 fl_IcedTooSoon_Tape_75 ht.1 rfl ?_
  refine ev_isub d_X3_isWord_14 ?_
  refine ev_wordAt d_X3_isWord_15 (it_in_tb (List.mem_of_getElem? (i := 282) (by decide +kernel)) rfl) ?_
  refine ev_iload_n d_X3_isWord_18 rfl ?_
  refine ev_iconst d_X3_isWord_19 kv_iconst_1 ?_
  refine ev_iadd d_X3_isWord_20 ?_
  obtain ⟨hb2, h⟩ := it_ok_g h
  refine ev_iald8 d_X3_isWord_21 (it_bd_in hb2) ?_
  refine ev_iload_n d_X3_isWord_22 rfl ?_
  refine ev_isub d_X3_isWord_23 ?_
  refine ev_icmp_eq (tgt := 29) d_X3_isWord_24 (by decide) (fun hc3 => ?_) (fun hc3 => ?_)
  · have h := it_ok_t h hc3
    refine ev_iconst d_X3_isWord_29 kv_iconst_0 ?_
    refine ev_istore_n d_X3_isWord_30 (by decide) ?_
    show it_Ev g l 5 it_m_X3_isWord 0 0 31 [some (.ref 5), some (.int x1), some (.int (it_wordAt.getD (x1 : Int32).toNatClampNeg 0)), some (.int 0)] [] κ S (it_pi κ P)
    refine ev_keep [true, false, true, true] ?_
    refine Llp_X3_isWord_31 ht hb1 (fun  S9 h => ?_) _ _ _ _ h
    show it_Ev g l 5 it_m_X3_isWord 0 0 74 [none, none, none, none] [] κ S9 (it_pi κ P)
    refine ev_iconst d_X3_isWord_74 kv_iconst_1 ?_
    exact ev_ret (v := some (.int _)) ⟨d_X3_isWord_75, _, rfl, rfl⟩ (by decide) (by decide) ⟨rfl, _, rfl, it_ok_r h⟩
  · have h := it_ok_f h hc3
    refine ev_iconst d_X3_isWord_27 kv_iconst_0 ?_
    exact ev_ret (v := some (.int _)) ⟨d_X3_isWord_28, _, rfl, rfl⟩ (by decide) (by decide) ⟨rfl, _, rfl, it_ok_r h⟩
theorem d_X3_nextWord_0 : decode prog_5_method_15_code 0 = .ok (.aload_n 0, 1) := by decide +kernel
theorem d_X3_nextWord_1 : decode prog_5_method_15_code 1 = .ok (.getfield 39, 3) := by decide +kernel
theorem d_X3_nextWord_4 : decode prog_5_method_15_code 4 = .ok (.aload_n 0, 1) := by decide +kernel
theorem d_X3_nextWord_5 : decode prog_5_method_15_code 5 = .ok (.getfield 21, 3) := by decide +kernel
theorem d_X3_nextWord_8 : decode prog_5_method_15_code 8 = .ok (.if_icmp .ge 31, 3) := by decide +kernel
theorem d_X3_nextWord_11 : decode prog_5_method_15_code 11 = .ok (.aload_n 0, 1) := by decide +kernel
theorem d_X3_nextWord_12 : decode prog_5_method_15_code 12 = .ok (.getfield 9, 3) := by decide +kernel
theorem d_X3_nextWord_15 : decode prog_5_method_15_code 15 = .ok (.aload_n 0, 1) := by decide +kernel
theorem d_X3_nextWord_16 : decode prog_5_method_15_code 16 = .ok (.getfield 39, 3) := by decide +kernel
theorem d_X3_nextWord_19 : decode prog_5_method_15_code 19 = .ok (.iaload, 1) := by decide +kernel
theorem d_X3_nextWord_20 : decode prog_5_method_15_code 20 = .ok (.invokestatic 78, 3) := by decide +kernel
theorem d_X3_nextWord_23 : decode prog_5_method_15_code 23 = .ok (.ifCond .eq 16, 3) := by decide +kernel
theorem d_X3_nextWord_26 : decode prog_5_method_15_code 26 = .ok (.aload_n 0, 1) := by decide +kernel
theorem d_X3_nextWord_27 : decode prog_5_method_15_code 27 = .ok (.dup, 1) := by decide +kernel
theorem d_X3_nextWord_28 : decode prog_5_method_15_code 28 = .ok (.getfield 39, 3) := by decide +kernel
theorem d_X3_nextWord_31 : decode prog_5_method_15_code 31 = .ok (.iconst 1, 1) := by decide +kernel
theorem d_X3_nextWord_32 : decode prog_5_method_15_code 32 = .ok (.iadd, 1) := by decide +kernel
theorem d_X3_nextWord_33 : decode prog_5_method_15_code 33 = .ok (.putfield 39, 3) := by decide +kernel
theorem d_X3_nextWord_36 : decode prog_5_method_15_code 36 = .ok (.goto (-36), 3) := by decide +kernel
theorem d_X3_nextWord_39 : decode prog_5_method_15_code 39 = .ok (.aload_n 0, 1) := by decide +kernel
theorem d_X3_nextWord_40 : decode prog_5_method_15_code 40 = .ok (.bipush 14, 2) := by decide +kernel
theorem d_X3_nextWord_42 : decode prog_5_method_15_code 42 = .ok (.putfield 45, 3) := by decide +kernel
theorem d_X3_nextWord_45 : decode prog_5_method_15_code 45 = .ok (.iconst 0, 1) := by decide +kernel
theorem d_X3_nextWord_46 : decode prog_5_method_15_code 46 = .ok (.istore_n 1, 1) := by decide +kernel
theorem d_X3_nextWord_47 : decode prog_5_method_15_code 47 = .ok (.iload_n 1, 1) := by decide +kernel
theorem d_X3_nextWord_48 : decode prog_5_method_15_code 48 = .ok (.bipush 12, 2) := by decide +kernel
theorem d_X3_nextWord_50 : decode prog_5_method_15_code 50 = .ok (.if_icmp .ge 22, 3) := by decide +kernel
theorem d_X3_nextWord_53 : decode prog_5_method_15_code 53 = .ok (.aload_n 0, 1) := by decide +kernel
theorem d_X3_nextWord_54 : decode prog_5_method_15_code 54 = .ok (.iload_n 1, 1) := by decide +kernel
theorem d_X3_nextWord_55 : decode prog_5_method_15_code 55 = .ok (.invokevirtual 98, 3) := by decide +kernel
theorem d_X3_nextWord_58 : decode prog_5_method_15_code 58 = .ok (.ifCond .eq 8, 3) := by decide +kernel
theorem d_X3_nextWord_61 : decode prog_5_method_15_code 61 = .ok (.aload_n 0, 1) := by decide +kernel
theorem d_X3_nextWord_62 : decode prog_5_method_15_code 62 = .ok (.iload_n 1, 1) := by decide +kernel
theorem d_X3_nextWord_63 : decode prog_5_method_15_code 63 = .ok (.putfield 45, 3) := by decide +kernel
theorem d_X3_nextWord_66 : decode prog_5_method_15_code 66 = .ok (.iinc 1 1, 3) := by decide +kernel
theorem d_X3_nextWord_69 : decode prog_5_method_15_code 69 = .ok (.goto (-22), 3) := by decide +kernel
theorem d_X3_nextWord_72 : decode prog_5_method_15_code 72 = .ok (.return_, 1) := by decide +kernel
def lp_X3_nextWord_0 (κ : it_KK)  (k0 : (it_SS → Option (Unit × it_SS))) : Nat → it_SS → Option (Unit × it_SS)
  | 0, _ => none
  | n0 + 1, S => if (S 5 1) ≤ (S 5 2) then
k0  S
else
if it_bd (S 5 2) 160 = true then
it_bi (f_X3_isLetter κ (S 6 ((S 5 2) : Int32).toNatClampNeg) S) (fun r4 S3 =>
if r4 = 0 then
k0  S3
else
lp_X3_nextWord_0 κ  k0 n0  (it_up S3 5 2 ((S3 5 2) + 1)))
else none
def lp_X3_nextWord_47 (κ : it_KK)  (k47 : (it_SS → Option (Unit × it_SS))) : Nat → Int32 → it_SS → Option (Unit × it_SS)
  | 0, _, _ => none
  | n47 + 1, v1, S => if 12 ≤ v1 then
k47  S
else
it_bi (f_X3_isWord κ v1 S) (fun r9 S8 =>
if r9 = 0 then
lp_X3_nextWord_47 κ  k47 n47 (v1 + 1) S8
else
lp_X3_nextWord_47 κ  k47 n47 (v1 + 1) (it_up S8 5 3 v1))
def f_X3_nextWord (κ : it_KK)  (S : it_SS) : Option (Unit × it_SS) :=
lp_X3_nextWord_0 κ  (fun  S6 =>
lp_X3_nextWord_47 κ  (fun  S11 =>
some ((), S11)) it_FU 0 (it_up S6 5 3 14)) it_FU  S
set_option maxHeartbeats 4000000 in
set_option maxRecDepth 100000 in
theorem Llp_X3_nextWord_0 {g : it_G} {l : Launch} {κ : it_KK} (ht : it_wt κ) {P : Unit → it_SS → Prop} {k0 : (it_SS → Option (Unit × it_SS))} (hk0 : ∀  (S : it_SS), it_ok (k0  S) P → it_Ev g l 6 it_m_X3_nextWord 0 0 39 [some (.ref 5), none] [] κ S (it_pv κ P)) : ∀ (n : Nat)  (S : it_SS), it_ok (lp_X3_nextWord_0 κ  k0 n  S) P → it_Ev g l 6 it_m_X3_nextWord 0 0 0 [some (.ref 5), none] [] κ S (it_pv κ P) := by
  intro n
  induction n with
  | zero =>
    intro  _ h
    exact (it_ok_n h).elim
  | succ n0 ih0 =>
    intro  S h
    rw [lp_X3_nextWord_0] at h
    refine ev_aload_n d_X3_nextWord_0 rfl ?_
    refine ev_getI d_X3_nextWord_1 fl_IcedTooSoon_Tape_39 ht.1 rfl ?_
    refine ev_aload_n d_X3_nextWord_4 rfl ?_
    refine ev_getI d_X3_nextWord_5 fl_IcedTooSoon_Tape_21 ht.1 rfl ?_
    refine ev_icmp_ge (tgt := 39) d_X3_nextWord_8 (by decide) (fun hc1 => ?_) (fun hc1 => ?_)
    · have h := it_ok_t h hc1
      refine ev_keep [true, false] ?_
      exact hk0  _ h
    · have h := it_ok_f h hc1
      refine ev_aload_n d_X3_nextWord_11 rfl ?_
      refine ev_getRr (r := 6) rfl d_X3_nextWord_12 fl_IcedTooSoon_Tape_9 ht.1 rfl ?_
      refine ev_aload_n d_X3_nextWord_15 rfl ?_
      refine ev_getI d_X3_nextWord_16 fl_IcedTooSoon_Tape_39 ht.1 rfl ?_
      obtain ⟨hb2, h⟩ := it_ok_g h
      refine ev_iald d_X3_nextWord_19 (ht).2.1 (it_bd_in hb2) ?_
      refine ev_callS (M' := it_m_X3_isLetter) (d' := 1) (As := [.int (S 6 ((S 5 2) : Int32).toNatClampNeg)]) d_X3_nextWord_20 ml_IcedTooSoon_Tape_78 rfl rfl (Nat.le_of_ble_eq_true rfl) (by decide) (by decide) (by decide) (L_X3_isLetter  (it_ok_b h)) (fun _ _ _ _ q => by cases q.1; rfl) ?_
      rintro _ _ S3 ⟨rfl, r4, rfl, h⟩
      show it_Ev g l 6 it_m_X3_nextWord 0 0 23 [some (.ref 5), none] [.int r4] κ S3 (it_pv κ P)
      refine ev_if_eq (tgt := 39) d_X3_nextWord_23 (by decide) (fun hc5 => ?_) (fun hc5 => ?_)
      · have h := it_ok_t h hc5
        refine ev_keep [true, false] ?_
        exact hk0  _ h
      · have h := it_ok_f h hc5
        refine ev_aload_n d_X3_nextWord_26 rfl ?_
        refine ev_dup d_X3_nextWord_27 rfl ?_
        refine ev_getI d_X3_nextWord_28 fl_IcedTooSoon_Tape_39 ht.1 rfl ?_
        refine ev_iconst d_X3_nextWord_31 kv_iconst_1 ?_
        refine ev_iadd d_X3_nextWord_32 ?_
        refine ev_putI d_X3_nextWord_33 (by decide) fl_IcedTooSoon_Tape_39 fw_3_2 ht.1 rfl ?_
        refine ev_goto (tgt := 0) d_X3_nextWord_36 (by decide) ?_
        refine ev_keep [true, false] ?_
        exact ih0  _ h
set_option maxHeartbeats 4000000 in
set_option maxRecDepth 100000 in
theorem Llp_X3_nextWord_47 {g : it_G} {l : Launch} {κ : it_KK} (ht : it_wt κ) {P : Unit → it_SS → Prop} {k47 : (it_SS → Option (Unit × it_SS))} (hk47 : ∀  (S : it_SS), it_ok (k47  S) P → it_Ev g l 6 it_m_X3_nextWord 0 0 72 [none, none] [] κ S (it_pv κ P)) : ∀ (n : Nat) (v1 : Int32) (S : it_SS), it_ok (lp_X3_nextWord_47 κ  k47 n v1 S) P → it_Ev g l 6 it_m_X3_nextWord 0 0 47 [some (.ref 5), some (.int v1)] [] κ S (it_pv κ P) := by
  intro n
  induction n with
  | zero =>
    intro _ _ h
    exact (it_ok_n h).elim
  | succ n47 ih47 =>
    intro v1 S h
    rw [lp_X3_nextWord_47] at h
    refine ev_iload_n d_X3_nextWord_47 rfl ?_
    refine ev_bipush d_X3_nextWord_48 kv_bipush_12 ?_
    refine ev_icmp_ge (tgt := 72) d_X3_nextWord_50 (by decide) (fun hc7 => ?_) (fun hc7 => ?_)
    · have h := it_ok_t h hc7
      refine ev_keep [false, false] ?_
      exact hk47  _ h
    · have h := it_ok_f h hc7
      refine ev_aload_n d_X3_nextWord_53 rfl ?_
      refine ev_iload_n d_X3_nextWord_54 rfl ?_
      refine ev_callV (ci := 3) (b := 5) (M' := it_m_X3_isWord) (d' := 5) (As := [.int v1]) d_X3_nextWord_55 ml_IcedTooSoon_Tape_98 ht.1.1 ht.1.2.1 ⟨_, rfl, rfl⟩ rfl rfl (Nat.le_of_ble_eq_true rfl) (by decide) (by decide) (by decide) (L_X3_isWord ht (it_ok_b h)) (fun _ _ _ _ q => by cases q.1; rfl) ?_
      rintro _ _ S8 ⟨rfl, r9, rfl, h⟩
      show it_Ev g l 6 it_m_X3_nextWord 0 0 58 [some (.ref 5), some (.int v1)] [.int r9] κ S8 (it_pv κ P)
      refine ev_if_eq (tgt := 66) d_X3_nextWord_58 (by decide) (fun hc10 => ?_) (fun hc10 => ?_)
      · have h := it_ok_t h hc10
        refine ev_iinc d_X3_nextWord_66 kv_iconst_1 rfl (by decide) ?_
        show it_Ev g l 6 it_m_X3_nextWord 0 0 69 [some (.ref 5), some (.int (v1 + 1))] [] κ S8 (it_pv κ P)
        refine ev_goto (tgt := 47) d_X3_nextWord_69 (by decide) ?_
        refine ev_keep [true, true] ?_
        exact ih47 _ _ h
      · have h := it_ok_f h hc10
        refine ev_aload_n d_X3_nextWord_61 rfl ?_
        refine ev_iload_n d_X3_nextWord_62 rfl ?_
        refine ev_putI d_X3_nextWord_63 (by decide) fl_IcedTooSoon_Tape_45 fw_3_3 ht.1 rfl ?_
        refine ev_iinc d_X3_nextWord_66 kv_iconst_1 rfl (by decide) ?_
        show it_Ev g l 6 it_m_X3_nextWord 0 0 69 [some (.ref 5), some (.int (v1 + 1))] [] κ (it_up S8 5 3 v1) (it_pv κ P)
        refine ev_goto (tgt := 47) d_X3_nextWord_69 (by decide) ?_
        refine ev_keep [true, true] ?_
        exact ih47 _ _ h
set_option maxHeartbeats 4000000 in
set_option maxRecDepth 100000 in
theorem L_X3_nextWord {g : it_G} {l : Launch} {κ : it_KK} (ht : it_wt κ) {S : it_SS} {P : Unit → it_SS → Prop} (h : it_ok (f_X3_nextWord κ  S) P) : it_Cn g l 6 it_m_X3_nextWord [.ref 5] κ S (it_pv κ P) := by
  refine it_Cn.of (by decide +kernel) (Nat.le_of_ble_eq_true rfl) ?_
  rw [f_X3_nextWord] at h
  show it_Ev g l 6 it_m_X3_nextWord 0 0 0 [some (.ref 5), none] [] κ S (it_pv κ P)
  refine ev_keep [true, false] ?_
  refine Llp_X3_nextWord_0 ht (fun  S6 h => ?_) _  _ h
  show it_Ev g l 6 it_m_X3_nextWord 0 0 39 [some (.ref 5), none] [] κ S6 (it_pv κ P)
  refine ev_aload_n d_X3_nextWord_39 rfl ?_
  refine ev_bipush d_X3_nextWord_40 kv_bipush_14 ?_
  refine ev_putI d_X3_nextWord_42 (by decide) fl_IcedTooSoon_Tape_45 fw_3_3 ht.1 rfl ?_
  refine ev_iconst d_X3_nextWord_45 kv_iconst_0 ?_
  refine ev_istore_n d_X3_nextWord_46 (by decide) ?_
  show it_Ev g l 6 it_m_X3_nextWord 0 0 47 [some (.ref 5), some (.int 0)] [] κ (it_up S6 5 3 14) (it_pv κ P)
  refine ev_keep [true, true] ?_
  refine Llp_X3_nextWord_47 ht (fun  S11 h => ?_) _ _ _ h
  show it_Ev g l 6 it_m_X3_nextWord 0 0 72 [none, none] [] κ S11 (it_pv κ P)
  exact ev_ret (v := none) ⟨d_X3_nextWord_72, rfl⟩ (by decide) (by decide) ⟨rfl, rfl, it_ok_r h⟩
theorem d_X3_nextNumber_0 : decode prog_5_method_17_code 0 = .ok (.aload_n 0, 1) := by decide +kernel
theorem d_X3_nextNumber_1 : decode prog_5_method_17_code 1 = .ok (.iconst 0, 1) := by decide +kernel
theorem d_X3_nextNumber_2 : decode prog_5_method_17_code 2 = .ok (.putfield 72, 3) := by decide +kernel
theorem d_X3_nextNumber_5 : decode prog_5_method_17_code 5 = .ok (.aload_n 0, 1) := by decide +kernel
theorem d_X3_nextNumber_6 : decode prog_5_method_17_code 6 = .ok (.getfield 39, 3) := by decide +kernel
theorem d_X3_nextNumber_9 : decode prog_5_method_17_code 9 = .ok (.aload_n 0, 1) := by decide +kernel
theorem d_X3_nextNumber_10 : decode prog_5_method_17_code 10 = .ok (.getfield 21, 3) := by decide +kernel
theorem d_X3_nextNumber_13 : decode prog_5_method_17_code 13 = .ok (.if_icmp .ge 55, 3) := by decide +kernel
theorem d_X3_nextNumber_16 : decode prog_5_method_17_code 16 = .ok (.aload_n 0, 1) := by decide +kernel
theorem d_X3_nextNumber_17 : decode prog_5_method_17_code 17 = .ok (.getfield 9, 3) := by decide +kernel
theorem d_X3_nextNumber_20 : decode prog_5_method_17_code 20 = .ok (.aload_n 0, 1) := by decide +kernel
theorem d_X3_nextNumber_21 : decode prog_5_method_17_code 21 = .ok (.getfield 39, 3) := by decide +kernel
theorem d_X3_nextNumber_24 : decode prog_5_method_17_code 24 = .ok (.iaload, 1) := by decide +kernel
theorem d_X3_nextNumber_25 : decode prog_5_method_17_code 25 = .ok (.invokestatic 84, 3) := by decide +kernel
theorem d_X3_nextNumber_28 : decode prog_5_method_17_code 28 = .ok (.ifCond .eq 40, 3) := by decide +kernel
theorem d_X3_nextNumber_31 : decode prog_5_method_17_code 31 = .ok (.aload_n 0, 1) := by decide +kernel
theorem d_X3_nextNumber_32 : decode prog_5_method_17_code 32 = .ok (.aload_n 0, 1) := by decide +kernel
theorem d_X3_nextNumber_33 : decode prog_5_method_17_code 33 = .ok (.getfield 72, 3) := by decide +kernel
theorem d_X3_nextNumber_36 : decode prog_5_method_17_code 36 = .ok (.bipush 10, 2) := by decide +kernel
theorem d_X3_nextNumber_38 : decode prog_5_method_17_code 38 = .ok (.imul, 1) := by decide +kernel
theorem d_X3_nextNumber_39 : decode prog_5_method_17_code 39 = .ok (.aload_n 0, 1) := by decide +kernel
theorem d_X3_nextNumber_40 : decode prog_5_method_17_code 40 = .ok (.getfield 9, 3) := by decide +kernel
theorem d_X3_nextNumber_43 : decode prog_5_method_17_code 43 = .ok (.aload_n 0, 1) := by decide +kernel
theorem d_X3_nextNumber_44 : decode prog_5_method_17_code 44 = .ok (.getfield 39, 3) := by decide +kernel
theorem d_X3_nextNumber_47 : decode prog_5_method_17_code 47 = .ok (.iaload, 1) := by decide +kernel
theorem d_X3_nextNumber_48 : decode prog_5_method_17_code 48 = .ok (.iadd, 1) := by decide +kernel
theorem d_X3_nextNumber_49 : decode prog_5_method_17_code 49 = .ok (.bipush 48, 2) := by decide +kernel
theorem d_X3_nextNumber_51 : decode prog_5_method_17_code 51 = .ok (.isub, 1) := by decide +kernel
theorem d_X3_nextNumber_52 : decode prog_5_method_17_code 52 = .ok (.putfield 72, 3) := by decide +kernel
theorem d_X3_nextNumber_55 : decode prog_5_method_17_code 55 = .ok (.aload_n 0, 1) := by decide +kernel
theorem d_X3_nextNumber_56 : decode prog_5_method_17_code 56 = .ok (.dup, 1) := by decide +kernel
theorem d_X3_nextNumber_57 : decode prog_5_method_17_code 57 = .ok (.getfield 39, 3) := by decide +kernel
theorem d_X3_nextNumber_60 : decode prog_5_method_17_code 60 = .ok (.iconst 1, 1) := by decide +kernel
theorem d_X3_nextNumber_61 : decode prog_5_method_17_code 61 = .ok (.iadd, 1) := by decide +kernel
theorem d_X3_nextNumber_62 : decode prog_5_method_17_code 62 = .ok (.putfield 39, 3) := by decide +kernel
theorem d_X3_nextNumber_65 : decode prog_5_method_17_code 65 = .ok (.goto (-60), 3) := by decide +kernel
theorem d_X3_nextNumber_68 : decode prog_5_method_17_code 68 = .ok (.aload_n 0, 1) := by decide +kernel
theorem d_X3_nextNumber_69 : decode prog_5_method_17_code 69 = .ok (.aload_n 0, 1) := by decide +kernel
theorem d_X3_nextNumber_70 : decode prog_5_method_17_code 70 = .ok (.getfield 39, 3) := by decide +kernel
theorem d_X3_nextNumber_73 : decode prog_5_method_17_code 73 = .ok (.aload_n 0, 1) := by decide +kernel
theorem d_X3_nextNumber_74 : decode prog_5_method_17_code 74 = .ok (.getfield 75, 3) := by decide +kernel
theorem d_X3_nextNumber_77 : decode prog_5_method_17_code 77 = .ok (.isub, 1) := by decide +kernel
theorem d_X3_nextNumber_78 : decode prog_5_method_17_code 78 = .ok (.iconst 4, 1) := by decide +kernel
theorem d_X3_nextNumber_79 : decode prog_5_method_17_code 79 = .ok (.if_icmp .le 8, 3) := by decide +kernel
theorem d_X3_nextNumber_82 : decode prog_5_method_17_code 82 = .ok (.bipush 14, 2) := by decide +kernel
theorem d_X3_nextNumber_84 : decode prog_5_method_17_code 84 = .ok (.goto 5, 3) := by decide +kernel
theorem d_X3_nextNumber_87 : decode prog_5_method_17_code 87 = .ok (.bipush 12, 2) := by decide +kernel
theorem d_X3_nextNumber_89 : decode prog_5_method_17_code 89 = .ok (.putfield 45, 3) := by decide +kernel
theorem d_X3_nextNumber_92 : decode prog_5_method_17_code 92 = .ok (.return_, 1) := by decide +kernel
def lp_X3_nextNumber_5 (κ : it_KK)  (k5 : (it_SS → Option (Unit × it_SS))) : Nat → it_SS → Option (Unit × it_SS)
  | 0, _ => none
  | n5 + 1, S => if (S 5 1) ≤ (S 5 2) then
k5  S
else
if it_bd (S 5 2) 160 = true then
it_bi (f_X3_isDigit κ (S 6 ((S 5 2) : Int32).toNatClampNeg) S) (fun r4 S3 =>
if r4 = 0 then
k5  S3
else
if it_bd (S3 5 2) 160 = true then
lp_X3_nextNumber_5 κ  k5 n5  (it_up (it_up S3 5 4 ((((S3 5 4) * 10) + (S3 6 ((S3 5 2) : Int32).toNatClampNeg)) - 48)) 5 2 (((it_up S3 5 4 ((((S3 5 4) * 10) + (S3 6 ((S3 5 2) : Int32).toNatClampNeg)) - 48)) 5 2) + 1))
else none)
else none
def f_X3_nextNumber (κ : it_KK)  (S : it_SS) : Option (Unit × it_SS) :=
lp_X3_nextNumber_5 κ  (fun  S7 =>
if ((S7 5 2) - (S7 5 5)) ≤ 4 then
some ((), it_up S7 5 3 12)
else
some ((), it_up S7 5 3 14)) it_FU  (it_up S 5 4 0)
set_option maxHeartbeats 4000000 in
set_option maxRecDepth 100000 in
theorem Llp_X3_nextNumber_5 {g : it_G} {l : Launch} {κ : it_KK} (ht : it_wt κ) {P : Unit → it_SS → Prop} {k5 : (it_SS → Option (Unit × it_SS))} (hk5 : ∀  (S : it_SS), it_ok (k5  S) P → it_Ev g l 2 it_m_X3_nextNumber 0 0 68 [some (.ref 5)] [] κ S (it_pv κ P)) : ∀ (n : Nat)  (S : it_SS), it_ok (lp_X3_nextNumber_5 κ  k5 n  S) P → it_Ev g l 2 it_m_X3_nextNumber 0 0 5 [some (.ref 5)] [] κ S (it_pv κ P) := by
  intro n
  induction n with
  | zero =>
    intro  _ h
    exact (it_ok_n h).elim
  | succ n5 ih5 =>
    intro  S h
    rw [lp_X3_nextNumber_5] at h
    refine ev_aload_n d_X3_nextNumber_5 rfl ?_
    refine ev_getI d_X3_nextNumber_6 fl_IcedTooSoon_Tape_39 ht.1 rfl ?_
    refine ev_aload_n d_X3_nextNumber_9 rfl ?_
    refine ev_getI d_X3_nextNumber_10 fl_IcedTooSoon_Tape_21 ht.1 rfl ?_
    refine ev_icmp_ge (tgt := 68) d_X3_nextNumber_13 (by decide) (fun hc1 => ?_) (fun hc1 => ?_)
    · have h := it_ok_t h hc1
      refine ev_keep [true] ?_
      exact hk5  _ h
    · have h := it_ok_f h hc1
      refine ev_aload_n d_X3_nextNumber_16 rfl ?_
      refine ev_getRr (r := 6) rfl d_X3_nextNumber_17 fl_IcedTooSoon_Tape_9 ht.1 rfl ?_
      refine ev_aload_n d_X3_nextNumber_20 rfl ?_
      refine ev_getI d_X3_nextNumber_21 fl_IcedTooSoon_Tape_39 ht.1 rfl ?_
      obtain ⟨hb2, h⟩ := it_ok_g h
      refine ev_iald d_X3_nextNumber_24 (ht).2.1 (it_bd_in hb2) ?_
      refine ev_callS (M' := it_m_X3_isDigit) (d' := 1) (As := [.int (S 6 ((S 5 2) : Int32).toNatClampNeg)]) d_X3_nextNumber_25 ml_IcedTooSoon_Tape_84 rfl rfl (Nat.le_of_ble_eq_true rfl) (by decide) (by decide) (by decide) (L_X3_isDigit  (it_ok_b h)) (fun _ _ _ _ q => by cases q.1; rfl) ?_
      rintro _ _ S3 ⟨rfl, r4, rfl, h⟩
      show it_Ev g l 2 it_m_X3_nextNumber 0 0 28 [some (.ref 5)] [.int r4] κ S3 (it_pv κ P)
      refine ev_if_eq (tgt := 68) d_X3_nextNumber_28 (by decide) (fun hc5 => ?_) (fun hc5 => ?_)
      · have h := it_ok_t h hc5
        refine ev_keep [true] ?_
        exact hk5  _ h
      · have h := it_ok_f h hc5
        refine ev_aload_n d_X3_nextNumber_31 rfl ?_
        refine ev_aload_n d_X3_nextNumber_32 rfl ?_
        refine ev_getI d_X3_nextNumber_33 fl_IcedTooSoon_Tape_72 ht.1 rfl ?_
        refine ev_bipush d_X3_nextNumber_36 kv_bipush_10 ?_
        refine ev_imul d_X3_nextNumber_38 ?_
        refine ev_aload_n d_X3_nextNumber_39 rfl ?_
        refine ev_getRr (r := 6) rfl d_X3_nextNumber_40 fl_IcedTooSoon_Tape_9 ht.1 rfl ?_
        refine ev_aload_n d_X3_nextNumber_43 rfl ?_
        refine ev_getI d_X3_nextNumber_44 fl_IcedTooSoon_Tape_39 ht.1 rfl ?_
        obtain ⟨hb6, h⟩ := it_ok_g h
        refine ev_iald d_X3_nextNumber_47 (ht).2.1 (it_bd_in hb6) ?_
        refine ev_iadd d_X3_nextNumber_48 ?_
        refine ev_bipush d_X3_nextNumber_49 kv_bipush_48 ?_
        refine ev_isub d_X3_nextNumber_51 ?_
        refine ev_putI d_X3_nextNumber_52 (by decide) fl_IcedTooSoon_Tape_72 fw_3_4 ht.1 rfl ?_
        refine ev_aload_n d_X3_nextNumber_55 rfl ?_
        refine ev_dup d_X3_nextNumber_56 rfl ?_
        refine ev_getI d_X3_nextNumber_57 fl_IcedTooSoon_Tape_39 ht.1 rfl ?_
        refine ev_iconst d_X3_nextNumber_60 kv_iconst_1 ?_
        refine ev_iadd d_X3_nextNumber_61 ?_
        refine ev_putI d_X3_nextNumber_62 (by decide) fl_IcedTooSoon_Tape_39 fw_3_2 ht.1 rfl ?_
        refine ev_goto (tgt := 5) d_X3_nextNumber_65 (by decide) ?_
        refine ev_keep [true] ?_
        exact ih5  _ h
set_option maxHeartbeats 4000000 in
set_option maxRecDepth 100000 in
theorem L_X3_nextNumber {g : it_G} {l : Launch} {κ : it_KK} (ht : it_wt κ) {S : it_SS} {P : Unit → it_SS → Prop} (h : it_ok (f_X3_nextNumber κ  S) P) : it_Cn g l 2 it_m_X3_nextNumber [.ref 5] κ S (it_pv κ P) := by
  refine it_Cn.of (by decide +kernel) (Nat.le_of_ble_eq_true rfl) ?_
  rw [f_X3_nextNumber] at h
  show it_Ev g l 2 it_m_X3_nextNumber 0 0 0 [some (.ref 5)] [] κ S (it_pv κ P)
  refine ev_aload_n d_X3_nextNumber_0 rfl ?_
  refine ev_iconst d_X3_nextNumber_1 kv_iconst_0 ?_
  refine ev_putI d_X3_nextNumber_2 (by decide) fl_IcedTooSoon_Tape_72 fw_3_4 ht.1 rfl ?_
  refine ev_keep [true] ?_
  refine Llp_X3_nextNumber_5 ht (fun  S7 h => ?_) _  _ h
  show it_Ev g l 2 it_m_X3_nextNumber 0 0 68 [some (.ref 5)] [] κ S7 (it_pv κ P)
  refine ev_aload_n d_X3_nextNumber_68 rfl ?_
  refine ev_aload_n d_X3_nextNumber_69 rfl ?_
  refine ev_getI d_X3_nextNumber_70 fl_IcedTooSoon_Tape_39 ht.1 rfl ?_
  refine ev_aload_n d_X3_nextNumber_73 rfl ?_
  refine ev_getI d_X3_nextNumber_74 fl_IcedTooSoon_Tape_75 ht.1 rfl ?_
  refine ev_isub d_X3_nextNumber_77 ?_
  refine ev_iconst d_X3_nextNumber_78 kv_iconst_4 ?_
  refine ev_icmp_le (tgt := 87) d_X3_nextNumber_79 (by decide) (fun hc8 => ?_) (fun hc8 => ?_)
  · have h := it_ok_t h hc8
    refine ev_bipush d_X3_nextNumber_87 kv_bipush_12 ?_
    refine ev_putI d_X3_nextNumber_89 (by decide) fl_IcedTooSoon_Tape_45 fw_3_3 ht.1 rfl ?_
    exact ev_ret (v := none) ⟨d_X3_nextNumber_92, rfl⟩ (by decide) (by decide) ⟨rfl, rfl, it_ok_r h⟩
  · have h := it_ok_f h hc8
    refine ev_bipush d_X3_nextNumber_82 kv_bipush_14 ?_
    refine ev_goto (tgt := 89) d_X3_nextNumber_84 (by decide) ?_
    refine ev_putI d_X3_nextNumber_89 (by decide) fl_IcedTooSoon_Tape_45 fw_3_3 ht.1 rfl ?_
    exact ev_ret (v := none) ⟨d_X3_nextNumber_92, rfl⟩ (by decide) (by decide) ⟨rfl, rfl, it_ok_r h⟩
theorem d_X3_next_0 : decode prog_5_method_14_code 0 = .ok (.aload_n 0, 1) := by decide +kernel
theorem d_X3_next_1 : decode prog_5_method_14_code 1 = .ok (.getfield 39, 3) := by decide +kernel
theorem d_X3_next_4 : decode prog_5_method_14_code 4 = .ok (.aload_n 0, 1) := by decide +kernel
theorem d_X3_next_5 : decode prog_5_method_14_code 5 = .ok (.getfield 21, 3) := by decide +kernel
theorem d_X3_next_8 : decode prog_5_method_14_code 8 = .ok (.if_icmp .ge 44, 3) := by decide +kernel
theorem d_X3_next_11 : decode prog_5_method_14_code 11 = .ok (.aload_n 0, 1) := by decide +kernel
theorem d_X3_next_12 : decode prog_5_method_14_code 12 = .ok (.getfield 9, 3) := by decide +kernel
theorem d_X3_next_15 : decode prog_5_method_14_code 15 = .ok (.aload_n 0, 1) := by decide +kernel
theorem d_X3_next_16 : decode prog_5_method_14_code 16 = .ok (.getfield 39, 3) := by decide +kernel
theorem d_X3_next_19 : decode prog_5_method_14_code 19 = .ok (.iaload, 1) := by decide +kernel
theorem d_X3_next_20 : decode prog_5_method_14_code 20 = .ok (.bipush 32, 2) := by decide +kernel
theorem d_X3_next_22 : decode prog_5_method_14_code 22 = .ok (.if_icmp .eq 17, 3) := by decide +kernel
theorem d_X3_next_25 : decode prog_5_method_14_code 25 = .ok (.aload_n 0, 1) := by decide +kernel
theorem d_X3_next_26 : decode prog_5_method_14_code 26 = .ok (.getfield 9, 3) := by decide +kernel
theorem d_X3_next_29 : decode prog_5_method_14_code 29 = .ok (.aload_n 0, 1) := by decide +kernel
theorem d_X3_next_30 : decode prog_5_method_14_code 30 = .ok (.getfield 39, 3) := by decide +kernel
theorem d_X3_next_33 : decode prog_5_method_14_code 33 = .ok (.iaload, 1) := by decide +kernel
theorem d_X3_next_34 : decode prog_5_method_14_code 34 = .ok (.bipush 10, 2) := by decide +kernel
theorem d_X3_next_36 : decode prog_5_method_14_code 36 = .ok (.if_icmp .ne 16, 3) := by decide +kernel
theorem d_X3_next_39 : decode prog_5_method_14_code 39 = .ok (.aload_n 0, 1) := by decide +kernel
theorem d_X3_next_40 : decode prog_5_method_14_code 40 = .ok (.dup, 1) := by decide +kernel
theorem d_X3_next_41 : decode prog_5_method_14_code 41 = .ok (.getfield 39, 3) := by decide +kernel
theorem d_X3_next_44 : decode prog_5_method_14_code 44 = .ok (.iconst 1, 1) := by decide +kernel
theorem d_X3_next_45 : decode prog_5_method_14_code 45 = .ok (.iadd, 1) := by decide +kernel
theorem d_X3_next_46 : decode prog_5_method_14_code 46 = .ok (.putfield 39, 3) := by decide +kernel
theorem d_X3_next_49 : decode prog_5_method_14_code 49 = .ok (.goto (-49), 3) := by decide +kernel
theorem d_X3_next_52 : decode prog_5_method_14_code 52 = .ok (.aload_n 0, 1) := by decide +kernel
theorem d_X3_next_53 : decode prog_5_method_14_code 53 = .ok (.aload_n 0, 1) := by decide +kernel
theorem d_X3_next_54 : decode prog_5_method_14_code 54 = .ok (.getfield 39, 3) := by decide +kernel
theorem d_X3_next_57 : decode prog_5_method_14_code 57 = .ok (.putfield 75, 3) := by decide +kernel
theorem d_X3_next_60 : decode prog_5_method_14_code 60 = .ok (.aload_n 0, 1) := by decide +kernel
theorem d_X3_next_61 : decode prog_5_method_14_code 61 = .ok (.getfield 39, 3) := by decide +kernel
theorem d_X3_next_64 : decode prog_5_method_14_code 64 = .ok (.aload_n 0, 1) := by decide +kernel
theorem d_X3_next_65 : decode prog_5_method_14_code 65 = .ok (.getfield 21, 3) := by decide +kernel
theorem d_X3_next_68 : decode prog_5_method_14_code 68 = .ok (.if_icmp .lt 12, 3) := by decide +kernel
theorem d_X3_next_71 : decode prog_5_method_14_code 71 = .ok (.aload_n 0, 1) := by decide +kernel
theorem d_X3_next_72 : decode prog_5_method_14_code 72 = .ok (.bipush 13, 2) := by decide +kernel
theorem d_X3_next_74 : decode prog_5_method_14_code 74 = .ok (.putfield 45, 3) := by decide +kernel
theorem d_X3_next_77 : decode prog_5_method_14_code 77 = .ok (.goto 93, 3) := by decide +kernel
theorem d_X3_next_80 : decode prog_5_method_14_code 80 = .ok (.aload_n 0, 1) := by decide +kernel
theorem d_X3_next_81 : decode prog_5_method_14_code 81 = .ok (.getfield 9, 3) := by decide +kernel
theorem d_X3_next_84 : decode prog_5_method_14_code 84 = .ok (.aload_n 0, 1) := by decide +kernel
theorem d_X3_next_85 : decode prog_5_method_14_code 85 = .ok (.getfield 39, 3) := by decide +kernel
theorem d_X3_next_88 : decode prog_5_method_14_code 88 = .ok (.iaload, 1) := by decide +kernel
theorem d_X3_next_89 : decode prog_5_method_14_code 89 = .ok (.invokestatic 78, 3) := by decide +kernel
theorem d_X3_next_92 : decode prog_5_method_14_code 92 = .ok (.ifCond .eq 10, 3) := by decide +kernel
theorem d_X3_next_95 : decode prog_5_method_14_code 95 = .ok (.aload_n 0, 1) := by decide +kernel
theorem d_X3_next_96 : decode prog_5_method_14_code 96 = .ok (.invokevirtual 81, 3) := by decide +kernel
theorem d_X3_next_99 : decode prog_5_method_14_code 99 = .ok (.goto 71, 3) := by decide +kernel
theorem d_X3_next_102 : decode prog_5_method_14_code 102 = .ok (.aload_n 0, 1) := by decide +kernel
theorem d_X3_next_103 : decode prog_5_method_14_code 103 = .ok (.getfield 9, 3) := by decide +kernel
theorem d_X3_next_106 : decode prog_5_method_14_code 106 = .ok (.aload_n 0, 1) := by decide +kernel
theorem d_X3_next_107 : decode prog_5_method_14_code 107 = .ok (.getfield 39, 3) := by decide +kernel
theorem d_X3_next_110 : decode prog_5_method_14_code 110 = .ok (.iaload, 1) := by decide +kernel
theorem d_X3_next_111 : decode prog_5_method_14_code 111 = .ok (.invokestatic 84, 3) := by decide +kernel
theorem d_X3_next_114 : decode prog_5_method_14_code 114 = .ok (.ifCond .eq 10, 3) := by decide +kernel
theorem d_X3_next_117 : decode prog_5_method_14_code 117 = .ok (.aload_n 0, 1) := by decide +kernel
theorem d_X3_next_118 : decode prog_5_method_14_code 118 = .ok (.invokevirtual 87, 3) := by decide +kernel
theorem d_X3_next_121 : decode prog_5_method_14_code 121 = .ok (.goto 49, 3) := by decide +kernel
theorem d_X3_next_124 : decode prog_5_method_14_code 124 = .ok (.aload_n 0, 1) := by decide +kernel
theorem d_X3_next_125 : decode prog_5_method_14_code 125 = .ok (.ldc 90, 2) := by decide +kernel
theorem d_X3_next_127 : decode prog_5_method_14_code 127 = .ok (.aload_n 0, 1) := by decide +kernel
theorem d_X3_next_128 : decode prog_5_method_14_code 128 = .ok (.getfield 9, 3) := by decide +kernel
theorem d_X3_next_131 : decode prog_5_method_14_code 131 = .ok (.aload_n 0, 1) := by decide +kernel
theorem d_X3_next_132 : decode prog_5_method_14_code 132 = .ok (.getfield 39, 3) := by decide +kernel
theorem d_X3_next_135 : decode prog_5_method_14_code 135 = .ok (.iaload, 1) := by decide +kernel
theorem d_X3_next_136 : decode prog_5_method_14_code 136 = .ok (.i2c, 1) := by decide +kernel
theorem d_X3_next_137 : decode prog_5_method_14_code 137 = .ok (.invokevirtual 92, 3) := by decide +kernel
theorem d_X3_next_140 : decode prog_5_method_14_code 140 = .ok (.ifCond .lt 15, 3) := by decide +kernel
theorem d_X3_next_143 : decode prog_5_method_14_code 143 = .ok (.aload_n 0, 1) := by decide +kernel
theorem d_X3_next_144 : decode prog_5_method_14_code 144 = .ok (.getfield 9, 3) := by decide +kernel
theorem d_X3_next_147 : decode prog_5_method_14_code 147 = .ok (.aload_n 0, 1) := by decide +kernel
theorem d_X3_next_148 : decode prog_5_method_14_code 148 = .ok (.getfield 39, 3) := by decide +kernel
theorem d_X3_next_151 : decode prog_5_method_14_code 151 = .ok (.iaload, 1) := by decide +kernel
theorem d_X3_next_152 : decode prog_5_method_14_code 152 = .ok (.goto 5, 3) := by decide +kernel
theorem d_X3_next_155 : decode prog_5_method_14_code 155 = .ok (.bipush 14, 2) := by decide +kernel
theorem d_X3_next_157 : decode prog_5_method_14_code 157 = .ok (.putfield 45, 3) := by decide +kernel
theorem d_X3_next_160 : decode prog_5_method_14_code 160 = .ok (.aload_n 0, 1) := by decide +kernel
theorem d_X3_next_161 : decode prog_5_method_14_code 161 = .ok (.dup, 1) := by decide +kernel
theorem d_X3_next_162 : decode prog_5_method_14_code 162 = .ok (.getfield 39, 3) := by decide +kernel
theorem d_X3_next_165 : decode prog_5_method_14_code 165 = .ok (.iconst 1, 1) := by decide +kernel
theorem d_X3_next_166 : decode prog_5_method_14_code 166 = .ok (.iadd, 1) := by decide +kernel
theorem d_X3_next_167 : decode prog_5_method_14_code 167 = .ok (.putfield 39, 3) := by decide +kernel
theorem d_X3_next_170 : decode prog_5_method_14_code 170 = .ok (.return_, 1) := by decide +kernel
def lp_X3_next_0 (κ : it_KK)  (k0 : (it_SS → Option (Unit × it_SS))) : Nat → it_SS → Option (Unit × it_SS)
  | 0, _ => none
  | n0 + 1, S => if (S 5 1) ≤ (S 5 2) then
k0  S
else
if it_bd (S 5 2) 160 = true then
if (S 6 ((S 5 2) : Int32).toNatClampNeg) = 32 then
lp_X3_next_0 κ  k0 n0  (it_up S 5 2 ((S 5 2) + 1))
else
if (S 6 ((S 5 2) : Int32).toNatClampNeg) = 10 then
lp_X3_next_0 κ  k0 n0  (it_up S 5 2 ((S 5 2) + 1))
else
k0  S
else none
def f_X3_next (κ : it_KK)  (S : it_SS) : Option (Unit × it_SS) :=
lp_X3_next_0 κ  (fun  S5 =>
if ((it_up S5 5 5 (S5 5 2)) 5 2) < ((it_up S5 5 5 (S5 5 2)) 5 1) then
if it_bd ((it_up S5 5 5 (S5 5 2)) 5 2) 160 = true then
it_bi (f_X3_isLetter κ ((it_up S5 5 5 (S5 5 2)) 6 (((it_up S5 5 5 (S5 5 2)) 5 2) : Int32).toNatClampNeg) (it_up S5 5 5 (S5 5 2))) (fun r9 S8 =>
if r9 = 0 then
if it_bd (S8 5 2) 160 = true then
it_bi (f_X3_isDigit κ (S8 6 ((S8 5 2) : Int32).toNatClampNeg) S8) (fun r13 S12 =>
if r13 = 0 then
if it_bd (S12 5 2) 160 = true then
it_bi (f_J0_indexOf_0f7a4 κ 2 ((((S12 6 ((S12 5 2) : Int32).toNatClampNeg) : Int32).toUInt32 % 65536).toInt32) S12) (fun r17 S16 =>
if r17 < 0 then
some ((), it_up (it_up S16 5 3 14) 5 2 (((it_up S16 5 3 14) 5 2) + 1))
else
if it_bd (S16 5 2) 160 = true then
some ((), it_up (it_up S16 5 3 (S16 6 ((S16 5 2) : Int32).toNatClampNeg)) 5 2 (((it_up S16 5 3 (S16 6 ((S16 5 2) : Int32).toNatClampNeg)) 5 2) + 1))
else none)
else none
else
it_bi (f_X3_nextNumber κ  S12) (fun _ S20 =>
some ((), S20)))
else none
else
it_bi (f_X3_nextWord κ  S8) (fun _ S22 =>
some ((), S22)))
else none
else
some ((), it_up (it_up S5 5 5 (S5 5 2)) 5 3 13)) it_FU  S
set_option maxHeartbeats 4000000 in
set_option maxRecDepth 100000 in
theorem Llp_X3_next_0 {g : it_G} {l : Launch} {κ : it_KK} (ht : it_wt κ) {P : Unit → it_SS → Prop} {k0 : (it_SS → Option (Unit × it_SS))} (hk0 : ∀  (S : it_SS), it_ok (k0  S) P → it_Ev g l 7 it_m_X3_next 0 0 52 [some (.ref 5)] [] κ S (it_pv κ P)) : ∀ (n : Nat)  (S : it_SS), it_ok (lp_X3_next_0 κ  k0 n  S) P → it_Ev g l 7 it_m_X3_next 0 0 0 [some (.ref 5)] [] κ S (it_pv κ P) := by
  intro n
  induction n with
  | zero =>
    intro  _ h
    exact (it_ok_n h).elim
  | succ n0 ih0 =>
    intro  S h
    rw [lp_X3_next_0] at h
    refine ev_aload_n d_X3_next_0 rfl ?_
    refine ev_getI d_X3_next_1 fl_IcedTooSoon_Tape_39 ht.1 rfl ?_
    refine ev_aload_n d_X3_next_4 rfl ?_
    refine ev_getI d_X3_next_5 fl_IcedTooSoon_Tape_21 ht.1 rfl ?_
    refine ev_icmp_ge (tgt := 52) d_X3_next_8 (by decide) (fun hc1 => ?_) (fun hc1 => ?_)
    · have h := it_ok_t h hc1
      refine ev_keep [true] ?_
      exact hk0  _ h
    · have h := it_ok_f h hc1
      refine ev_aload_n d_X3_next_11 rfl ?_
      refine ev_getRr (r := 6) rfl d_X3_next_12 fl_IcedTooSoon_Tape_9 ht.1 rfl ?_
      refine ev_aload_n d_X3_next_15 rfl ?_
      refine ev_getI d_X3_next_16 fl_IcedTooSoon_Tape_39 ht.1 rfl ?_
      obtain ⟨hb2, h⟩ := it_ok_g h
      refine ev_iald d_X3_next_19 (ht).2.1 (it_bd_in hb2) ?_
      refine ev_bipush d_X3_next_20 kv_bipush_32 ?_
      refine ev_icmp_eq (tgt := 39) d_X3_next_22 (by decide) (fun hc3 => ?_) (fun hc3 => ?_)
      · have h := it_ok_t h hc3
        refine ev_aload_n d_X3_next_39 rfl ?_
        refine ev_dup d_X3_next_40 rfl ?_
        refine ev_getI d_X3_next_41 fl_IcedTooSoon_Tape_39 ht.1 rfl ?_
        refine ev_iconst d_X3_next_44 kv_iconst_1 ?_
        refine ev_iadd d_X3_next_45 ?_
        refine ev_putI d_X3_next_46 (by decide) fl_IcedTooSoon_Tape_39 fw_3_2 ht.1 rfl ?_
        refine ev_goto (tgt := 0) d_X3_next_49 (by decide) ?_
        refine ev_keep [true] ?_
        exact ih0  _ h
      · have h := it_ok_f h hc3
        refine ev_aload_n d_X3_next_25 rfl ?_
        refine ev_getRr (r := 6) rfl d_X3_next_26 fl_IcedTooSoon_Tape_9 ht.1 rfl ?_
        refine ev_aload_n d_X3_next_29 rfl ?_
        refine ev_getI d_X3_next_30 fl_IcedTooSoon_Tape_39 ht.1 rfl ?_
        refine ev_iald d_X3_next_33 (ht).2.1 (it_bd_in hb2) ?_
        refine ev_bipush d_X3_next_34 kv_bipush_10 ?_
        refine ev_icmp_ne (tgt := 52) d_X3_next_36 (by decide) (fun hc4 => ?_) (fun hc4 => ?_)
        · have h := it_ok_f h hc4
          refine ev_keep [true] ?_
          exact hk0  _ h
        · have h := it_ok_t h hc4
          refine ev_aload_n d_X3_next_39 rfl ?_
          refine ev_dup d_X3_next_40 rfl ?_
          refine ev_getI d_X3_next_41 fl_IcedTooSoon_Tape_39 ht.1 rfl ?_
          refine ev_iconst d_X3_next_44 kv_iconst_1 ?_
          refine ev_iadd d_X3_next_45 ?_
          refine ev_putI d_X3_next_46 (by decide) fl_IcedTooSoon_Tape_39 fw_3_2 ht.1 rfl ?_
          refine ev_goto (tgt := 0) d_X3_next_49 (by decide) ?_
          refine ev_keep [true] ?_
          exact ih0  _ h
set_option maxHeartbeats 4000000 in
set_option maxRecDepth 100000 in
theorem L_X3_next {g : it_G} {l : Launch} {κ : it_KK} (ht : it_wt κ) {S : it_SS} {P : Unit → it_SS → Prop} (h : it_ok (f_X3_next κ  S) P) : it_Cn g l 7 it_m_X3_next [.ref 5] κ S (it_pv κ P) := by
  refine it_Cn.of (by decide +kernel) (Nat.le_of_ble_eq_true rfl) ?_
  rw [f_X3_next] at h
  show it_Ev g l 7 it_m_X3_next 0 0 0 [some (.ref 5)] [] κ S (it_pv κ P)
  refine ev_keep [true] ?_
  refine Llp_X3_next_0 ht (fun  S5 h => ?_) _  _ h
  show it_Ev g l 7 it_m_X3_next 0 0 52 [some (.ref 5)] [] κ S5 (it_pv κ P)
  refine ev_aload_n d_X3_next_52 rfl ?_
  refine ev_aload_n d_X3_next_53 rfl ?_
  refine ev_getI d_X3_next_54 fl_IcedTooSoon_Tape_39 ht.1 rfl ?_
  refine ev_putI d_X3_next_57 (by decide) fl_IcedTooSoon_Tape_75 fw_3_5 ht.1 rfl ?_
  refine ev_aload_n d_X3_next_60 rfl ?_
  refine ev_getI d_X3_next_61 fl_IcedTooSoon_Tape_39 ht.1 rfl ?_
  refine ev_aload_n d_X3_next_64 rfl ?_
  refine ev_getI d_X3_next_65 fl_IcedTooSoon_Tape_21 ht.1 rfl ?_
  refine ev_icmp_lt (tgt := 80) d_X3_next_68 (by decide) (fun hc6 => ?_) (fun hc6 => ?_)
  · have h := it_ok_t h hc6
    refine ev_aload_n d_X3_next_80 rfl ?_
    refine ev_getRr (r := 6) rfl d_X3_next_81 fl_IcedTooSoon_Tape_9 ht.1 rfl ?_
    refine ev_aload_n d_X3_next_84 rfl ?_
    refine ev_getI d_X3_next_85 fl_IcedTooSoon_Tape_39 ht.1 rfl ?_
    obtain ⟨hb7, h⟩ := it_ok_g h
    refine ev_iald d_X3_next_88 (ht).2.1 (it_bd_in hb7) ?_
    refine ev_callS (M' := it_m_X3_isLetter) (d' := 1) (As := [.int ((it_up S5 5 5 (S5 5 2)) 6 (((it_up S5 5 5 (S5 5 2)) 5 2) : Int32).toNatClampNeg)]) d_X3_next_89 ml_IcedTooSoon_Tape_78 rfl rfl (Nat.le_of_ble_eq_true rfl) (by decide) (by decide) (by decide) (L_X3_isLetter  (it_ok_b h)) (fun _ _ _ _ q => by cases q.1; rfl) ?_
    rintro _ _ S8 ⟨rfl, r9, rfl, h⟩
    show it_Ev g l 7 it_m_X3_next 0 0 92 [some (.ref 5)] [.int r9] κ S8 (it_pv κ P)
    refine ev_if_eq (tgt := 102) d_X3_next_92 (by decide) (fun hc10 => ?_) (fun hc10 => ?_)
    · have h := it_ok_t h hc10
      refine ev_aload_n d_X3_next_102 rfl ?_
      refine ev_getRr (r := 6) rfl d_X3_next_103 fl_IcedTooSoon_Tape_9 ht.1 rfl ?_
      refine ev_aload_n d_X3_next_106 rfl ?_
      refine ev_getI d_X3_next_107 fl_IcedTooSoon_Tape_39 ht.1 rfl ?_
      obtain ⟨hb11, h⟩ := it_ok_g h
      refine ev_iald d_X3_next_110 (ht).2.1 (it_bd_in hb11) ?_
      refine ev_callS (M' := it_m_X3_isDigit) (d' := 1) (As := [.int (S8 6 ((S8 5 2) : Int32).toNatClampNeg)]) d_X3_next_111 ml_IcedTooSoon_Tape_84 rfl rfl (Nat.le_of_ble_eq_true rfl) (by decide) (by decide) (by decide) (L_X3_isDigit  (it_ok_b h)) (fun _ _ _ _ q => by cases q.1; rfl) ?_
      rintro _ _ S12 ⟨rfl, r13, rfl, h⟩
      show it_Ev g l 7 it_m_X3_next 0 0 114 [some (.ref 5)] [.int r13] κ S12 (it_pv κ P)
      refine ev_if_eq (tgt := 124) d_X3_next_114 (by decide) (fun hc14 => ?_) (fun hc14 => ?_)
      · have h := it_ok_t h hc14
        refine ev_aload_n d_X3_next_124 rfl ?_
        refine ev_ldcs2 rfl d_X3_next_125 ?_
        refine ev_aload_n d_X3_next_127 rfl ?_
        refine ev_getRr (r := 6) rfl d_X3_next_128 fl_IcedTooSoon_Tape_9 ht.1 rfl ?_
        refine ev_aload_n d_X3_next_131 rfl ?_
        refine ev_getI d_X3_next_132 fl_IcedTooSoon_Tape_39 ht.1 rfl ?_
        obtain ⟨hb15, h⟩ := it_ok_g h
        refine ev_iald d_X3_next_135 (ht).2.1 (it_bd_in hb15) ?_
        refine ev_i2c d_X3_next_136 ?_
        refine ev_callO (t := 2) (M' := it_m_J0_indexOf_0f7a4) (d' := 4) (As := [.int ((((S12 6 ((S12 5 2) : Int32).toNatClampNeg) : Int32).toUInt32 % 65536).toInt32)]) (by decide) d_X3_next_137 ml_IcedTooSoon_Tape_92 rfl rfl rfl (Nat.le_of_ble_eq_true rfl) (by decide) (by decide) (by decide) (L_J0_indexOf_0f7a4 (by decide) (it_ok_b h)) (fun _ _ _ _ q => by cases q.1; rfl) ?_
        rintro _ _ S16 ⟨rfl, r17, rfl, h⟩
        show it_Ev g l 7 it_m_X3_next 0 0 140 [some (.ref 5)] [.int r17, .ref 5] κ S16 (it_pv κ P)
        refine ev_if_lt (tgt := 155) d_X3_next_140 (by decide) (fun hc18 => ?_) (fun hc18 => ?_)
        · have h := it_ok_t h hc18
          refine ev_bipush d_X3_next_155 kv_bipush_14 ?_
          refine ev_putI d_X3_next_157 (by decide) fl_IcedTooSoon_Tape_45 fw_3_3 ht.1 rfl ?_
          refine ev_aload_n d_X3_next_160 rfl ?_
          refine ev_dup d_X3_next_161 rfl ?_
          refine ev_getI d_X3_next_162 fl_IcedTooSoon_Tape_39 ht.1 rfl ?_
          refine ev_iconst d_X3_next_165 kv_iconst_1 ?_
          refine ev_iadd d_X3_next_166 ?_
          refine ev_putI d_X3_next_167 (by decide) fl_IcedTooSoon_Tape_39 fw_3_2 ht.1 rfl ?_
          exact ev_ret (v := none) ⟨d_X3_next_170, rfl⟩ (by decide) (by decide) ⟨rfl, rfl, it_ok_r h⟩
        · have h := it_ok_f h hc18
          refine ev_aload_n d_X3_next_143 rfl ?_
          refine ev_getRr (r := 6) rfl d_X3_next_144 fl_IcedTooSoon_Tape_9 ht.1 rfl ?_
          refine ev_aload_n d_X3_next_147 rfl ?_
          refine ev_getI d_X3_next_148 fl_IcedTooSoon_Tape_39 ht.1 rfl ?_
          obtain ⟨hb19, h⟩ := it_ok_g h
          refine ev_iald d_X3_next_151 (ht).2.1 (it_bd_in hb19) ?_
          refine ev_goto (tgt := 157) d_X3_next_152 (by decide) ?_
          refine ev_putI d_X3_next_157 (by decide) fl_IcedTooSoon_Tape_45 fw_3_3 ht.1 rfl ?_
          refine ev_aload_n d_X3_next_160 rfl ?_
          refine ev_dup d_X3_next_161 rfl ?_
          refine ev_getI d_X3_next_162 fl_IcedTooSoon_Tape_39 ht.1 rfl ?_
          refine ev_iconst d_X3_next_165 kv_iconst_1 ?_
          refine ev_iadd d_X3_next_166 ?_
          refine ev_putI d_X3_next_167 (by decide) fl_IcedTooSoon_Tape_39 fw_3_2 ht.1 rfl ?_
          exact ev_ret (v := none) ⟨d_X3_next_170, rfl⟩ (by decide) (by decide) ⟨rfl, rfl, it_ok_r h⟩
      · have h := it_ok_f h hc14
        refine ev_aload_n d_X3_next_117 rfl ?_
        refine ev_callV (ci := 3) (b := 5) (M' := it_m_X3_nextNumber) (d' := 2) (As := []) d_X3_next_118 ml_IcedTooSoon_Tape_87 ht.1.1 ht.1.2.1 ⟨_, rfl, rfl⟩ rfl rfl (Nat.le_of_ble_eq_true rfl) (by decide) (by decide) (by decide) (L_X3_nextNumber ht (it_ok_b h)) (fun _ _ _ _ q => by cases q.1; rfl) ?_
        rintro _ _ S20 ⟨rfl, rfl, h⟩
        show it_Ev g l 7 it_m_X3_next 0 0 121 [some (.ref 5)] [] κ S20 (it_pv κ P)
        refine ev_goto (tgt := 170) d_X3_next_121 (by decide) ?_
        exact ev_ret (v := none) ⟨d_X3_next_170, rfl⟩ (by decide) (by decide) ⟨rfl, rfl, it_ok_r h⟩
    · have h := it_ok_f h hc10
      refine ev_aload_n d_X3_next_95 rfl ?_
      refine ev_callV (ci := 3) (b := 5) (M' := it_m_X3_nextWord) (d' := 6) (As := []) d_X3_next_96 ml_IcedTooSoon_Tape_81 ht.1.1 ht.1.2.1 ⟨_, rfl, rfl⟩ rfl rfl (Nat.le_of_ble_eq_true rfl) (by decide) (by decide) (by decide) (L_X3_nextWord ht (it_ok_b h)) (fun _ _ _ _ q => by cases q.1; rfl) ?_
      rintro _ _ S22 ⟨rfl, rfl, h⟩
      show it_Ev g l 7 it_m_X3_next 0 0 99 [some (.ref 5)] [] κ S22 (it_pv κ P)
      refine ev_goto (tgt := 170) d_X3_next_99 (by decide) ?_
      exact ev_ret (v := none) ⟨d_X3_next_170, rfl⟩ (by decide) (by decide) ⟨rfl, rfl, it_ok_r h⟩
  · have h := it_ok_f h hc6
    refine ev_aload_n d_X3_next_71 rfl ?_
    refine ev_bipush d_X3_next_72 kv_bipush_13 ?_
    refine ev_putI d_X3_next_74 (by decide) fl_IcedTooSoon_Tape_45 fw_3_3 ht.1 rfl ?_
    refine ev_goto (tgt := 170) d_X3_next_77 (by decide) ?_
    exact ev_ret (v := none) ⟨d_X3_next_170, rfl⟩ (by decide) (by decide) ⟨rfl, rfl, it_ok_r h⟩
theorem d_X3_readOne_0 : decode prog_5_method_10_code 0 = .ok (.aload_n 0, 1) := by decide +kernel
theorem d_X3_readOne_1 : decode prog_5_method_10_code 1 = .ok (.getfield 45, 3) := by decide +kernel
theorem d_X3_readOne_4 : decode prog_5_method_10_code 4 = .ok (.bipush 45, 2) := by decide +kernel
theorem d_X3_readOne_6 : decode prog_5_method_10_code 6 = .ok (.if_icmp .ne 11, 3) := by decide +kernel
theorem d_X3_readOne_9 : decode prog_5_method_10_code 9 = .ok (.aload_n 0, 1) := by decide +kernel
theorem d_X3_readOne_10 : decode prog_5_method_10_code 10 = .ok (.iload_n 1, 1) := by decide +kernel
theorem d_X3_readOne_11 : decode prog_5_method_10_code 11 = .ok (.bipush 15, 2) := by decide +kernel
theorem d_X3_readOne_13 : decode prog_5_method_10_code 13 = .ok (.invokevirtual 56, 3) := by decide +kernel
theorem d_X3_readOne_16 : decode prog_5_method_10_code 16 = .ok (.ireturn, 1) := by decide +kernel
theorem d_X3_readOne_17 : decode prog_5_method_10_code 17 = .ok (.aload_n 0, 1) := by decide +kernel
theorem d_X3_readOne_18 : decode prog_5_method_10_code 18 = .ok (.getfield 45, 3) := by decide +kernel
theorem d_X3_readOne_21 : decode prog_5_method_10_code 21 = .ok (.bipush 40, 2) := by decide +kernel
theorem d_X3_readOne_23 : decode prog_5_method_10_code 23 = .ok (.if_icmp .ne 9, 3) := by decide +kernel
theorem d_X3_readOne_26 : decode prog_5_method_10_code 26 = .ok (.aload_n 0, 1) := by decide +kernel
theorem d_X3_readOne_27 : decode prog_5_method_10_code 27 = .ok (.iload_n 1, 1) := by decide +kernel
theorem d_X3_readOne_28 : decode prog_5_method_10_code 28 = .ok (.invokevirtual 66, 3) := by decide +kernel
theorem d_X3_readOne_31 : decode prog_5_method_10_code 31 = .ok (.ireturn, 1) := by decide +kernel
theorem d_X3_readOne_32 : decode prog_5_method_10_code 32 = .ok (.aload_n 0, 1) := by decide +kernel
theorem d_X3_readOne_33 : decode prog_5_method_10_code 33 = .ok (.getfield 45, 3) := by decide +kernel
theorem d_X3_readOne_36 : decode prog_5_method_10_code 36 = .ok (.bipush 12, 2) := by decide +kernel
theorem d_X3_readOne_38 : decode prog_5_method_10_code 38 = .ok (.if_icmp .eq 15, 3) := by decide +kernel
theorem d_X3_readOne_41 : decode prog_5_method_10_code 41 = .ok (.aload_n 0, 1) := by decide +kernel
theorem d_X3_readOne_42 : decode prog_5_method_10_code 42 = .ok (.getfield 45, 3) := by decide +kernel
theorem d_X3_readOne_45 : decode prog_5_method_10_code 45 = .ok (.invokestatic 69, 3) := by decide +kernel
theorem d_X3_readOne_48 : decode prog_5_method_10_code 48 = .ok (.ifCond .ne 5, 3) := by decide +kernel
theorem d_X3_readOne_51 : decode prog_5_method_10_code 51 = .ok (.iconst 0, 1) := by decide +kernel
theorem d_X3_readOne_52 : decode prog_5_method_10_code 52 = .ok (.ireturn, 1) := by decide +kernel
theorem d_X3_readOne_53 : decode prog_5_method_10_code 53 = .ok (.aload_n 0, 1) := by decide +kernel
theorem d_X3_readOne_54 : decode prog_5_method_10_code 54 = .ok (.aload_n 0, 1) := by decide +kernel
theorem d_X3_readOne_55 : decode prog_5_method_10_code 55 = .ok (.getfield 45, 3) := by decide +kernel
theorem d_X3_readOne_58 : decode prog_5_method_10_code 58 = .ok (.bipush 12, 2) := by decide +kernel
theorem d_X3_readOne_60 : decode prog_5_method_10_code 60 = .ok (.if_icmp .ne 10, 3) := by decide +kernel
theorem d_X3_readOne_63 : decode prog_5_method_10_code 63 = .ok (.aload_n 0, 1) := by decide +kernel
theorem d_X3_readOne_64 : decode prog_5_method_10_code 64 = .ok (.getfield 72, 3) := by decide +kernel
theorem d_X3_readOne_67 : decode prog_5_method_10_code 67 = .ok (.goto 11, 3) := by decide +kernel
theorem d_X3_readOne_70 : decode prog_5_method_10_code 70 = .ok (.sipush 10000, 3) := by decide +kernel
theorem d_X3_readOne_73 : decode prog_5_method_10_code 73 = .ok (.aload_n 0, 1) := by decide +kernel
theorem d_X3_readOne_74 : decode prog_5_method_10_code 74 = .ok (.getfield 45, 3) := by decide +kernel
theorem d_X3_readOne_77 : decode prog_5_method_10_code 77 = .ok (.iadd, 1) := by decide +kernel
theorem d_X3_readOne_78 : decode prog_5_method_10_code 78 = .ok (.invokevirtual 62, 3) := by decide +kernel
theorem d_X3_readOne_81 : decode prog_5_method_10_code 81 = .ok (.aload_n 0, 1) := by decide +kernel
theorem d_X3_readOne_82 : decode prog_5_method_10_code 82 = .ok (.invokevirtual 42, 3) := by decide +kernel
theorem d_X3_readOne_85 : decode prog_5_method_10_code 85 = .ok (.iconst 1, 1) := by decide +kernel
theorem d_X3_readOne_86 : decode prog_5_method_10_code 86 = .ok (.ireturn, 1) := by decide +kernel
def f_X3_readOne (κ : it_KK) (rc : Nat → Int32 → Int32 → it_SS → Option (Int32 × it_SS)) (x1 : Int32) (S : it_SS) : Option (Int32 × it_SS) :=
if (S 5 3) = 45 then
it_bi (rc 2 x1 15 S) (fun r29 S28 =>
if it_bz r29 = true then some (r29, S28) else none)
else
if (S 5 3) = 40 then
it_bi (rc 3 x1 0 S) (fun r26 S25 =>
if it_bz r26 = true then some (r26, S25) else none)
else
if (S 5 3) = 12 then
if (S 5 3) = 12 then
it_bi (f_X3_write κ (S 5 4) S) (fun _ S9 =>
it_bi (f_X3_next κ  S9) (fun _ S11 =>
some (1, S11)))
else
it_bi (f_X3_write κ (10000 + (S 5 3)) S) (fun _ S5 =>
it_bi (f_X3_next κ  S5) (fun _ S7 =>
some (1, S7)))
else
it_bi (f_X3_isName κ (S 5 3) S) (fun r14 S13 =>
if r14 = 0 then
some (0, S13)
else
if (S13 5 3) = 12 then
it_bi (f_X3_write κ (S13 5 4) S13) (fun _ S21 =>
it_bi (f_X3_next κ  S21) (fun _ S23 =>
some (1, S23)))
else
it_bi (f_X3_write κ (10000 + (S13 5 3)) S13) (fun _ S17 =>
it_bi (f_X3_next κ  S17) (fun _ S19 =>
some (1, S19))))
set_option maxHeartbeats 4000000 in
set_option maxRecDepth 100000 in
theorem L_X3_readOne {g : it_G} {l : Launch} {e : Nat} {κ : it_KK} {rc : Nat → Int32 → Int32 → it_SS → Option (Int32 × it_SS)} {x1 : Int32} (ht : it_wt κ) (hrec : it_recs g l e κ rc) (he : 7 ≤ e) {S : it_SS} {P : Int32 → it_SS → Prop} (h : it_ok (f_X3_readOne κ rc x1 S) P) : it_Cn g l (e + 1) it_m_X3_readOne [.ref 5, .int x1] κ S (it_pi κ P) := by
  refine it_Cn.of (by decide +kernel) (Nat.le_of_ble_eq_true rfl) ?_
  rw [f_X3_readOne] at h
  show it_Ev g l (e + 1) it_m_X3_readOne 0 0 0 [some (.ref 5), some (.int x1)] [] κ S (it_pi κ P)
  refine ev_aload_n d_X3_readOne_0 rfl ?_
  refine ev_getI d_X3_readOne_1 fl_IcedTooSoon_Tape_45 ht.1 rfl ?_
  refine ev_bipush d_X3_readOne_4 kv_bipush_45 ?_
  refine ev_icmp_ne (tgt := 17) d_X3_readOne_6 (by decide) (fun hc1 => ?_) (fun hc1 => ?_)
  · have h := it_ok_f h hc1
    refine ev_aload_n d_X3_readOne_17 rfl ?_
    refine ev_getI d_X3_readOne_18 fl_IcedTooSoon_Tape_45 ht.1 rfl ?_
    refine ev_bipush d_X3_readOne_21 kv_bipush_40 ?_
    refine ev_icmp_ne (tgt := 32) d_X3_readOne_23 (by decide) (fun hc2 => ?_) (fun hc2 => ?_)
    · have h := it_ok_f h hc2
      refine ev_aload_n d_X3_readOne_32 rfl ?_
      refine ev_getI d_X3_readOne_33 fl_IcedTooSoon_Tape_45 ht.1 rfl ?_
      refine ev_bipush d_X3_readOne_36 kv_bipush_12 ?_
      refine ev_icmp_eq (tgt := 53) d_X3_readOne_38 (by decide) (fun hc3 => ?_) (fun hc3 => ?_)
      · have h := it_ok_t h hc3
        refine ev_aload_n d_X3_readOne_53 rfl ?_
        refine ev_aload_n d_X3_readOne_54 rfl ?_
        refine ev_getI d_X3_readOne_55 fl_IcedTooSoon_Tape_45 ht.1 rfl ?_
        refine ev_bipush d_X3_readOne_58 kv_bipush_12 ?_
        refine ev_icmp_ne (tgt := 70) d_X3_readOne_60 (by decide) (fun hc4 => ?_) (fun hc4 => ?_)
        · have h := it_ok_f h hc4
          refine ev_sipush d_X3_readOne_70 kv_sipush_10000 ?_
          refine ev_aload_n d_X3_readOne_73 rfl ?_
          refine ev_getI d_X3_readOne_74 fl_IcedTooSoon_Tape_45 ht.1 rfl ?_
          refine ev_iadd d_X3_readOne_77 ?_
          refine ev_callV (ci := 3) (b := 5) (M' := it_m_X3_write) (d' := 1) (As := [.int (10000 + (S 5 3))]) d_X3_readOne_78 ml_IcedTooSoon_Tape_62 ht.1.1 ht.1.2.1 ⟨_, rfl, rfl⟩ rfl rfl (Nat.le_of_ble_eq_true rfl) (by omega) (by decide) (by decide) (L_X3_write ht (it_ok_b h)) (fun _ _ _ _ q => by cases q.1; rfl) ?_
          rintro _ _ S5 ⟨rfl, rfl, h⟩
          show it_Ev g l (e + 1) it_m_X3_readOne 0 0 81 [some (.ref 5), some (.int x1)] [] κ S5 (it_pi κ P)
          refine ev_aload_n d_X3_readOne_81 rfl ?_
          refine ev_callV (ci := 3) (b := 5) (M' := it_m_X3_next) (d' := 7) (As := []) d_X3_readOne_82 ml_IcedTooSoon_Tape_42 ht.1.1 ht.1.2.1 ⟨_, rfl, rfl⟩ rfl rfl (Nat.le_of_ble_eq_true rfl) (by omega) (by decide) (by decide) (L_X3_next ht (it_ok_b h)) (fun _ _ _ _ q => by cases q.1; rfl) ?_
          rintro _ _ S7 ⟨rfl, rfl, h⟩
          show it_Ev g l (e + 1) it_m_X3_readOne 0 0 85 [some (.ref 5), some (.int x1)] [] κ S7 (it_pi κ P)
          refine ev_iconst d_X3_readOne_85 kv_iconst_1 ?_
          exact ev_ret (v := some (.int _)) ⟨d_X3_readOne_86, _, rfl, rfl⟩ (by decide) (by decide) ⟨rfl, _, rfl, it_ok_r h⟩
        · have h := it_ok_t h hc4
          refine ev_aload_n d_X3_readOne_63 rfl ?_
          refine ev_getI d_X3_readOne_64 fl_IcedTooSoon_Tape_72 ht.1 rfl ?_
          refine ev_goto (tgt := 78) d_X3_readOne_67 (by decide) ?_
          refine ev_callV (ci := 3) (b := 5) (M' := it_m_X3_write) (d' := 1) (As := [.int (S 5 4)]) d_X3_readOne_78 ml_IcedTooSoon_Tape_62 ht.1.1 ht.1.2.1 ⟨_, rfl, rfl⟩ rfl rfl (Nat.le_of_ble_eq_true rfl) (by omega) (by decide) (by decide) (L_X3_write ht (it_ok_b h)) (fun _ _ _ _ q => by cases q.1; rfl) ?_
          rintro _ _ S9 ⟨rfl, rfl, h⟩
          show it_Ev g l (e + 1) it_m_X3_readOne 0 0 81 [some (.ref 5), some (.int x1)] [] κ S9 (it_pi κ P)
          refine ev_aload_n d_X3_readOne_81 rfl ?_
          refine ev_callV (ci := 3) (b := 5) (M' := it_m_X3_next) (d' := 7) (As := []) d_X3_readOne_82 ml_IcedTooSoon_Tape_42 ht.1.1 ht.1.2.1 ⟨_, rfl, rfl⟩ rfl rfl (Nat.le_of_ble_eq_true rfl) (by omega) (by decide) (by decide) (L_X3_next ht (it_ok_b h)) (fun _ _ _ _ q => by cases q.1; rfl) ?_
          rintro _ _ S11 ⟨rfl, rfl, h⟩
          show it_Ev g l (e + 1) it_m_X3_readOne 0 0 85 [some (.ref 5), some (.int x1)] [] κ S11 (it_pi κ P)
          refine ev_iconst d_X3_readOne_85 kv_iconst_1 ?_
          exact ev_ret (v := some (.int _)) ⟨d_X3_readOne_86, _, rfl, rfl⟩ (by decide) (by decide) ⟨rfl, _, rfl, it_ok_r h⟩
      · have h := it_ok_f h hc3
        refine ev_aload_n d_X3_readOne_41 rfl ?_
        refine ev_getI d_X3_readOne_42 fl_IcedTooSoon_Tape_45 ht.1 rfl ?_
        refine ev_callS (M' := it_m_X3_isName) (d' := 1) (As := [.int (S 5 3)]) d_X3_readOne_45 ml_IcedTooSoon_Tape_69 rfl rfl (Nat.le_of_ble_eq_true rfl) (by omega) (by decide) (by decide) (L_X3_isName  (it_ok_b h)) (fun _ _ _ _ q => by cases q.1; rfl) ?_
        rintro _ _ S13 ⟨rfl, r14, rfl, h⟩
        show it_Ev g l (e + 1) it_m_X3_readOne 0 0 48 [some (.ref 5), some (.int x1)] [.int r14] κ S13 (it_pi κ P)
        refine ev_if_ne (tgt := 53) d_X3_readOne_48 (by decide) (fun hc15 => ?_) (fun hc15 => ?_)
        · have h := it_ok_f h hc15
          refine ev_aload_n d_X3_readOne_53 rfl ?_
          refine ev_aload_n d_X3_readOne_54 rfl ?_
          refine ev_getI d_X3_readOne_55 fl_IcedTooSoon_Tape_45 ht.1 rfl ?_
          refine ev_bipush d_X3_readOne_58 kv_bipush_12 ?_
          refine ev_icmp_ne (tgt := 70) d_X3_readOne_60 (by decide) (fun hc16 => ?_) (fun hc16 => ?_)
          · have h := it_ok_f h hc16
            refine ev_sipush d_X3_readOne_70 kv_sipush_10000 ?_
            refine ev_aload_n d_X3_readOne_73 rfl ?_
            refine ev_getI d_X3_readOne_74 fl_IcedTooSoon_Tape_45 ht.1 rfl ?_
            refine ev_iadd d_X3_readOne_77 ?_
            refine ev_callV (ci := 3) (b := 5) (M' := it_m_X3_write) (d' := 1) (As := [.int (10000 + (S13 5 3))]) d_X3_readOne_78 ml_IcedTooSoon_Tape_62 ht.1.1 ht.1.2.1 ⟨_, rfl, rfl⟩ rfl rfl (Nat.le_of_ble_eq_true rfl) (by omega) (by decide) (by decide) (L_X3_write ht (it_ok_b h)) (fun _ _ _ _ q => by cases q.1; rfl) ?_
            rintro _ _ S17 ⟨rfl, rfl, h⟩
            show it_Ev g l (e + 1) it_m_X3_readOne 0 0 81 [some (.ref 5), some (.int x1)] [] κ S17 (it_pi κ P)
            refine ev_aload_n d_X3_readOne_81 rfl ?_
            refine ev_callV (ci := 3) (b := 5) (M' := it_m_X3_next) (d' := 7) (As := []) d_X3_readOne_82 ml_IcedTooSoon_Tape_42 ht.1.1 ht.1.2.1 ⟨_, rfl, rfl⟩ rfl rfl (Nat.le_of_ble_eq_true rfl) (by omega) (by decide) (by decide) (L_X3_next ht (it_ok_b h)) (fun _ _ _ _ q => by cases q.1; rfl) ?_
            rintro _ _ S19 ⟨rfl, rfl, h⟩
            show it_Ev g l (e + 1) it_m_X3_readOne 0 0 85 [some (.ref 5), some (.int x1)] [] κ S19 (it_pi κ P)
            refine ev_iconst d_X3_readOne_85 kv_iconst_1 ?_
            exact ev_ret (v := some (.int _)) ⟨d_X3_readOne_86, _, rfl, rfl⟩ (by decide) (by decide) ⟨rfl, _, rfl, it_ok_r h⟩
          · have h := it_ok_t h hc16
            refine ev_aload_n d_X3_readOne_63 rfl ?_
            refine ev_getI d_X3_readOne_64 fl_IcedTooSoon_Tape_72 ht.1 rfl ?_
            refine ev_goto (tgt := 78) d_X3_readOne_67 (by decide) ?_
            refine ev_callV (ci := 3) (b := 5) (M' := it_m_X3_write) (d' := 1) (As := [.int (S13 5 4)]) d_X3_readOne_78 ml_IcedTooSoon_Tape_62 ht.1.1 ht.1.2.1 ⟨_, rfl, rfl⟩ rfl rfl (Nat.le_of_ble_eq_true rfl) (by omega) (by decide) (by decide) (L_X3_write ht (it_ok_b h)) (fun _ _ _ _ q => by cases q.1; rfl) ?_
            rintro _ _ S21 ⟨rfl, rfl, h⟩
            show it_Ev g l (e + 1) it_m_X3_readOne 0 0 81 [some (.ref 5), some (.int x1)] [] κ S21 (it_pi κ P)
            refine ev_aload_n d_X3_readOne_81 rfl ?_
            refine ev_callV (ci := 3) (b := 5) (M' := it_m_X3_next) (d' := 7) (As := []) d_X3_readOne_82 ml_IcedTooSoon_Tape_42 ht.1.1 ht.1.2.1 ⟨_, rfl, rfl⟩ rfl rfl (Nat.le_of_ble_eq_true rfl) (by omega) (by decide) (by decide) (L_X3_next ht (it_ok_b h)) (fun _ _ _ _ q => by cases q.1; rfl) ?_
            rintro _ _ S23 ⟨rfl, rfl, h⟩
            show it_Ev g l (e + 1) it_m_X3_readOne 0 0 85 [some (.ref 5), some (.int x1)] [] κ S23 (it_pi κ P)
            refine ev_iconst d_X3_readOne_85 kv_iconst_1 ?_
            exact ev_ret (v := some (.int _)) ⟨d_X3_readOne_86, _, rfl, rfl⟩ (by decide) (by decide) ⟨rfl, _, rfl, it_ok_r h⟩
        · have h := it_ok_t h hc15
          refine ev_iconst d_X3_readOne_51 kv_iconst_0 ?_
          exact ev_ret (v := some (.int _)) ⟨d_X3_readOne_52, _, rfl, rfl⟩ (by decide) (by decide) ⟨rfl, _, rfl, it_ok_r h⟩
    · have h := it_ok_t h hc2
      refine ev_aload_n d_X3_readOne_26 rfl ?_
      refine ev_iload_n d_X3_readOne_27 rfl ?_
      refine ev_callV (ci := 3) (b := 5) (M' := it_m_X3_readInner) (d' := e) (As := [.int x1]) d_X3_readOne_28 ml_IcedTooSoon_Tape_66 ht.1.1 ht.1.2.1 ⟨_, rfl, rfl⟩ rfl rfl (Nat.le_of_ble_eq_true rfl) (Nat.le_refl _) (by decide) (by decide) ((hrec).2.2.2 _ _ _ (it_ok_b h)) (fun _ _ _ _ q => by cases q.1; rfl) ?_
      rintro _ _ S25 ⟨rfl, r26, rfl, h⟩
      show it_Ev g l (e + 1) it_m_X3_readOne 0 0 31 [some (.ref 5), some (.int x1)] [.int r26] κ S25 (it_pi κ P)
      obtain ⟨hz27, h⟩ := it_ok_g h
      exact ev_ret (v := some (.int _)) ⟨d_X3_readOne_31, _, rfl, it_bz_n hz27⟩ (by decide) (by decide) ⟨rfl, _, rfl, it_ok_r h⟩
  · have h := it_ok_t h hc1
    refine ev_aload_n d_X3_readOne_9 rfl ?_
    refine ev_iload_n d_X3_readOne_10 rfl ?_
    refine ev_bipush d_X3_readOne_11 kv_bipush_15 ?_
    refine ev_callV (ci := 3) (b := 5) (M' := it_m_X3_readTurned) (d' := e) (As := [.int x1, .int 15]) d_X3_readOne_13 ml_IcedTooSoon_Tape_56 ht.1.1 ht.1.2.1 ⟨_, rfl, rfl⟩ rfl rfl (Nat.le_of_ble_eq_true rfl) (Nat.le_refl _) (by decide) (by decide) ((hrec).2.2.1 _ _ _ _ (it_ok_b h)) (fun _ _ _ _ q => by cases q.1; rfl) ?_
    rintro _ _ S28 ⟨rfl, r29, rfl, h⟩
    show it_Ev g l (e + 1) it_m_X3_readOne 0 0 16 [some (.ref 5), some (.int x1)] [.int r29] κ S28 (it_pi κ P)
    obtain ⟨hz30, h⟩ := it_ok_g h
    exact ev_ret (v := some (.int _)) ⟨d_X3_readOne_16, _, rfl, it_bz_n hz30⟩ (by decide) (by decide) ⟨rfl, _, rfl, it_ok_r h⟩
theorem d_X3_readTurned_0 : decode prog_5_method_11_code 0 = .ok (.iload_n 1, 1) := by decide +kernel
theorem d_X3_readTurned_1 : decode prog_5_method_11_code 1 = .ok (.iconst 5, 1) := by decide +kernel
theorem d_X3_readTurned_2 : decode prog_5_method_11_code 2 = .ok (.if_icmp .lt 5, 3) := by decide +kernel
theorem d_X3_readTurned_5 : decode prog_5_method_11_code 5 = .ok (.iconst 0, 1) := by decide +kernel
theorem d_X3_readTurned_6 : decode prog_5_method_11_code 6 = .ok (.ireturn, 1) := by decide +kernel
theorem d_X3_readTurned_7 : decode prog_5_method_11_code 7 = .ok (.aload_n 0, 1) := by decide +kernel
theorem d_X3_readTurned_8 : decode prog_5_method_11_code 8 = .ok (.invokevirtual 42, 3) := by decide +kernel
theorem d_X3_readTurned_11 : decode prog_5_method_11_code 11 = .ok (.iload_n 2, 1) := by decide +kernel
theorem d_X3_readTurned_12 : decode prog_5_method_11_code 12 = .ok (.iconst 5, 1) := by decide +kernel
theorem d_X3_readTurned_13 : decode prog_5_method_11_code 13 = .ok (.if_icmp .ne 14, 3) := by decide +kernel
theorem d_X3_readTurned_16 : decode prog_5_method_11_code 16 = .ok (.aload_n 0, 1) := by decide +kernel
theorem d_X3_readTurned_17 : decode prog_5_method_11_code 17 = .ok (.iconst 2, 1) := by decide +kernel
theorem d_X3_readTurned_18 : decode prog_5_method_11_code 18 = .ok (.iload_n 1, 1) := by decide +kernel
theorem d_X3_readTurned_19 : decode prog_5_method_11_code 19 = .ok (.iconst 1, 1) := by decide +kernel
theorem d_X3_readTurned_20 : decode prog_5_method_11_code 20 = .ok (.iadd, 1) := by decide +kernel
theorem d_X3_readTurned_21 : decode prog_5_method_11_code 21 = .ok (.invokevirtual 48, 3) := by decide +kernel
theorem d_X3_readTurned_24 : decode prog_5_method_11_code 24 = .ok (.goto 10, 3) := by decide +kernel
theorem d_X3_readTurned_27 : decode prog_5_method_11_code 27 = .ok (.aload_n 0, 1) := by decide +kernel
theorem d_X3_readTurned_28 : decode prog_5_method_11_code 28 = .ok (.iload_n 1, 1) := by decide +kernel
theorem d_X3_readTurned_29 : decode prog_5_method_11_code 29 = .ok (.iconst 1, 1) := by decide +kernel
theorem d_X3_readTurned_30 : decode prog_5_method_11_code 30 = .ok (.iadd, 1) := by decide +kernel
theorem d_X3_readTurned_31 : decode prog_5_method_11_code 31 = .ok (.invokevirtual 52, 3) := by decide +kernel
theorem d_X3_readTurned_34 : decode prog_5_method_11_code 34 = .ok (.istore_n 3, 1) := by decide +kernel
theorem d_X3_readTurned_35 : decode prog_5_method_11_code 35 = .ok (.aload_n 0, 1) := by decide +kernel
theorem d_X3_readTurned_36 : decode prog_5_method_11_code 36 = .ok (.sipush 10000, 3) := by decide +kernel
theorem d_X3_readTurned_39 : decode prog_5_method_11_code 39 = .ok (.iload_n 2, 1) := by decide +kernel
theorem d_X3_readTurned_40 : decode prog_5_method_11_code 40 = .ok (.iadd, 1) := by decide +kernel
theorem d_X3_readTurned_41 : decode prog_5_method_11_code 41 = .ok (.invokevirtual 62, 3) := by decide +kernel
theorem d_X3_readTurned_44 : decode prog_5_method_11_code 44 = .ok (.iload_n 3, 1) := by decide +kernel
theorem d_X3_readTurned_45 : decode prog_5_method_11_code 45 = .ok (.ireturn, 1) := by decide +kernel
def f_X3_readTurned (κ : it_KK) (rc : Nat → Int32 → Int32 → it_SS → Option (Int32 × it_SS)) (x1 : Int32) (x2 : Int32) (S : it_SS) : Option (Int32 × it_SS) :=
if x1 < 5 then
it_bi (f_X3_next κ  S) (fun _ S2 =>
if x2 = 5 then
it_bi (rc 0 2 (x1 + 1) S2) (fun r11 S10 =>
it_bi (f_X3_write κ (10000 + x2) S10) (fun _ S12 =>
if it_bz r11 = true then some (r11, S12) else none))
else
it_bi (rc 1 (x1 + 1) 0 S2) (fun r6 S5 =>
it_bi (f_X3_write κ (10000 + x2) S5) (fun _ S7 =>
if it_bz r6 = true then some (r6, S7) else none)))
else
some (0, S)
set_option maxHeartbeats 4000000 in
set_option maxRecDepth 100000 in
theorem L_X3_readTurned {g : it_G} {l : Launch} {e : Nat} {κ : it_KK} {rc : Nat → Int32 → Int32 → it_SS → Option (Int32 × it_SS)} {x1 : Int32} {x2 : Int32} (ht : it_wt κ) (hrec : it_recs g l e κ rc) (he : 7 ≤ e) {S : it_SS} {P : Int32 → it_SS → Prop} (h : it_ok (f_X3_readTurned κ rc x1 x2 S) P) : it_Cn g l (e + 1) it_m_X3_readTurned [.ref 5, .int x1, .int x2] κ S (it_pi κ P) := by
  refine it_Cn.of (by decide +kernel) (Nat.le_of_ble_eq_true rfl) ?_
  rw [f_X3_readTurned] at h
  show it_Ev g l (e + 1) it_m_X3_readTurned 0 0 0 [some (.ref 5), some (.int x1), some (.int x2), none] [] κ S (it_pi κ P)
  refine ev_iload_n d_X3_readTurned_0 rfl ?_
  refine ev_iconst d_X3_readTurned_1 kv_iconst_5 ?_
  refine ev_icmp_lt (tgt := 7) d_X3_readTurned_2 (by decide) (fun hc1 => ?_) (fun hc1 => ?_)
  · have h := it_ok_t h hc1
    refine ev_aload_n d_X3_readTurned_7 rfl ?_
    refine ev_callV (ci := 3) (b := 5) (M' := it_m_X3_next) (d' := 7) (As := []) d_X3_readTurned_8 ml_IcedTooSoon_Tape_42 ht.1.1 ht.1.2.1 ⟨_, rfl, rfl⟩ rfl rfl (Nat.le_of_ble_eq_true rfl) (by omega) (by decide) (by decide) (L_X3_next ht (it_ok_b h)) (fun _ _ _ _ q => by cases q.1; rfl) ?_
    rintro _ _ S2 ⟨rfl, rfl, h⟩
    show it_Ev g l (e + 1) it_m_X3_readTurned 0 0 11 [some (.ref 5), some (.int x1), some (.int x2), none] [] κ S2 (it_pi κ P)
    refine ev_iload_n d_X3_readTurned_11 rfl ?_
    refine ev_iconst d_X3_readTurned_12 kv_iconst_5 ?_
    refine ev_icmp_ne (tgt := 27) d_X3_readTurned_13 (by decide) (fun hc4 => ?_) (fun hc4 => ?_)
    · have h := it_ok_f h hc4
      refine ev_aload_n d_X3_readTurned_27 rfl ?_
      refine ev_iload_n d_X3_readTurned_28 rfl ?_
      refine ev_iconst d_X3_readTurned_29 kv_iconst_1 ?_
      refine ev_iadd d_X3_readTurned_30 ?_
      refine ev_callV (ci := 3) (b := 5) (M' := it_m_X3_readOne) (d' := e) (As := [.int (x1 + 1)]) d_X3_readTurned_31 ml_IcedTooSoon_Tape_52 ht.1.1 ht.1.2.1 ⟨_, rfl, rfl⟩ rfl rfl (Nat.le_of_ble_eq_true rfl) (Nat.le_refl _) (by decide) (by decide) ((hrec).2.1 _ _ _ (it_ok_b h)) (fun _ _ _ _ q => by cases q.1; rfl) ?_
      rintro _ _ S5 ⟨rfl, r6, rfl, h⟩
      show it_Ev g l (e + 1) it_m_X3_readTurned 0 0 34 [some (.ref 5), some (.int x1), some (.int x2), none] [.int r6] κ S5 (it_pi κ P)
      refine ev_istore_n d_X3_readTurned_34 (by decide) ?_
      show it_Ev g l (e + 1) it_m_X3_readTurned 0 0 35 [some (.ref 5), some (.int x1), some (.int x2), some (.int r6)] [] κ S5 (it_pi κ P)
      refine ev_aload_n d_X3_readTurned_35 rfl ?_
      refine ev_sipush d_X3_readTurned_36 kv_sipush_10000 ?_
      refine ev_iload_n d_X3_readTurned_39 rfl ?_
      refine ev_iadd d_X3_readTurned_40 ?_
      refine ev_callV (ci := 3) (b := 5) (M' := it_m_X3_write) (d' := 1) (As := [.int (10000 + x2)]) d_X3_readTurned_41 ml_IcedTooSoon_Tape_62 ht.1.1 ht.1.2.1 ⟨_, rfl, rfl⟩ rfl rfl (Nat.le_of_ble_eq_true rfl) (by omega) (by decide) (by decide) (L_X3_write ht (it_ok_b h)) (fun _ _ _ _ q => by cases q.1; rfl) ?_
      rintro _ _ S7 ⟨rfl, rfl, h⟩
      show it_Ev g l (e + 1) it_m_X3_readTurned 0 0 44 [some (.ref 5), some (.int x1), some (.int x2), some (.int r6)] [] κ S7 (it_pi κ P)
      refine ev_iload_n d_X3_readTurned_44 rfl ?_
      obtain ⟨hz9, h⟩ := it_ok_g h
      exact ev_ret (v := some (.int _)) ⟨d_X3_readTurned_45, _, rfl, it_bz_n hz9⟩ (by decide) (by decide) ⟨rfl, _, rfl, it_ok_r h⟩
    · have h := it_ok_t h hc4
      refine ev_aload_n d_X3_readTurned_16 rfl ?_
      refine ev_iconst d_X3_readTurned_17 kv_iconst_2 ?_
      refine ev_iload_n d_X3_readTurned_18 rfl ?_
      refine ev_iconst d_X3_readTurned_19 kv_iconst_1 ?_
      refine ev_iadd d_X3_readTurned_20 ?_
      refine ev_callV (ci := 3) (b := 5) (M' := it_m_X3_readLevel) (d' := e) (As := [.int 2, .int (x1 + 1)]) d_X3_readTurned_21 ml_IcedTooSoon_Tape_48 ht.1.1 ht.1.2.1 ⟨_, rfl, rfl⟩ rfl rfl (Nat.le_of_ble_eq_true rfl) (Nat.le_refl _) (by decide) (by decide) ((hrec).1 _ _ _ _ (it_ok_b h)) (fun _ _ _ _ q => by cases q.1; rfl) ?_
      rintro _ _ S10 ⟨rfl, r11, rfl, h⟩
      show it_Ev g l (e + 1) it_m_X3_readTurned 0 0 24 [some (.ref 5), some (.int x1), some (.int x2), none] [.int r11] κ S10 (it_pi κ P)
      refine ev_goto (tgt := 34) d_X3_readTurned_24 (by decide) ?_
      refine ev_istore_n d_X3_readTurned_34 (by decide) ?_
      show it_Ev g l (e + 1) it_m_X3_readTurned 0 0 35 [some (.ref 5), some (.int x1), some (.int x2), some (.int r11)] [] κ S10 (it_pi κ P)
      refine ev_aload_n d_X3_readTurned_35 rfl ?_
      refine ev_sipush d_X3_readTurned_36 kv_sipush_10000 ?_
      refine ev_iload_n d_X3_readTurned_39 rfl ?_
      refine ev_iadd d_X3_readTurned_40 ?_
      refine ev_callV (ci := 3) (b := 5) (M' := it_m_X3_write) (d' := 1) (As := [.int (10000 + x2)]) d_X3_readTurned_41 ml_IcedTooSoon_Tape_62 ht.1.1 ht.1.2.1 ⟨_, rfl, rfl⟩ rfl rfl (Nat.le_of_ble_eq_true rfl) (by omega) (by decide) (by decide) (L_X3_write ht (it_ok_b h)) (fun _ _ _ _ q => by cases q.1; rfl) ?_
      rintro _ _ S12 ⟨rfl, rfl, h⟩
      show it_Ev g l (e + 1) it_m_X3_readTurned 0 0 44 [some (.ref 5), some (.int x1), some (.int x2), some (.int r11)] [] κ S12 (it_pi κ P)
      refine ev_iload_n d_X3_readTurned_44 rfl ?_
      obtain ⟨hz14, h⟩ := it_ok_g h
      exact ev_ret (v := some (.int _)) ⟨d_X3_readTurned_45, _, rfl, it_bz_n hz14⟩ (by decide) (by decide) ⟨rfl, _, rfl, it_ok_r h⟩
  · have h := it_ok_f h hc1
    refine ev_iconst d_X3_readTurned_5 kv_iconst_0 ?_
    exact ev_ret (v := some (.int _)) ⟨d_X3_readTurned_6, _, rfl, rfl⟩ (by decide) (by decide) ⟨rfl, _, rfl, it_ok_r h⟩
theorem d_X3_readInner_0 : decode prog_5_method_12_code 0 = .ok (.iload_n 1, 1) := by decide +kernel
theorem d_X3_readInner_1 : decode prog_5_method_12_code 1 = .ok (.iconst 5, 1) := by decide +kernel
theorem d_X3_readInner_2 : decode prog_5_method_12_code 2 = .ok (.if_icmp .lt 5, 3) := by decide +kernel
theorem d_X3_readInner_5 : decode prog_5_method_12_code 5 = .ok (.iconst 0, 1) := by decide +kernel
theorem d_X3_readInner_6 : decode prog_5_method_12_code 6 = .ok (.ireturn, 1) := by decide +kernel
theorem d_X3_readInner_7 : decode prog_5_method_12_code 7 = .ok (.aload_n 0, 1) := by decide +kernel
theorem d_X3_readInner_8 : decode prog_5_method_12_code 8 = .ok (.invokevirtual 42, 3) := by decide +kernel
theorem d_X3_readInner_11 : decode prog_5_method_12_code 11 = .ok (.aload_n 0, 1) := by decide +kernel
theorem d_X3_readInner_12 : decode prog_5_method_12_code 12 = .ok (.iconst 0, 1) := by decide +kernel
theorem d_X3_readInner_13 : decode prog_5_method_12_code 13 = .ok (.iload_n 1, 1) := by decide +kernel
theorem d_X3_readInner_14 : decode prog_5_method_12_code 14 = .ok (.iconst 1, 1) := by decide +kernel
theorem d_X3_readInner_15 : decode prog_5_method_12_code 15 = .ok (.iadd, 1) := by decide +kernel
theorem d_X3_readInner_16 : decode prog_5_method_12_code 16 = .ok (.invokevirtual 48, 3) := by decide +kernel
theorem d_X3_readInner_19 : decode prog_5_method_12_code 19 = .ok (.ifCond .eq 12, 3) := by decide +kernel
theorem d_X3_readInner_22 : decode prog_5_method_12_code 22 = .ok (.aload_n 0, 1) := by decide +kernel
theorem d_X3_readInner_23 : decode prog_5_method_12_code 23 = .ok (.getfield 45, 3) := by decide +kernel
theorem d_X3_readInner_26 : decode prog_5_method_12_code 26 = .ok (.bipush 41, 2) := by decide +kernel
theorem d_X3_readInner_28 : decode prog_5_method_12_code 28 = .ok (.if_icmp .eq 5, 3) := by decide +kernel
theorem d_X3_readInner_31 : decode prog_5_method_12_code 31 = .ok (.iconst 0, 1) := by decide +kernel
theorem d_X3_readInner_32 : decode prog_5_method_12_code 32 = .ok (.ireturn, 1) := by decide +kernel
theorem d_X3_readInner_33 : decode prog_5_method_12_code 33 = .ok (.aload_n 0, 1) := by decide +kernel
theorem d_X3_readInner_34 : decode prog_5_method_12_code 34 = .ok (.invokevirtual 42, 3) := by decide +kernel
theorem d_X3_readInner_37 : decode prog_5_method_12_code 37 = .ok (.iconst 1, 1) := by decide +kernel
theorem d_X3_readInner_38 : decode prog_5_method_12_code 38 = .ok (.ireturn, 1) := by decide +kernel
def f_X3_readInner (κ : it_KK) (rc : Nat → Int32 → Int32 → it_SS → Option (Int32 × it_SS)) (x1 : Int32) (S : it_SS) : Option (Int32 × it_SS) :=
if x1 < 5 then
it_bi (f_X3_next κ  S) (fun _ S2 =>
it_bi (rc 0 0 (x1 + 1) S2) (fun r5 S4 =>
if r5 = 0 then
some (0, S4)
else
if (S4 5 3) = 41 then
it_bi (f_X3_next κ  S4) (fun _ S8 =>
some (1, S8))
else
some (0, S4)))
else
some (0, S)
set_option maxHeartbeats 4000000 in
set_option maxRecDepth 100000 in
theorem L_X3_readInner {g : it_G} {l : Launch} {e : Nat} {κ : it_KK} {rc : Nat → Int32 → Int32 → it_SS → Option (Int32 × it_SS)} {x1 : Int32} (ht : it_wt κ) (hrec : it_recs g l e κ rc) (he : 7 ≤ e) {S : it_SS} {P : Int32 → it_SS → Prop} (h : it_ok (f_X3_readInner κ rc x1 S) P) : it_Cn g l (e + 1) it_m_X3_readInner [.ref 5, .int x1] κ S (it_pi κ P) := by
  refine it_Cn.of (by decide +kernel) (Nat.le_of_ble_eq_true rfl) ?_
  rw [f_X3_readInner] at h
  show it_Ev g l (e + 1) it_m_X3_readInner 0 0 0 [some (.ref 5), some (.int x1)] [] κ S (it_pi κ P)
  refine ev_iload_n d_X3_readInner_0 rfl ?_
  refine ev_iconst d_X3_readInner_1 kv_iconst_5 ?_
  refine ev_icmp_lt (tgt := 7) d_X3_readInner_2 (by decide) (fun hc1 => ?_) (fun hc1 => ?_)
  · have h := it_ok_t h hc1
    refine ev_aload_n d_X3_readInner_7 rfl ?_
    refine ev_callV (ci := 3) (b := 5) (M' := it_m_X3_next) (d' := 7) (As := []) d_X3_readInner_8 ml_IcedTooSoon_Tape_42 ht.1.1 ht.1.2.1 ⟨_, rfl, rfl⟩ rfl rfl (Nat.le_of_ble_eq_true rfl) (by omega) (by decide) (by decide) (L_X3_next ht (it_ok_b h)) (fun _ _ _ _ q => by cases q.1; rfl) ?_
    rintro _ _ S2 ⟨rfl, rfl, h⟩
    show it_Ev g l (e + 1) it_m_X3_readInner 0 0 11 [some (.ref 5), some (.int x1)] [] κ S2 (it_pi κ P)
    refine ev_aload_n d_X3_readInner_11 rfl ?_
    refine ev_iconst d_X3_readInner_12 kv_iconst_0 ?_
    refine ev_iload_n d_X3_readInner_13 rfl ?_
    refine ev_iconst d_X3_readInner_14 kv_iconst_1 ?_
    refine ev_iadd d_X3_readInner_15 ?_
    refine ev_callV (ci := 3) (b := 5) (M' := it_m_X3_readLevel) (d' := e) (As := [.int 0, .int (x1 + 1)]) d_X3_readInner_16 ml_IcedTooSoon_Tape_48 ht.1.1 ht.1.2.1 ⟨_, rfl, rfl⟩ rfl rfl (Nat.le_of_ble_eq_true rfl) (Nat.le_refl _) (by decide) (by decide) ((hrec).1 _ _ _ _ (it_ok_b h)) (fun _ _ _ _ q => by cases q.1; rfl) ?_
    rintro _ _ S4 ⟨rfl, r5, rfl, h⟩
    show it_Ev g l (e + 1) it_m_X3_readInner 0 0 19 [some (.ref 5), some (.int x1)] [.int r5] κ S4 (it_pi κ P)
    refine ev_if_eq (tgt := 31) d_X3_readInner_19 (by decide) (fun hc6 => ?_) (fun hc6 => ?_)
    · have h := it_ok_t h hc6
      refine ev_iconst d_X3_readInner_31 kv_iconst_0 ?_
      exact ev_ret (v := some (.int _)) ⟨d_X3_readInner_32, _, rfl, rfl⟩ (by decide) (by decide) ⟨rfl, _, rfl, it_ok_r h⟩
    · have h := it_ok_f h hc6
      refine ev_aload_n d_X3_readInner_22 rfl ?_
      refine ev_getI d_X3_readInner_23 fl_IcedTooSoon_Tape_45 ht.1 rfl ?_
      refine ev_bipush d_X3_readInner_26 kv_bipush_41 ?_
      refine ev_icmp_eq (tgt := 33) d_X3_readInner_28 (by decide) (fun hc7 => ?_) (fun hc7 => ?_)
      · have h := it_ok_t h hc7
        refine ev_aload_n d_X3_readInner_33 rfl ?_
        refine ev_callV (ci := 3) (b := 5) (M' := it_m_X3_next) (d' := 7) (As := []) d_X3_readInner_34 ml_IcedTooSoon_Tape_42 ht.1.1 ht.1.2.1 ⟨_, rfl, rfl⟩ rfl rfl (Nat.le_of_ble_eq_true rfl) (by omega) (by decide) (by decide) (L_X3_next ht (it_ok_b h)) (fun _ _ _ _ q => by cases q.1; rfl) ?_
        rintro _ _ S8 ⟨rfl, rfl, h⟩
        show it_Ev g l (e + 1) it_m_X3_readInner 0 0 37 [some (.ref 5), some (.int x1)] [] κ S8 (it_pi κ P)
        refine ev_iconst d_X3_readInner_37 kv_iconst_1 ?_
        exact ev_ret (v := some (.int _)) ⟨d_X3_readInner_38, _, rfl, rfl⟩ (by decide) (by decide) ⟨rfl, _, rfl, it_ok_r h⟩
      · have h := it_ok_f h hc7
        refine ev_iconst d_X3_readInner_31 kv_iconst_0 ?_
        exact ev_ret (v := some (.int _)) ⟨d_X3_readInner_32, _, rfl, rfl⟩ (by decide) (by decide) ⟨rfl, _, rfl, it_ok_r h⟩
  · have h := it_ok_f h hc1
    refine ev_iconst d_X3_readInner_5 kv_iconst_0 ?_
    exact ev_ret (v := some (.int _)) ⟨d_X3_readInner_6, _, rfl, rfl⟩ (by decide) (by decide) ⟨rfl, _, rfl, it_ok_r h⟩
theorem d_X3_readLevel_0 : decode prog_5_method_8_code 0 = .ok (.iload_n 1, 1) := by decide +kernel
theorem d_X3_readLevel_1 : decode prog_5_method_8_code 1 = .ok (.iconst 4, 1) := by decide +kernel
theorem d_X3_readLevel_2 : decode prog_5_method_8_code 2 = .ok (.if_icmp .le 9, 3) := by decide +kernel
theorem d_X3_readLevel_5 : decode prog_5_method_8_code 5 = .ok (.aload_n 0, 1) := by decide +kernel
theorem d_X3_readLevel_6 : decode prog_5_method_8_code 6 = .ok (.iload_n 2, 1) := by decide +kernel
theorem d_X3_readLevel_7 : decode prog_5_method_8_code 7 = .ok (.invokevirtual 52, 3) := by decide +kernel
theorem d_X3_readLevel_10 : decode prog_5_method_8_code 10 = .ok (.ireturn, 1) := by decide +kernel
theorem d_X3_readLevel_11 : decode prog_5_method_8_code 11 = .ok (.iload_n 1, 1) := by decide +kernel
theorem d_X3_readLevel_12 : decode prog_5_method_8_code 12 = .ok (.iconst 2, 1) := by decide +kernel
theorem d_X3_readLevel_13 : decode prog_5_method_8_code 13 = .ok (.if_icmp .ne 18, 3) := by decide +kernel
theorem d_X3_readLevel_16 : decode prog_5_method_8_code 16 = .ok (.aload_n 0, 1) := by decide +kernel
theorem d_X3_readLevel_17 : decode prog_5_method_8_code 17 = .ok (.getfield 45, 3) := by decide +kernel
theorem d_X3_readLevel_20 : decode prog_5_method_8_code 20 = .ok (.iconst 5, 1) := by decide +kernel
theorem d_X3_readLevel_21 : decode prog_5_method_8_code 21 = .ok (.if_icmp .ne 10, 3) := by decide +kernel
theorem d_X3_readLevel_24 : decode prog_5_method_8_code 24 = .ok (.aload_n 0, 1) := by decide +kernel
theorem d_X3_readLevel_25 : decode prog_5_method_8_code 25 = .ok (.iload_n 2, 1) := by decide +kernel
theorem d_X3_readLevel_26 : decode prog_5_method_8_code 26 = .ok (.iconst 5, 1) := by decide +kernel
theorem d_X3_readLevel_27 : decode prog_5_method_8_code 27 = .ok (.invokevirtual 56, 3) := by decide +kernel
theorem d_X3_readLevel_30 : decode prog_5_method_8_code 30 = .ok (.ireturn, 1) := by decide +kernel
theorem d_X3_readLevel_31 : decode prog_5_method_8_code 31 = .ok (.aload_n 0, 1) := by decide +kernel
theorem d_X3_readLevel_32 : decode prog_5_method_8_code 32 = .ok (.iload_n 1, 1) := by decide +kernel
theorem d_X3_readLevel_33 : decode prog_5_method_8_code 33 = .ok (.iconst 1, 1) := by decide +kernel
theorem d_X3_readLevel_34 : decode prog_5_method_8_code 34 = .ok (.iadd, 1) := by decide +kernel
theorem d_X3_readLevel_35 : decode prog_5_method_8_code 35 = .ok (.iload_n 2, 1) := by decide +kernel
theorem d_X3_readLevel_36 : decode prog_5_method_8_code 36 = .ok (.invokevirtual 48, 3) := by decide +kernel
theorem d_X3_readLevel_39 : decode prog_5_method_8_code 39 = .ok (.istore_n 3, 1) := by decide +kernel
theorem d_X3_readLevel_40 : decode prog_5_method_8_code 40 = .ok (.iload_n 1, 1) := by decide +kernel
theorem d_X3_readLevel_41 : decode prog_5_method_8_code 41 = .ok (.iconst 2, 1) := by decide +kernel
theorem d_X3_readLevel_42 : decode prog_5_method_8_code 42 = .ok (.if_icmp .ne 7, 3) := by decide +kernel
theorem d_X3_readLevel_45 : decode prog_5_method_8_code 45 = .ok (.iconst 1, 1) := by decide +kernel
theorem d_X3_readLevel_46 : decode prog_5_method_8_code 46 = .ok (.goto 6, 3) := by decide +kernel
theorem d_X3_readLevel_49 : decode prog_5_method_8_code 49 = .ok (.sipush 160, 3) := by decide +kernel
theorem d_X3_readLevel_52 : decode prog_5_method_8_code 52 = .ok (.istore 4, 2) := by decide +kernel
theorem d_X3_readLevel_54 : decode prog_5_method_8_code 54 = .ok (.iconst 0, 1) := by decide +kernel
theorem d_X3_readLevel_55 : decode prog_5_method_8_code 55 = .ok (.istore 5, 2) := by decide +kernel
theorem d_X3_readLevel_57 : decode prog_5_method_8_code 57 = .ok (.iload 5, 2) := by decide +kernel
theorem d_X3_readLevel_59 : decode prog_5_method_8_code 59 = .ok (.iload 4, 2) := by decide +kernel
theorem d_X3_readLevel_61 : decode prog_5_method_8_code 61 = .ok (.if_icmp .ge 50, 3) := by decide +kernel
theorem d_X3_readLevel_64 : decode prog_5_method_8_code 64 = .ok (.iload_n 3, 1) := by decide +kernel
theorem d_X3_readLevel_65 : decode prog_5_method_8_code 65 = .ok (.ifCond .eq 46, 3) := by decide +kernel
theorem d_X3_readLevel_68 : decode prog_5_method_8_code 68 = .ok (.aload_n 0, 1) := by decide +kernel
theorem d_X3_readLevel_69 : decode prog_5_method_8_code 69 = .ok (.iload_n 1, 1) := by decide +kernel
theorem d_X3_readLevel_70 : decode prog_5_method_8_code 70 = .ok (.invokevirtual 59, 3) := by decide +kernel
theorem d_X3_readLevel_73 : decode prog_5_method_8_code 73 = .ok (.ifCond .eq 38, 3) := by decide +kernel
theorem d_X3_readLevel_76 : decode prog_5_method_8_code 76 = .ok (.aload_n 0, 1) := by decide +kernel
theorem d_X3_readLevel_77 : decode prog_5_method_8_code 77 = .ok (.getfield 45, 3) := by decide +kernel
theorem d_X3_readLevel_80 : decode prog_5_method_8_code 80 = .ok (.istore 6, 2) := by decide +kernel
theorem d_X3_readLevel_82 : decode prog_5_method_8_code 82 = .ok (.aload_n 0, 1) := by decide +kernel
theorem d_X3_readLevel_83 : decode prog_5_method_8_code 83 = .ok (.invokevirtual 42, 3) := by decide +kernel
theorem d_X3_readLevel_86 : decode prog_5_method_8_code 86 = .ok (.aload_n 0, 1) := by decide +kernel
theorem d_X3_readLevel_87 : decode prog_5_method_8_code 87 = .ok (.iload_n 1, 1) := by decide +kernel
theorem d_X3_readLevel_88 : decode prog_5_method_8_code 88 = .ok (.iconst 1, 1) := by decide +kernel
theorem d_X3_readLevel_89 : decode prog_5_method_8_code 89 = .ok (.iadd, 1) := by decide +kernel
theorem d_X3_readLevel_90 : decode prog_5_method_8_code 90 = .ok (.iload_n 2, 1) := by decide +kernel
theorem d_X3_readLevel_91 : decode prog_5_method_8_code 91 = .ok (.invokevirtual 48, 3) := by decide +kernel
theorem d_X3_readLevel_94 : decode prog_5_method_8_code 94 = .ok (.istore_n 3, 1) := by decide +kernel
theorem d_X3_readLevel_95 : decode prog_5_method_8_code 95 = .ok (.aload_n 0, 1) := by decide +kernel
theorem d_X3_readLevel_96 : decode prog_5_method_8_code 96 = .ok (.sipush 10000, 3) := by decide +kernel
theorem d_X3_readLevel_99 : decode prog_5_method_8_code 99 = .ok (.iload 6, 2) := by decide +kernel
theorem d_X3_readLevel_101 : decode prog_5_method_8_code 101 = .ok (.iadd, 1) := by decide +kernel
theorem d_X3_readLevel_102 : decode prog_5_method_8_code 102 = .ok (.invokevirtual 62, 3) := by decide +kernel
theorem d_X3_readLevel_105 : decode prog_5_method_8_code 105 = .ok (.iinc 5 1, 3) := by decide +kernel
theorem d_X3_readLevel_108 : decode prog_5_method_8_code 108 = .ok (.goto (-51), 3) := by decide +kernel
theorem d_X3_readLevel_111 : decode prog_5_method_8_code 111 = .ok (.iload_n 3, 1) := by decide +kernel
theorem d_X3_readLevel_112 : decode prog_5_method_8_code 112 = .ok (.ireturn, 1) := by decide +kernel
def lp_X3_readLevel_57 (κ : it_KK) (rc : Nat → Int32 → Int32 → it_SS → Option (Int32 × it_SS)) (x1 : Int32) (x2 : Int32) (k57 : (Int32 → it_SS → Option (Int32 × it_SS))) : Nat → Int32 → Int32 → Int32 → it_SS → Option (Int32 × it_SS)
  | 0, _, _, _, _ => none
  | n57 + 1, v3, v4, v5, S => if v4 ≤ v5 then
k57 v3 S
else
if v3 = 0 then
k57 v3 S
else
it_bi (f_X3_joins κ x1 S) (fun r9 S8 =>
if r9 = 0 then
k57 v3 S8
else
it_bi (f_X3_next κ  S8) (fun _ S11 =>
it_bi (rc 0 (x1 + 1) x2 S11) (fun r14 S13 =>
it_bi (f_X3_write κ (10000 + (S8 5 3)) S13) (fun _ S15 =>
lp_X3_readLevel_57 κ rc x1 x2 k57 n57 r14 v4 (v5 + 1) S15))))
def f_X3_readLevel (κ : it_KK) (rc : Nat → Int32 → Int32 → it_SS → Option (Int32 × it_SS)) (x1 : Int32) (x2 : Int32) (S : it_SS) : Option (Int32 × it_SS) :=
if x1 ≤ 4 then
if x1 = 2 then
if (S 5 3) = 5 then
it_bi (rc 2 x2 5 S) (fun r34 S33 =>
if it_bz r34 = true then some (r34, S33) else none)
else
it_bi (rc 0 (x1 + 1) x2 S) (fun r25 S24 =>
if x1 = 2 then
lp_X3_readLevel_57 κ rc x1 x2 (fun v30 S31 =>
if it_bz v30 = true then some (v30, S31) else none) it_FU r25 1 0 S24
else
lp_X3_readLevel_57 κ rc x1 x2 (fun v27 S28 =>
if it_bz v27 = true then some (v27, S28) else none) it_FU r25 160 0 S24)
else
it_bi (rc 0 (x1 + 1) x2 S) (fun r4 S3 =>
if x1 = 2 then
lp_X3_readLevel_57 κ rc x1 x2 (fun v20 S21 =>
if it_bz v20 = true then some (v20, S21) else none) it_FU r4 1 0 S3
else
lp_X3_readLevel_57 κ rc x1 x2 (fun v17 S18 =>
if it_bz v17 = true then some (v17, S18) else none) it_FU r4 160 0 S3)
else
it_bi (rc 1 x2 0 S) (fun r37 S36 =>
if it_bz r37 = true then some (r37, S36) else none)
set_option maxHeartbeats 4000000 in
set_option maxRecDepth 100000 in
theorem Llp_X3_readLevel_57 {g : it_G} {l : Launch} {e : Nat} {κ : it_KK} {rc : Nat → Int32 → Int32 → it_SS → Option (Int32 × it_SS)} {x1 : Int32} {x2 : Int32} (ht : it_wt κ) (hrec : it_recs g l e κ rc) (he : 7 ≤ e) {P : Int32 → it_SS → Prop} {k57 : (Int32 → it_SS → Option (Int32 × it_SS))} (hk57 : ∀ (v3 : Int32) (S : it_SS), it_ok (k57 v3 S) P → it_Ev g l (e + 1) it_m_X3_readLevel 0 0 111 [none, none, none, some (.int v3), none, none, none] [] κ S (it_pi κ P)) : ∀ (n : Nat) (v3 : Int32) (v4 : Int32) (v5 : Int32) (S : it_SS), it_ok (lp_X3_readLevel_57 κ rc x1 x2 k57 n v3 v4 v5 S) P → it_Ev g l (e + 1) it_m_X3_readLevel 0 0 57 [some (.ref 5), some (.int x1), some (.int x2), some (.int v3), some (.int v4), some (.int v5), none] [] κ S (it_pi κ P) := by
  intro n
  induction n with
  | zero =>
    intro _ _ _ _ h
    exact (it_ok_n h).elim
  | succ n57 ih57 =>
    intro v3 v4 v5 S h
    rw [lp_X3_readLevel_57] at h
    refine ev_iload d_X3_readLevel_57 rfl ?_
    refine ev_iload d_X3_readLevel_59 rfl ?_
    refine ev_icmp_ge (tgt := 111) d_X3_readLevel_61 (by decide) (fun hc6 => ?_) (fun hc6 => ?_)
    · have h := it_ok_t h hc6
      refine ev_keep [false, false, false, true, false, false, false] ?_
      exact hk57 _ _ h
    · have h := it_ok_f h hc6
      refine ev_iload_n d_X3_readLevel_64 rfl ?_
      refine ev_if_eq (tgt := 111) d_X3_readLevel_65 (by decide) (fun hc7 => ?_) (fun hc7 => ?_)
      · have h := it_ok_t h hc7
        refine ev_keep [false, false, false, true, false, false, false] ?_
        exact hk57 _ _ h
      · have h := it_ok_f h hc7
        refine ev_aload_n d_X3_readLevel_68 rfl ?_
        refine ev_iload_n d_X3_readLevel_69 rfl ?_
        refine ev_callV (ci := 3) (b := 5) (M' := it_m_X3_joins) (d' := 1) (As := [.int x1]) d_X3_readLevel_70 ml_IcedTooSoon_Tape_59 ht.1.1 ht.1.2.1 ⟨_, rfl, rfl⟩ rfl rfl (Nat.le_of_ble_eq_true rfl) (by omega) (by decide) (by decide) (L_X3_joins ht (it_ok_b h)) (fun _ _ _ _ q => by cases q.1; rfl) ?_
        rintro _ _ S8 ⟨rfl, r9, rfl, h⟩
        show it_Ev g l (e + 1) it_m_X3_readLevel 0 0 73 [some (.ref 5), some (.int x1), some (.int x2), some (.int v3), some (.int v4), some (.int v5), none] [.int r9] κ S8 (it_pi κ P)
        refine ev_if_eq (tgt := 111) d_X3_readLevel_73 (by decide) (fun hc10 => ?_) (fun hc10 => ?_)
        · have h := it_ok_t h hc10
          refine ev_keep [false, false, false, true, false, false, false] ?_
          exact hk57 _ _ h
        · have h := it_ok_f h hc10
          refine ev_aload_n d_X3_readLevel_76 rfl ?_
          refine ev_getI d_X3_readLevel_77 fl_IcedTooSoon_Tape_45 ht.1 rfl ?_
          refine ev_istore d_X3_readLevel_80 (by decide) ?_
          show it_Ev g l (e + 1) it_m_X3_readLevel 0 0 82 [some (.ref 5), some (.int x1), some (.int x2), some (.int v3), some (.int v4), some (.int v5), some (.int (S8 5 3))] [] κ S8 (it_pi κ P)
          refine ev_aload_n d_X3_readLevel_82 rfl ?_
          refine ev_callV (ci := 3) (b := 5) (M' := it_m_X3_next) (d' := 7) (As := []) d_X3_readLevel_83 ml_IcedTooSoon_Tape_42 ht.1.1 ht.1.2.1 ⟨_, rfl, rfl⟩ rfl rfl (Nat.le_of_ble_eq_true rfl) (by omega) (by decide) (by decide) (L_X3_next ht (it_ok_b h)) (fun _ _ _ _ q => by cases q.1; rfl) ?_
          rintro _ _ S11 ⟨rfl, rfl, h⟩
          show it_Ev g l (e + 1) it_m_X3_readLevel 0 0 86 [some (.ref 5), some (.int x1), some (.int x2), some (.int v3), some (.int v4), some (.int v5), some (.int (S8 5 3))] [] κ S11 (it_pi κ P)
          refine ev_aload_n d_X3_readLevel_86 rfl ?_
          refine ev_iload_n d_X3_readLevel_87 rfl ?_
          refine ev_iconst d_X3_readLevel_88 kv_iconst_1 ?_
          refine ev_iadd d_X3_readLevel_89 ?_
          refine ev_iload_n d_X3_readLevel_90 rfl ?_
          refine ev_callV (ci := 3) (b := 5) (M' := it_m_X3_readLevel) (d' := e) (As := [.int (x1 + 1), .int x2]) d_X3_readLevel_91 ml_IcedTooSoon_Tape_48 ht.1.1 ht.1.2.1 ⟨_, rfl, rfl⟩ rfl rfl (Nat.le_of_ble_eq_true rfl) (Nat.le_refl _) (by decide) (by decide) ((hrec).1 _ _ _ _ (it_ok_b h)) (fun _ _ _ _ q => by cases q.1; rfl) ?_
          rintro _ _ S13 ⟨rfl, r14, rfl, h⟩
          show it_Ev g l (e + 1) it_m_X3_readLevel 0 0 94 [some (.ref 5), some (.int x1), some (.int x2), some (.int v3), some (.int v4), some (.int v5), some (.int (S8 5 3))] [.int r14] κ S13 (it_pi κ P)
          refine ev_istore_n d_X3_readLevel_94 (by decide) ?_
          show it_Ev g l (e + 1) it_m_X3_readLevel 0 0 95 [some (.ref 5), some (.int x1), some (.int x2), some (.int r14), some (.int v4), some (.int v5), some (.int (S8 5 3))] [] κ S13 (it_pi κ P)
          refine ev_aload_n d_X3_readLevel_95 rfl ?_
          refine ev_sipush d_X3_readLevel_96 kv_sipush_10000 ?_
          refine ev_iload d_X3_readLevel_99 rfl ?_
          refine ev_iadd d_X3_readLevel_101 ?_
          refine ev_callV (ci := 3) (b := 5) (M' := it_m_X3_write) (d' := 1) (As := [.int (10000 + (S8 5 3))]) d_X3_readLevel_102 ml_IcedTooSoon_Tape_62 ht.1.1 ht.1.2.1 ⟨_, rfl, rfl⟩ rfl rfl (Nat.le_of_ble_eq_true rfl) (by omega) (by decide) (by decide) (L_X3_write ht (it_ok_b h)) (fun _ _ _ _ q => by cases q.1; rfl) ?_
          rintro _ _ S15 ⟨rfl, rfl, h⟩
          show it_Ev g l (e + 1) it_m_X3_readLevel 0 0 105 [some (.ref 5), some (.int x1), some (.int x2), some (.int r14), some (.int v4), some (.int v5), some (.int (S8 5 3))] [] κ S15 (it_pi κ P)
          refine ev_iinc d_X3_readLevel_105 kv_iconst_1 rfl (by decide) ?_
          show it_Ev g l (e + 1) it_m_X3_readLevel 0 0 108 [some (.ref 5), some (.int x1), some (.int x2), some (.int r14), some (.int v4), some (.int (v5 + 1)), some (.int (S8 5 3))] [] κ S15 (it_pi κ P)
          refine ev_goto (tgt := 57) d_X3_readLevel_108 (by decide) ?_
          refine ev_keep [true, true, true, true, true, true, false] ?_
          exact ih57 _ _ _ _ h
set_option maxHeartbeats 4000000 in
set_option maxRecDepth 100000 in
theorem L_X3_readLevel {g : it_G} {l : Launch} {e : Nat} {κ : it_KK} {rc : Nat → Int32 → Int32 → it_SS → Option (Int32 × it_SS)} {x1 : Int32} {x2 : Int32} (ht : it_wt κ) (hrec : it_recs g l e κ rc) (he : 7 ≤ e) {S : it_SS} {P : Int32 → it_SS → Prop} (h : it_ok (f_X3_readLevel κ rc x1 x2 S) P) : it_Cn g l (e + 1) it_m_X3_readLevel [.ref 5, .int x1, .int x2] κ S (it_pi κ P) := by
  refine it_Cn.of (by decide +kernel) (Nat.le_of_ble_eq_true rfl) ?_
  rw [f_X3_readLevel] at h
  show it_Ev g l (e + 1) it_m_X3_readLevel 0 0 0 [some (.ref 5), some (.int x1), some (.int x2), none, none, none, none] [] κ S (it_pi κ P)
  refine ev_iload_n d_X3_readLevel_0 rfl ?_
  refine ev_iconst d_X3_readLevel_1 kv_iconst_4 ?_
  refine ev_icmp_le (tgt := 11) d_X3_readLevel_2 (by decide) (fun hc1 => ?_) (fun hc1 => ?_)
  · have h := it_ok_t h hc1
    refine ev_iload_n d_X3_readLevel_11 rfl ?_
    refine ev_iconst d_X3_readLevel_12 kv_iconst_2 ?_
    refine ev_icmp_ne (tgt := 31) d_X3_readLevel_13 (by decide) (fun hc2 => ?_) (fun hc2 => ?_)
    · have h := it_ok_f h hc2
      refine ev_aload_n d_X3_readLevel_31 rfl ?_
      refine ev_iload_n d_X3_readLevel_32 rfl ?_
      refine ev_iconst d_X3_readLevel_33 kv_iconst_1 ?_
      refine ev_iadd d_X3_readLevel_34 ?_
      refine ev_iload_n d_X3_readLevel_35 rfl ?_
      refine ev_callV (ci := 3) (b := 5) (M' := it_m_X3_readLevel) (d' := e) (As := [.int (x1 + 1), .int x2]) d_X3_readLevel_36 ml_IcedTooSoon_Tape_48 ht.1.1 ht.1.2.1 ⟨_, rfl, rfl⟩ rfl rfl (Nat.le_of_ble_eq_true rfl) (Nat.le_refl _) (by decide) (by decide) ((hrec).1 _ _ _ _ (it_ok_b h)) (fun _ _ _ _ q => by cases q.1; rfl) ?_
      rintro _ _ S3 ⟨rfl, r4, rfl, h⟩
      show it_Ev g l (e + 1) it_m_X3_readLevel 0 0 39 [some (.ref 5), some (.int x1), some (.int x2), none, none, none, none] [.int r4] κ S3 (it_pi κ P)
      refine ev_istore_n d_X3_readLevel_39 (by decide) ?_
      show it_Ev g l (e + 1) it_m_X3_readLevel 0 0 40 [some (.ref 5), some (.int x1), some (.int x2), some (.int r4), none, none, none] [] κ S3 (it_pi κ P)
      refine ev_iload_n d_X3_readLevel_40 rfl ?_
      refine ev_iconst d_X3_readLevel_41 kv_iconst_2 ?_
      refine ev_icmp_ne (tgt := 49) d_X3_readLevel_42 (by decide) (fun hc5 => ?_) (fun hc5 => ?_)
      · have h := it_ok_f h hc5
        refine ev_sipush d_X3_readLevel_49 kv_sipush_160 ?_
        refine ev_istore d_X3_readLevel_52 (by decide) ?_
        show it_Ev g l (e + 1) it_m_X3_readLevel 0 0 54 [some (.ref 5), some (.int x1), some (.int x2), some (.int r4), some (.int 160), none, none] [] κ S3 (it_pi κ P)
        refine ev_iconst d_X3_readLevel_54 kv_iconst_0 ?_
        refine ev_istore d_X3_readLevel_55 (by decide) ?_
        show it_Ev g l (e + 1) it_m_X3_readLevel 0 0 57 [some (.ref 5), some (.int x1), some (.int x2), some (.int r4), some (.int 160), some (.int 0), none] [] κ S3 (it_pi κ P)
        refine ev_keep [true, true, true, true, true, true, false] ?_
        refine Llp_X3_readLevel_57 ht hrec he (fun v17 S18 h => ?_) _ _ _ _ _ h
        show it_Ev g l (e + 1) it_m_X3_readLevel 0 0 111 [none, none, none, some (.int v17), none, none, none] [] κ S18 (it_pi κ P)
        refine ev_iload_n d_X3_readLevel_111 rfl ?_
        obtain ⟨hz19, h⟩ := it_ok_g h
        exact ev_ret (v := some (.int _)) ⟨d_X3_readLevel_112, _, rfl, it_bz_n hz19⟩ (by decide) (by decide) ⟨rfl, _, rfl, it_ok_r h⟩
      · have h := it_ok_t h hc5
        refine ev_iconst d_X3_readLevel_45 kv_iconst_1 ?_
        refine ev_goto (tgt := 52) d_X3_readLevel_46 (by decide) ?_
        refine ev_istore d_X3_readLevel_52 (by decide) ?_
        show it_Ev g l (e + 1) it_m_X3_readLevel 0 0 54 [some (.ref 5), some (.int x1), some (.int x2), some (.int r4), some (.int 1), none, none] [] κ S3 (it_pi κ P)
        refine ev_iconst d_X3_readLevel_54 kv_iconst_0 ?_
        refine ev_istore d_X3_readLevel_55 (by decide) ?_
        show it_Ev g l (e + 1) it_m_X3_readLevel 0 0 57 [some (.ref 5), some (.int x1), some (.int x2), some (.int r4), some (.int 1), some (.int 0), none] [] κ S3 (it_pi κ P)
        refine ev_keep [true, true, true, true, true, true, false] ?_
        refine Llp_X3_readLevel_57 ht hrec he (fun v20 S21 h => ?_) _ _ _ _ _ h
        show it_Ev g l (e + 1) it_m_X3_readLevel 0 0 111 [none, none, none, some (.int v20), none, none, none] [] κ S21 (it_pi κ P)
        refine ev_iload_n d_X3_readLevel_111 rfl ?_
        obtain ⟨hz22, h⟩ := it_ok_g h
        exact ev_ret (v := some (.int _)) ⟨d_X3_readLevel_112, _, rfl, it_bz_n hz22⟩ (by decide) (by decide) ⟨rfl, _, rfl, it_ok_r h⟩
    · have h := it_ok_t h hc2
      refine ev_aload_n d_X3_readLevel_16 rfl ?_
      refine ev_getI d_X3_readLevel_17 fl_IcedTooSoon_Tape_45 ht.1 rfl ?_
      refine ev_iconst d_X3_readLevel_20 kv_iconst_5 ?_
      refine ev_icmp_ne (tgt := 31) d_X3_readLevel_21 (by decide) (fun hc23 => ?_) (fun hc23 => ?_)
      · have h := it_ok_f h hc23
        refine ev_aload_n d_X3_readLevel_31 rfl ?_
        refine ev_iload_n d_X3_readLevel_32 rfl ?_
        refine ev_iconst d_X3_readLevel_33 kv_iconst_1 ?_
        refine ev_iadd d_X3_readLevel_34 ?_
        refine ev_iload_n d_X3_readLevel_35 rfl ?_
        refine ev_callV (ci := 3) (b := 5) (M' := it_m_X3_readLevel) (d' := e) (As := [.int (x1 + 1), .int x2]) d_X3_readLevel_36 ml_IcedTooSoon_Tape_48 ht.1.1 ht.1.2.1 ⟨_, rfl, rfl⟩ rfl rfl (Nat.le_of_ble_eq_true rfl) (Nat.le_refl _) (by decide) (by decide) ((hrec).1 _ _ _ _ (it_ok_b h)) (fun _ _ _ _ q => by cases q.1; rfl) ?_
        rintro _ _ S24 ⟨rfl, r25, rfl, h⟩
        show it_Ev g l (e + 1) it_m_X3_readLevel 0 0 39 [some (.ref 5), some (.int x1), some (.int x2), none, none, none, none] [.int r25] κ S24 (it_pi κ P)
        refine ev_istore_n d_X3_readLevel_39 (by decide) ?_
        show it_Ev g l (e + 1) it_m_X3_readLevel 0 0 40 [some (.ref 5), some (.int x1), some (.int x2), some (.int r25), none, none, none] [] κ S24 (it_pi κ P)
        refine ev_iload_n d_X3_readLevel_40 rfl ?_
        refine ev_iconst d_X3_readLevel_41 kv_iconst_2 ?_
        refine ev_icmp_ne (tgt := 49) d_X3_readLevel_42 (by decide) (fun hc26 => ?_) (fun hc26 => ?_)
        · have h := it_ok_f h hc26
          refine ev_sipush d_X3_readLevel_49 kv_sipush_160 ?_
          refine ev_istore d_X3_readLevel_52 (by decide) ?_
          show it_Ev g l (e + 1) it_m_X3_readLevel 0 0 54 [some (.ref 5), some (.int x1), some (.int x2), some (.int r25), some (.int 160), none, none] [] κ S24 (it_pi κ P)
          refine ev_iconst d_X3_readLevel_54 kv_iconst_0 ?_
          refine ev_istore d_X3_readLevel_55 (by decide) ?_
          show it_Ev g l (e + 1) it_m_X3_readLevel 0 0 57 [some (.ref 5), some (.int x1), some (.int x2), some (.int r25), some (.int 160), some (.int 0), none] [] κ S24 (it_pi κ P)
          refine ev_keep [true, true, true, true, true, true, false] ?_
          refine Llp_X3_readLevel_57 ht hrec he (fun v27 S28 h => ?_) _ _ _ _ _ h
          show it_Ev g l (e + 1) it_m_X3_readLevel 0 0 111 [none, none, none, some (.int v27), none, none, none] [] κ S28 (it_pi κ P)
          refine ev_iload_n d_X3_readLevel_111 rfl ?_
          obtain ⟨hz29, h⟩ := it_ok_g h
          exact ev_ret (v := some (.int _)) ⟨d_X3_readLevel_112, _, rfl, it_bz_n hz29⟩ (by decide) (by decide) ⟨rfl, _, rfl, it_ok_r h⟩
        · have h := it_ok_t h hc26
          refine ev_iconst d_X3_readLevel_45 kv_iconst_1 ?_
          refine ev_goto (tgt := 52) d_X3_readLevel_46 (by decide) ?_
          refine ev_istore d_X3_readLevel_52 (by decide) ?_
          show it_Ev g l (e + 1) it_m_X3_readLevel 0 0 54 [some (.ref 5), some (.int x1), some (.int x2), some (.int r25), some (.int 1), none, none] [] κ S24 (it_pi κ P)
          refine ev_iconst d_X3_readLevel_54 kv_iconst_0 ?_
          refine ev_istore d_X3_readLevel_55 (by decide) ?_
          show it_Ev g l (e + 1) it_m_X3_readLevel 0 0 57 [some (.ref 5), some (.int x1), some (.int x2), some (.int r25), some (.int 1), some (.int 0), none] [] κ S24 (it_pi κ P)
          refine ev_keep [true, true, true, true, true, true, false] ?_
          refine Llp_X3_readLevel_57 ht hrec he (fun v30 S31 h => ?_) _ _ _ _ _ h
          show it_Ev g l (e + 1) it_m_X3_readLevel 0 0 111 [none, none, none, some (.int v30), none, none, none] [] κ S31 (it_pi κ P)
          refine ev_iload_n d_X3_readLevel_111 rfl ?_
          obtain ⟨hz32, h⟩ := it_ok_g h
          exact ev_ret (v := some (.int _)) ⟨d_X3_readLevel_112, _, rfl, it_bz_n hz32⟩ (by decide) (by decide) ⟨rfl, _, rfl, it_ok_r h⟩
      · have h := it_ok_t h hc23
        refine ev_aload_n d_X3_readLevel_24 rfl ?_
        refine ev_iload_n d_X3_readLevel_25 rfl ?_
        refine ev_iconst d_X3_readLevel_26 kv_iconst_5 ?_
        refine ev_callV (ci := 3) (b := 5) (M' := it_m_X3_readTurned) (d' := e) (As := [.int x2, .int 5]) d_X3_readLevel_27 ml_IcedTooSoon_Tape_56 ht.1.1 ht.1.2.1 ⟨_, rfl, rfl⟩ rfl rfl (Nat.le_of_ble_eq_true rfl) (Nat.le_refl _) (by decide) (by decide) ((hrec).2.2.1 _ _ _ _ (it_ok_b h)) (fun _ _ _ _ q => by cases q.1; rfl) ?_
        rintro _ _ S33 ⟨rfl, r34, rfl, h⟩
        show it_Ev g l (e + 1) it_m_X3_readLevel 0 0 30 [some (.ref 5), some (.int x1), some (.int x2), none, none, none, none] [.int r34] κ S33 (it_pi κ P)
        obtain ⟨hz35, h⟩ := it_ok_g h
        exact ev_ret (v := some (.int _)) ⟨d_X3_readLevel_30, _, rfl, it_bz_n hz35⟩ (by decide) (by decide) ⟨rfl, _, rfl, it_ok_r h⟩
  · have h := it_ok_f h hc1
    refine ev_aload_n d_X3_readLevel_5 rfl ?_
    refine ev_iload_n d_X3_readLevel_6 rfl ?_
    refine ev_callV (ci := 3) (b := 5) (M' := it_m_X3_readOne) (d' := e) (As := [.int x2]) d_X3_readLevel_7 ml_IcedTooSoon_Tape_52 ht.1.1 ht.1.2.1 ⟨_, rfl, rfl⟩ rfl rfl (Nat.le_of_ble_eq_true rfl) (Nat.le_refl _) (by decide) (by decide) ((hrec).2.1 _ _ _ (it_ok_b h)) (fun _ _ _ _ q => by cases q.1; rfl) ?_
    rintro _ _ S36 ⟨rfl, r37, rfl, h⟩
    show it_Ev g l (e + 1) it_m_X3_readLevel 0 0 10 [some (.ref 5), some (.int x1), some (.int x2), none, none, none, none] [.int r37] κ S36 (it_pi κ P)
    obtain ⟨hz38, h⟩ := it_ok_g h
    exact ev_ret (v := some (.int _)) ⟨d_X3_readLevel_10, _, rfl, it_bz_n hz38⟩ (by decide) (by decide) ⟨rfl, _, rfl, it_ok_r h⟩
