def it_bc (i : Int32) : Bool := decide (0 ≤ i ∧ i ≤ 65535)
theorem it_bc_n {i : Int32} (h : it_bc i = true) : narrow .char (.int i) = .int i := by
  have h1 : 0 ≤ i ∧ i ≤ 65535 := of_decide_eq_true h
  have h2 := Int32.le_iff_toInt_le.mp h1.1
  have h3 := Int32.le_iff_toInt_le.mp h1.2
  have e1 : (0 : Int32).toInt = 0 := by decide
  have e2 : (65535 : Int32).toInt = 65535 := by decide
  rw [e1] at h2
  rw [e2] at h3
  have : vp_nar .char i = i := by
    rw [vp_nar_char]
    apply Int32.toInt_inj.mp
    obtain ⟨j, hj, rfl⟩ := nI_of (x := i) (fun h => by
      have := Int32.lt_iff_toInt_lt.mp h
      rw [e1] at this
      omega)
    rw [nI_toInt hj] at h3
    have hj2 : j < 65536 := by omega
    have h4 : (nI j).toUInt32.toUInt16.toUInt32.toInt32 = nI j := by
      have h5 : (nI j).toUInt32.toNat = j := by
        have : (nI j).toUInt32 = UInt32.ofNat j := rfl
        rw [this, UInt32.toNat_ofNat']
        omega
      apply Int32.toUInt32_inj.mp
      apply UInt32.toNat_inj.mp
      show (nI j).toUInt32.toUInt16.toUInt32.toNat = (nI j).toUInt32.toNat
      rw [UInt16.toNat_toUInt32, UInt32.toNat_toUInt16, h5]
      omega
    rw [h4]
  rw [vp_nar] at this
  revert this
  cases hn : narrow .char (.int i) with
  | int y => intro h; rw [h]
  | _ => simp [narrow] at hn
def it_recs (g : it_G) (l : Launch) (e : Nat) (κ : it_KK) (rc : Nat → Int32 → Int32 → it_SS → Option (Int32 × it_SS)) : Prop :=
  (∀ (a b : Int32) (S : it_SS) (P : Int32 → it_SS → Prop), it_ok (rc 0 a b S) P → it_Cn g l e it_m_X3_readLevel [.ref 5, .int a, .int b] κ S (it_pi κ P)) ∧
  (∀ (a : Int32) (S : it_SS) (P : Int32 → it_SS → Prop), it_ok (rc 1 a 0 S) P → it_Cn g l e it_m_X3_readOne [.ref 5, .int a] κ S (it_pi κ P)) ∧
  (∀ (a b : Int32) (S : it_SS) (P : Int32 → it_SS → Prop), it_ok (rc 2 a b S) P → it_Cn g l e it_m_X3_readTurned [.ref 5, .int a, .int b] κ S (it_pi κ P)) ∧
  (∀ (a : Int32) (S : it_SS) (P : Int32 → it_SS → Prop), it_ok (rc 3 a 0 S) P → it_Cn g l e it_m_X3_readInner [.ref 5, .int a] κ S (it_pi κ P))
theorem d_J3_ck_0 : decode it_m_J3_checkIndex_8e157.2.1 0 = .ok (.iload_n 0, 1) := by decide +kernel
theorem d_J3_ck_1 : decode it_m_J3_checkIndex_8e157.2.1 1 = .ok (.ifCond .lt 8, 3) := by decide +kernel
theorem d_J3_ck_4 : decode it_m_J3_checkIndex_8e157.2.1 4 = .ok (.iload_n 0, 1) := by decide +kernel
theorem d_J3_ck_5 : decode it_m_J3_checkIndex_8e157.2.1 5 = .ok (.iload_n 1, 1) := by decide +kernel
theorem d_J3_ck_6 : decode it_m_J3_checkIndex_8e157.2.1 6 = .ok (.if_icmp .lt 10, 3) := by decide +kernel
theorem d_J3_ck_16 : decode it_m_J3_checkIndex_8e157.2.1 16 = .ok (.iload_n 0, 1) := by decide +kernel
theorem d_J3_ck_17 : decode it_m_J3_checkIndex_8e157.2.1 17 = .ok (.ireturn, 1) := by decide +kernel
theorem L_J3_ck {g : it_G} {l : Launch} {κ : it_KK} {x0 x1 : Int32} {v : Value} (hv : v = .null ∨ v = .retAddr 9) {S : it_SS} {P : Int32 → it_SS → Prop} (h0 : ¬ x0 < 0) (h1 : x0 < x1) (h : P x0 S) : it_Cn g l 1 it_m_J3_checkIndex_8e157 [.int x0, .int x1, v] κ S (it_pi κ P) := by
  refine it_Cn.of (by decide +kernel) (by rcases hv with rfl | rfl <;> exact Nat.le_of_ble_eq_true rfl) ?_
  have key : ∀ L : it_L, L[0]? = some (some (.int x0)) → L[1]? = some (some (.int x1)) → it_Ev g l 1 it_m_J3_checkIndex_8e157 0 0 0 L [] κ S (it_pi κ P) := by
    intro L q0 q1
    refine ev_iload_n d_J3_ck_0 q0 ?_
    refine ev_if_lt (tgt := 9) d_J3_ck_1 (by decide) (fun hc => absurd hc h0) (fun _ => ?_)
    refine ev_iload_n d_J3_ck_4 q0 ?_
    refine ev_iload_n d_J3_ck_5 q1 ?_
    refine ev_icmp_lt (tgt := 16) d_J3_ck_6 (by decide) (fun _ => ?_) (fun hc => absurd h1 hc)
    refine ev_iload_n d_J3_ck_16 q0 ?_
    exact ev_ret (v := some (.int _)) ⟨d_J3_ck_17, _, rfl, rfl⟩ (by decide) (by decide) ⟨rfl, _, rfl, h⟩
  rcases hv with rfl | rfl
  · exact key _ rfl rfl
  · exact key _ rfl rfl
def f_J0_checkIndex_df160 (κ : it_KK) (x0 x1 : Int32) (S : it_SS) : Option (Unit × it_SS) := if x0 < 0 then none else if x0 < x1 then some ((), S) else none
theorem d_J0_ck_0 : decode it_m_J0_checkIndex_df160.2.1 0 = .ok (.iload_n 0, 1) := by decide +kernel
theorem d_J0_ck_1 : decode it_m_J0_checkIndex_df160.2.1 1 = .ok (.iload_n 1, 1) := by decide +kernel
theorem d_J0_ck_2 : decode it_m_J0_checkIndex_df160.2.1 2 = .ok (.getstatic 1053, 3) := by decide +kernel
theorem d_J0_ck_5 : decode it_m_J0_checkIndex_df160.2.1 5 = .ok (.invokestatic 1059, 3) := by decide +kernel
theorem d_J0_ck_8 : decode it_m_J0_checkIndex_df160.2.1 8 = .ok (.pop, 1) := by decide +kernel
theorem d_J0_ck_9 : decode it_m_J0_checkIndex_df160.2.1 9 = .ok (.return_, 1) := by decide +kernel
theorem L_J0_checkIndex_df160 {g : it_G} {l : Launch} {κ : it_KK} {x0 x1 : Int32} {S : it_SS} {P : Unit → it_SS → Prop} (h : it_ok (f_J0_checkIndex_df160 κ x0 x1 S) P) : it_Cn g l 2 it_m_J0_checkIndex_df160 [.int x0, .int x1] κ S (it_pv κ P) := by
  refine it_Cn.of (by decide +kernel) (Nat.le_of_ble_eq_true rfl) ?_
  rw [f_J0_checkIndex_df160] at h
  obtain ⟨h0, h⟩ := it_ok_z h
  obtain ⟨h1, h⟩ := it_ok_g h
  show it_Ev g l 2 it_m_J0_checkIndex_df160 0 0 0 [some (.int x0), some (.int x1)] [] κ S (it_pv κ P)
  refine ev_iload_n d_J0_ck_0 rfl ?_
  refine ev_iload_n d_J0_ck_1 rfl ?_
  refine ev_fmt d_J0_ck_2 (it_in_tb (List.mem_of_getElem? (i := 236) (by decide +kernel)) rfl) (fun v hv => ?_)
  refine ev_callS (M' := it_m_J3_checkIndex_8e157) (d' := 1) (As := [.int x0, .int x1, v]) d_J0_ck_5 ml_java_lang_String_1059 rfl rfl (Nat.le_of_ble_eq_true rfl) (by decide) (by decide) (by decide) (L_J3_ck hv h0 h1 (P := fun r S => it_ok (some ((), S)) P) h) (fun _ _ _ _ q => by cases q.1; rfl) ?_
  rintro _ _ S1 ⟨rfl, r, rfl, h⟩
  refine ev_pop d_J0_ck_8 rfl ?_
  exact ev_ret (v := none) ⟨d_J0_ck_9, rfl⟩ (by decide) (by decide) ⟨rfl, rfl, it_ok_r h⟩
set_option maxRecDepth 50000 in
theorem mp_java_lang_StringLatin1_38 : Cond.methodLink "java/lang/StringLatin1" 38 Lib.Math.min.name ∈ it_tb ∧ Cond.static Lib.Math.min.name ∈ it_tb ∧ Cond.initialized "java/lang/Math" ∈ it_tb ∧ Cond.code Lib.Math.min.name Lib.Math.min.code 2 (some .int) ∈ it_tb := ⟨it_in_tb (List.mem_of_getElem? (i := 313) (by decide +kernel)) rfl, it_in_tb (List.mem_of_getElem? (i := 314) (by decide +kernel)) rfl, it_in_tb (List.mem_of_getElem? (i := 65) (by decide +kernel)) rfl, it_in_tb (List.mem_of_getElem? (i := 315) (by decide +kernel)) rfl⟩
set_option maxRecDepth 50000 in
theorem mp_java_lang_StringLatin1_92 : Cond.methodLink "java/lang/StringLatin1" 92 Lib.Math.max.name ∈ it_tb ∧ Cond.static Lib.Math.max.name ∈ it_tb ∧ Cond.initialized "java/lang/Math" ∈ it_tb ∧ Cond.code Lib.Math.max.name Lib.Math.max.code 2 (some .int) ∈ it_tb := ⟨it_in_tb (List.mem_of_getElem? (i := 310) (by decide +kernel)) rfl, it_in_tb (List.mem_of_getElem? (i := 311) (by decide +kernel)) rfl, it_in_tb (List.mem_of_getElem? (i := 65) (by decide +kernel)) rfl, it_in_tb (List.mem_of_getElem? (i := 312) (by decide +kernel)) rfl⟩
