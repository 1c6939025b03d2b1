def it_bc (i : Int32) : Bool := decide (vp_nar .char i = i)
theorem it_bc_n {i : Int32} (h : it_bc i = true) : narrow .char (.int i) = .int i := congrArg Value.int (show vp_nar .char i = i from of_decide_eq_true h)
def it_recs (g : it_G) (l : Launch) (e : Nat) (κ : it_KK) (rc : Nat → Int32 → Int32 → it_SS → Option (Int32 × it_SS)) : Prop :=
  (∀ (a b : Int32) (S : it_SS) (P : Int32 → it_SS → Prop), it_ok (rc 0 a b S) P → it_Cn g l e it_m_X3_readLevel [.ref 5, .int a, .int b] κ S (it_pi κ P)) ∧
  (∀ (a : Int32) (S : it_SS) (P : Int32 → it_SS → Prop), it_ok (rc 1 a 0 S) P → it_Cn g l e it_m_X3_readOne [.ref 5, .int a] κ S (it_pi κ P)) ∧
  (∀ (a b : Int32) (S : it_SS) (P : Int32 → it_SS → Prop), it_ok (rc 2 a b S) P → it_Cn g l e it_m_X3_readTurned [.ref 5, .int a, .int b] κ S (it_pi κ P)) ∧
  (∀ (a : Int32) (S : it_SS) (P : Int32 → it_SS → Prop), it_ok (rc 3 a 0 S) P → it_Cn g l e it_m_X3_readInner [.ref 5, .int a] κ S (it_pi κ P))
theorem d_J3_ck_0 : decode it_m_J3_checkIndex_8e157.2.1 0 = .ok (.iload_n 0, 1) := by decide +kernel
theorem d_J3_ck_1 : decode it_m_J3_checkIndex_8e157.2.1 1 = .ok (.ifCond .lt 8, 3) := by decide +kernel
theorem d_J3_ck_4 : decode it_m_J3_checkIndex_8e157.2.1 4 = .ok (.iload_n 0, 1) := by decide +kernel
theorem d_J3_ck_5 : decode it_m_J3_checkIndex_8e157.2.1 5 = .ok (.iload_n 1, 1) := by decide +kernel
theorem d_J3_ck_6 : decode it_m_J3_checkIndex_8e157.2.1 6 = .ok (.if_icmp .lt 10, 3) := by decide +kernel
theorem d_J3_ck_16 : decode it_m_J3_checkIndex_8e157.2.1 16 = .ok (.iload_n 0, 1) := by decide +kernel
theorem d_J3_ck_17 : decode it_m_J3_checkIndex_8e157.2.1 17 = .ok (.ireturn, 1) := by decide +kernel
theorem L_J3_ck {g : it_G} {l : Launch} {κ : it_KK} {x0 x1 : Int32} {v : Value} (hv : v = .null ∨ v = .retAddr 9) {S : it_SS} {P : Int32 → it_SS → Prop} (h0 : ¬ x0 < 0) (h1 : x0 < x1) (h : P x0 S) : it_Cn g l 1 it_m_J3_checkIndex_8e157 [.int x0, .int x1, v] κ S (it_pi κ P) := by
  refine it_Cn.of (by decide +kernel) (by rcases hv with rfl | rfl <;> exact Nat.le_of_ble_eq_true rfl) ?_
  have key : ∀ L : it_L, L[0]? = some (some (.int x0)) → L[1]? = some (some (.int x1)) → it_Ev g l 1 it_m_J3_checkIndex_8e157 0 0 0 L [] κ S (it_pi κ P) := by
    intro L q0 q1
    refine ev_iload_n d_J3_ck_0 q0 ?_
    refine ev_if_lt (tgt := 9) d_J3_ck_1 (by decide) (fun hc => absurd hc h0) (fun _ => ?_)
    refine ev_iload_n d_J3_ck_4 q0 ?_
    refine ev_iload_n d_J3_ck_5 q1 ?_
    refine ev_icmp_lt (tgt := 16) d_J3_ck_6 (by decide) (fun _ => ?_) (fun hc => absurd h1 hc)
    refine ev_iload_n d_J3_ck_16 q0 ?_
    exact ev_ret (v := some (.int _)) ⟨d_J3_ck_17, _, rfl, rfl⟩ (by decide) (by decide) ⟨rfl, _, rfl, h⟩
  rcases hv with rfl | rfl
  · exact key _ rfl rfl
  · exact key _ rfl rfl
def f_J0_checkIndex_df160 (κ : it_KK) (x0 x1 : Int32) (S : it_SS) : Option (Unit × it_SS) := if x0 < 0 then none else if x0 < x1 then some ((), S) else none
theorem d_J0_ck_0 : decode it_m_J0_checkIndex_df160.2.1 0 = .ok (.iload_n 0, 1) := by decide +kernel
theorem d_J0_ck_1 : decode it_m_J0_checkIndex_df160.2.1 1 = .ok (.iload_n 1, 1) := by decide +kernel
theorem d_J0_ck_2 : decode it_m_J0_checkIndex_df160.2.1 2 = .ok (.getstatic 1053, 3) := by decide +kernel
theorem d_J0_ck_5 : decode it_m_J0_checkIndex_df160.2.1 5 = .ok (.invokestatic 1059, 3) := by decide +kernel
theorem d_J0_ck_8 : decode it_m_J0_checkIndex_df160.2.1 8 = .ok (.pop, 1) := by decide +kernel
theorem d_J0_ck_9 : decode it_m_J0_checkIndex_df160.2.1 9 = .ok (.return_, 1) := by decide +kernel
theorem L_J0_checkIndex_df160 {g : it_G} {l : Launch} {κ : it_KK} {x0 x1 : Int32} {S : it_SS} {P : Unit → it_SS → Prop} (h : it_ok (f_J0_checkIndex_df160 κ x0 x1 S) P) : it_Cn g l 2 it_m_J0_checkIndex_df160 [.int x0, .int x1] κ S (it_pv κ P) := by
  refine it_Cn.of (by decide +kernel) (Nat.le_of_ble_eq_true rfl) ?_
  rw [f_J0_checkIndex_df160] at h
  obtain ⟨h0, h⟩ := it_ok_z h
  obtain ⟨h1, h⟩ := it_ok_g h
  show it_Ev g l 2 it_m_J0_checkIndex_df160 0 0 0 [some (.int x0), some (.int x1)] [] κ S (it_pv κ P)
  refine ev_iload_n d_J0_ck_0 rfl ?_
  refine ev_iload_n d_J0_ck_1 rfl ?_
  refine ev_fmt d_J0_ck_2 (it_in_tb (List.mem_of_getElem? (i := 235) (by decide +kernel)) rfl) (fun v hv => ?_)
  refine ev_callS (M' := it_m_J3_checkIndex_8e157) (d' := 1) (As := [.int x0, .int x1, v]) d_J0_ck_5 ml_java_lang_String_1059 rfl rfl (Nat.le_of_ble_eq_true rfl) (by decide) (by decide) (by decide) (L_J3_ck hv h0 h1 (P := fun r S => it_ok (some ((), S)) P) h) (fun _ _ _ _ q => by cases q.1; rfl) ?_
  rintro _ _ S1 ⟨rfl, r, rfl, h⟩
  refine ev_pop d_J0_ck_8 rfl ?_
  exact ev_ret (v := none) ⟨d_J0_ck_9, rfl⟩ (by decide) (by decide) ⟨rfl, rfl, it_ok_r h⟩
set_option maxRecDepth 50000 in
theorem mp_java_lang_StringLatin1_38 : Cond.methodLink "java/lang/StringLatin1" 38 Lib.Math.min.name ∈ it_tb ∧ Cond.static Lib.Math.min.name ∈ it_tb ∧ Cond.initialized "java/lang/Math" ∈ it_tb ∧ Cond.code Lib.Math.min.name Lib.Math.min.code 2 (some .int) ∈ it_tb := ⟨it_in_tb (List.mem_of_getElem? (i := 312) (by decide +kernel)) rfl, it_in_tb (List.mem_of_getElem? (i := 313) (by decide +kernel)) rfl, it_in_tb (List.mem_of_getElem? (i := 64) (by decide +kernel)) rfl, it_in_tb (List.mem_of_getElem? (i := 314) (by decide +kernel)) rfl⟩
set_option maxRecDepth 50000 in
theorem mp_java_lang_StringLatin1_92 : Cond.methodLink "java/lang/StringLatin1" 92 Lib.Math.max.name ∈ it_tb ∧ Cond.static Lib.Math.max.name ∈ it_tb ∧ Cond.initialized "java/lang/Math" ∈ it_tb ∧ Cond.code Lib.Math.max.name Lib.Math.max.code 2 (some .int) ∈ it_tb := ⟨it_in_tb (List.mem_of_getElem? (i := 309) (by decide +kernel)) rfl, it_in_tb (List.mem_of_getElem? (i := 310) (by decide +kernel)) rfl, it_in_tb (List.mem_of_getElem? (i := 64) (by decide +kernel)) rfl, it_in_tb (List.mem_of_getElem? (i := 311) (by decide +kernel)) rfl⟩
