theorem d_X0_hasGuest_0 : decode prog_2_method_3_code 0 = .ok (.iload_n 1, 1) := by decide +kernel
theorem d_X0_hasGuest_1 : decode prog_2_method_3_code 1 = .ok (.ifCond .lt 15, 3) := by decide +kernel
theorem d_X0_hasGuest_4 : decode prog_2_method_3_code 4 = .ok (.iload_n 1, 1) := by decide +kernel
theorem d_X0_hasGuest_5 : decode prog_2_method_3_code 5 = .ok (.aload_n 0, 1) := by decide +kernel
theorem d_X0_hasGuest_6 : decode prog_2_method_3_code 6 = .ok (.getfield 43, 3) := by decide +kernel
theorem d_X0_hasGuest_9 : decode prog_2_method_3_code 9 = .ok (.if_icmp .ge 7, 3) := by decide +kernel
theorem d_X0_hasGuest_12 : decode prog_2_method_3_code 12 = .ok (.iconst 1, 1) := by decide +kernel
theorem d_X0_hasGuest_13 : decode prog_2_method_3_code 13 = .ok (.goto 4, 3) := by decide +kernel
theorem d_X0_hasGuest_16 : decode prog_2_method_3_code 16 = .ok (.iconst 0, 1) := by decide +kernel
theorem d_X0_hasGuest_17 : decode prog_2_method_3_code 17 = .ok (.ireturn, 1) := by decide +kernel
def f_X0_hasGuest (κ : it_KK) (u : Nat) (x1 : Int32) (S : it_SS) : Option (Int32 × it_SS) :=
if x1 < 0 then
some (0, S)
else
if (S u 1) ≤ x1 then
some (0, S)
else
some (1, S)
set_option maxHeartbeats 4000000 in
set_option maxRecDepth 100000 in
theorem L_X0_hasGuest {g : it_G} {l : Launch} {κ : it_KK} {u : Nat} {x1 : Int32} (hb : it_wb κ) (hh : it_hs κ u) {S : it_SS} {P : Int32 → it_SS → Prop} (h : it_ok (f_X0_hasGuest κ u x1 S) P) : it_Cn g l 1 it_m_X0_hasGuest [.ref u, .int x1] κ S (it_pi κ P) := by
  refine it_Cn.of (by decide +kernel) (Nat.le_of_ble_eq_true rfl) ?_
  rw [f_X0_hasGuest] at h
  show it_Ev g l 1 it_m_X0_hasGuest 0 0 0 [some (.ref u), some (.int x1)] [] κ S (it_pi κ P)
  refine ev_iload_n d_X0_hasGuest_0 rfl ?_
  refine ev_if_lt (tgt := 16) d_X0_hasGuest_1 (by decide) (fun hc1 => ?_) (fun hc1 => ?_)
  · have h := it_ok_t h hc1
    refine ev_iconst d_X0_hasGuest_16 kv_iconst_0 ?_
    exact ev_ret (v := some (.int _)) ⟨d_X0_hasGuest_17, _, rfl, rfl⟩ (by decide) (by decide) ⟨rfl, _, rfl, it_ok_r h⟩
  · have h := it_ok_f h hc1
    refine ev_iload_n d_X0_hasGuest_4 rfl ?_
    refine ev_aload_n d_X0_hasGuest_5 rfl ?_
    refine ev_getI d_X0_hasGuest_6 fl_IcedTooSoon_House_43 (hh).1 rfl ?_
    refine ev_icmp_ge (tgt := 16) d_X0_hasGuest_9 (by decide) (fun hc2 => ?_) (fun hc2 => ?_)
    · have h := it_ok_t h hc2
      refine ev_iconst d_X0_hasGuest_16 kv_iconst_0 ?_
      exact ev_ret (v := some (.int _)) ⟨d_X0_hasGuest_17, _, rfl, rfl⟩ (by decide) (by decide) ⟨rfl, _, rfl, it_ok_r h⟩
    · have h := it_ok_f h hc2
      refine ev_iconst d_X0_hasGuest_12 kv_iconst_1 ?_
      refine ev_goto (tgt := 17) d_X0_hasGuest_13 (by decide) ?_
      exact ev_ret (v := some (.int _)) ⟨d_X0_hasGuest_17, _, rfl, rfl⟩ (by decide) (by decide) ⟨rfl, _, rfl, it_ok_r h⟩
theorem d_X0_hasGlass_0 : decode prog_2_method_4_code 0 = .ok (.iload_n 1, 1) := by decide +kernel
theorem d_X0_hasGlass_1 : decode prog_2_method_4_code 1 = .ok (.ifCond .lt 26, 3) := by decide +kernel
theorem d_X0_hasGlass_4 : decode prog_2_method_4_code 4 = .ok (.iload_n 1, 1) := by decide +kernel
theorem d_X0_hasGlass_5 : decode prog_2_method_4_code 5 = .ok (.bipush 10, 2) := by decide +kernel
theorem d_X0_hasGlass_7 : decode prog_2_method_4_code 7 = .ok (.if_icmp .ge 20, 3) := by decide +kernel
theorem d_X0_hasGlass_10 : decode prog_2_method_4_code 10 = .ok (.aload_n 0, 1) := by decide +kernel
theorem d_X0_hasGlass_11 : decode prog_2_method_4_code 11 = .ok (.aload_n 0, 1) := by decide +kernel
theorem d_X0_hasGlass_12 : decode prog_2_method_4_code 12 = .ok (.getfield 24, 3) := by decide +kernel
theorem d_X0_hasGlass_15 : decode prog_2_method_4_code 15 = .ok (.iload_n 1, 1) := by decide +kernel
theorem d_X0_hasGlass_16 : decode prog_2_method_4_code 16 = .ok (.iaload, 1) := by decide +kernel
theorem d_X0_hasGlass_17 : decode prog_2_method_4_code 17 = .ok (.invokevirtual 59, 3) := by decide +kernel
theorem d_X0_hasGlass_20 : decode prog_2_method_4_code 20 = .ok (.ifCond .eq 7, 3) := by decide +kernel
theorem d_X0_hasGlass_23 : decode prog_2_method_4_code 23 = .ok (.iconst 1, 1) := by decide +kernel
theorem d_X0_hasGlass_24 : decode prog_2_method_4_code 24 = .ok (.goto 4, 3) := by decide +kernel
theorem d_X0_hasGlass_27 : decode prog_2_method_4_code 27 = .ok (.iconst 0, 1) := by decide +kernel
theorem d_X0_hasGlass_28 : decode prog_2_method_4_code 28 = .ok (.ireturn, 1) := by decide +kernel
def f_X0_hasGlass (κ : it_KK) (u : Nat) (x1 : Int32) (S : it_SS) : Option (Int32 × it_SS) :=
if x1 < 0 then
some (0, S)
else
if 10 ≤ x1 then
some (0, S)
else
if it_bd x1 10 = true then
it_bi (f_X0_hasGuest κ u (S (u + 5) (x1 : Int32).toNatClampNeg) S) (fun r5 S4 =>
if r5 = 0 then
some (0, S4)
else
some (1, S4))
else none
set_option maxHeartbeats 4000000 in
set_option maxRecDepth 100000 in
theorem L_X0_hasGlass {g : it_G} {l : Launch} {κ : it_KK} {u : Nat} {x1 : Int32} (hb : it_wb κ) (hh : it_hs κ u) {S : it_SS} {P : Int32 → it_SS → Prop} (h : it_ok (f_X0_hasGlass κ u x1 S) P) : it_Cn g l 2 it_m_X0_hasGlass [.ref u, .int x1] κ S (it_pi κ P) := by
  refine it_Cn.of (by decide +kernel) (Nat.le_of_ble_eq_true rfl) ?_
  rw [f_X0_hasGlass] at h
  show it_Ev g l 2 it_m_X0_hasGlass 0 0 0 [some (.ref u), some (.int x1)] [] κ S (it_pi κ P)
  refine ev_iload_n d_X0_hasGlass_0 rfl ?_
  refine ev_if_lt (tgt := 27) d_X0_hasGlass_1 (by decide) (fun hc1 => ?_) (fun hc1 => ?_)
  · have h := it_ok_t h hc1
    refine ev_iconst d_X0_hasGlass_27 kv_iconst_0 ?_
    exact ev_ret (v := some (.int _)) ⟨d_X0_hasGlass_28, _, rfl, rfl⟩ (by decide) (by decide) ⟨rfl, _, rfl, it_ok_r h⟩
  · have h := it_ok_f h hc1
    refine ev_iload_n d_X0_hasGlass_4 rfl ?_
    refine ev_bipush d_X0_hasGlass_5 kv_bipush_10 ?_
    refine ev_icmp_ge (tgt := 27) d_X0_hasGlass_7 (by decide) (fun hc2 => ?_) (fun hc2 => ?_)
    · have h := it_ok_t h hc2
      refine ev_iconst d_X0_hasGlass_27 kv_iconst_0 ?_
      exact ev_ret (v := some (.int _)) ⟨d_X0_hasGlass_28, _, rfl, rfl⟩ (by decide) (by decide) ⟨rfl, _, rfl, it_ok_r h⟩
    · have h := it_ok_f h hc2
      refine ev_aload_n d_X0_hasGlass_10 rfl ?_
      refine ev_aload_n d_X0_hasGlass_11 rfl ?_
      refine ev_getRr (r := (u + 5)) rfl d_X0_hasGlass_12 fl_IcedTooSoon_House_24 (hh).1 rfl ?_
      refine ev_iload_n d_X0_hasGlass_15 rfl ?_
      obtain ⟨hb3, h⟩ := it_ok_g h
      refine ev_iald d_X0_hasGlass_16 (hh).2.2.2.2.2.1 (it_bd_in hb3) ?_
      refine ev_callV (ci := 0) (b := u) (M' := it_m_X0_hasGuest) (d' := 1) (As := [.int (S (u + 5) (x1 : Int32).toNatClampNeg)]) d_X0_hasGlass_17 ml_IcedTooSoon_House_59 (hh).1.1 (hh).1.2.1 ⟨_, rfl, rfl⟩ rfl rfl (Nat.le_of_ble_eq_true rfl) (by decide) (by decide) (by decide) (L_X0_hasGuest hb hh (it_ok_b h)) (fun _ _ _ _ q => by cases q.1; rfl) ?_
      rintro _ _ S4 ⟨rfl, r5, rfl, h⟩
      show it_Ev g l 2 it_m_X0_hasGlass 0 0 20 [some (.ref u), some (.int x1)] [.int r5] κ S4 (it_pi κ P)
      refine ev_if_eq (tgt := 27) d_X0_hasGlass_20 (by decide) (fun hc6 => ?_) (fun hc6 => ?_)
      · have h := it_ok_t h hc6
        refine ev_iconst d_X0_hasGlass_27 kv_iconst_0 ?_
        exact ev_ret (v := some (.int _)) ⟨d_X0_hasGlass_28, _, rfl, rfl⟩ (by decide) (by decide) ⟨rfl, _, rfl, it_ok_r h⟩
      · have h := it_ok_f h hc6
        refine ev_iconst d_X0_hasGlass_23 kv_iconst_1 ?_
        refine ev_goto (tgt := 28) d_X0_hasGlass_24 (by decide) ?_
        exact ev_ret (v := some (.int _)) ⟨d_X0_hasGlass_28, _, rfl, rfl⟩ (by decide) (by decide) ⟨rfl, _, rfl, it_ok_r h⟩
theorem d_X0_glassesThere_0 : decode prog_2_method_5_code 0 = .ok (.iconst 0, 1) := by decide +kernel
theorem d_X0_glassesThere_1 : decode prog_2_method_5_code 1 = .ok (.istore_n 1, 1) := by decide +kernel
theorem d_X0_glassesThere_2 : decode prog_2_method_5_code 2 = .ok (.iconst 0, 1) := by decide +kernel
theorem d_X0_glassesThere_3 : decode prog_2_method_5_code 3 = .ok (.istore_n 2, 1) := by decide +kernel
theorem d_X0_glassesThere_4 : decode prog_2_method_5_code 4 = .ok (.iload_n 2, 1) := by decide +kernel
theorem d_X0_glassesThere_5 : decode prog_2_method_5_code 5 = .ok (.bipush 10, 2) := by decide +kernel
theorem d_X0_glassesThere_7 : decode prog_2_method_5_code 7 = .ok (.if_icmp .ge 20, 3) := by decide +kernel
theorem d_X0_glassesThere_10 : decode prog_2_method_5_code 10 = .ok (.aload_n 0, 1) := by decide +kernel
theorem d_X0_glassesThere_11 : decode prog_2_method_5_code 11 = .ok (.iload_n 2, 1) := by decide +kernel
theorem d_X0_glassesThere_12 : decode prog_2_method_5_code 12 = .ok (.invokevirtual 63, 3) := by decide +kernel
theorem d_X0_glassesThere_15 : decode prog_2_method_5_code 15 = .ok (.ifCond .eq 6, 3) := by decide +kernel
theorem d_X0_glassesThere_18 : decode prog_2_method_5_code 18 = .ok (.iinc 1 1, 3) := by decide +kernel
theorem d_X0_glassesThere_21 : decode prog_2_method_5_code 21 = .ok (.iinc 2 1, 3) := by decide +kernel
theorem d_X0_glassesThere_24 : decode prog_2_method_5_code 24 = .ok (.goto (-20), 3) := by decide +kernel
theorem d_X0_glassesThere_27 : decode prog_2_method_5_code 27 = .ok (.iload_n 1, 1) := by decide +kernel
theorem d_X0_glassesThere_28 : decode prog_2_method_5_code 28 = .ok (.ireturn, 1) := by decide +kernel
def lp_X0_glassesThere_4 (κ : it_KK) (u : Nat) (k4 : (Int32 → it_SS → Option (Int32 × it_SS))) : Nat → Int32 → Int32 → it_SS → Option (Int32 × it_SS)
  | 0, _, _, _ => none
  | n4 + 1, v1, v2, S => if 10 ≤ v2 then
k4 v1 S
else
it_bi (f_X0_hasGlass κ u v2 S) (fun r3 S2 =>
if r3 = 0 then
lp_X0_glassesThere_4 κ u k4 n4 v1 (v2 + 1) S2
else
lp_X0_glassesThere_4 κ u k4 n4 (v1 + 1) (v2 + 1) S2)
def f_X0_glassesThere (κ : it_KK) (u : Nat) (S : it_SS) : Option (Int32 × it_SS) :=
lp_X0_glassesThere_4 κ u (fun v5 S6 =>
some (v5, S6)) it_FU 0 0 S
set_option maxHeartbeats 4000000 in
set_option maxRecDepth 100000 in
theorem Llp_X0_glassesThere_4 {g : it_G} {l : Launch} {κ : it_KK} {u : Nat} (hb : it_wb κ) (hh : it_hs κ u) {P : Int32 → it_SS → Prop} {k4 : (Int32 → it_SS → Option (Int32 × it_SS))} (hk4 : ∀ (v1 : Int32) (S : it_SS), it_ok (k4 v1 S) P → it_Ev g l 3 it_m_X0_glassesThere 0 0 27 [none, some (.int v1), none] [] κ S (it_pi κ P)) : ∀ (n : Nat) (v1 : Int32) (v2 : Int32) (S : it_SS), it_ok (lp_X0_glassesThere_4 κ u k4 n v1 v2 S) P → it_Ev g l 3 it_m_X0_glassesThere 0 0 4 [some (.ref u), some (.int v1), some (.int v2)] [] κ S (it_pi κ P) := by
  intro n
  induction n with
  | zero =>
    intro _ _ _ h
    exact (it_ok_n h).elim
  | succ n4 ih4 =>
    intro v1 v2 S h
    rw [lp_X0_glassesThere_4] at h
    refine ev_iload_n d_X0_glassesThere_4 rfl ?_
    refine ev_bipush d_X0_glassesThere_5 kv_bipush_10 ?_
    refine ev_icmp_ge (tgt := 27) d_X0_glassesThere_7 (by decide) (fun hc1 => ?_) (fun hc1 => ?_)
    · have h := it_ok_t h hc1
      refine ev_keep [false, true, false] ?_
      exact hk4 _ _ h
    · have h := it_ok_f h hc1
      refine ev_aload_n d_X0_glassesThere_10 rfl ?_
      refine ev_iload_n d_X0_glassesThere_11 rfl ?_
      refine ev_callV (ci := 0) (b := u) (M' := it_m_X0_hasGlass) (d' := 2) (As := [.int v2]) d_X0_glassesThere_12 ml_IcedTooSoon_House_63 (hh).1.1 (hh).1.2.1 ⟨_, rfl, rfl⟩ rfl rfl (Nat.le_of_ble_eq_true rfl) (by decide) (by decide) (by decide) (L_X0_hasGlass hb hh (it_ok_b h)) (fun _ _ _ _ q => by cases q.1; rfl) ?_
      rintro _ _ S2 ⟨rfl, r3, rfl, h⟩
      show it_Ev g l 3 it_m_X0_glassesThere 0 0 15 [some (.ref u), some (.int v1), some (.int v2)] [.int r3] κ S2 (it_pi κ P)
      refine ev_if_eq (tgt := 21) d_X0_glassesThere_15 (by decide) (fun hc4 => ?_) (fun hc4 => ?_)
      · have h := it_ok_t h hc4
        refine ev_iinc d_X0_glassesThere_21 kv_iconst_1 rfl (by decide) ?_
        show it_Ev g l 3 it_m_X0_glassesThere 0 0 24 [some (.ref u), some (.int v1), some (.int (v2 + 1))] [] κ S2 (it_pi κ P)
        refine ev_goto (tgt := 4) d_X0_glassesThere_24 (by decide) ?_
        refine ev_keep [true, true, true] ?_
        exact ih4 _ _ _ h
      · have h := it_ok_f h hc4
        refine ev_iinc d_X0_glassesThere_18 kv_iconst_1 rfl (by decide) ?_
        show it_Ev g l 3 it_m_X0_glassesThere 0 0 21 [some (.ref u), some (.int (v1 + 1)), some (.int v2)] [] κ S2 (it_pi κ P)
        refine ev_iinc d_X0_glassesThere_21 kv_iconst_1 rfl (by decide) ?_
        show it_Ev g l 3 it_m_X0_glassesThere 0 0 24 [some (.ref u), some (.int (v1 + 1)), some (.int (v2 + 1))] [] κ S2 (it_pi κ P)
        refine ev_goto (tgt := 4) d_X0_glassesThere_24 (by decide) ?_
        refine ev_keep [true, true, true] ?_
        exact ih4 _ _ _ h
set_option maxHeartbeats 4000000 in
set_option maxRecDepth 100000 in
theorem L_X0_glassesThere {g : it_G} {l : Launch} {κ : it_KK} {u : Nat} (hb : it_wb κ) (hh : it_hs κ u) {S : it_SS} {P : Int32 → it_SS → Prop} (h : it_ok (f_X0_glassesThere κ u S) P) : it_Cn g l 3 it_m_X0_glassesThere [.ref u] κ S (it_pi κ P) := by
  refine it_Cn.of (by decide +kernel) (Nat.le_of_ble_eq_true rfl) ?_
  rw [f_X0_glassesThere] at h
  show it_Ev g l 3 it_m_X0_glassesThere 0 0 0 [some (.ref u), none, none] [] κ S (it_pi κ P)
  refine ev_iconst d_X0_glassesThere_0 kv_iconst_0 ?_
  refine ev_istore_n d_X0_glassesThere_1 (by decide) ?_
  show it_Ev g l 3 it_m_X0_glassesThere 0 0 2 [some (.ref u), some (.int 0), none] [] κ S (it_pi κ P)
  refine ev_iconst d_X0_glassesThere_2 kv_iconst_0 ?_
  refine ev_istore_n d_X0_glassesThere_3 (by decide) ?_
  show it_Ev g l 3 it_m_X0_glassesThere 0 0 4 [some (.ref u), some (.int 0), some (.int 0)] [] κ S (it_pi κ P)
  refine ev_keep [true, true, true] ?_
  refine Llp_X0_glassesThere_4 hb hh (fun v5 S6 h => ?_) _ _ _ _ h
  show it_Ev g l 3 it_m_X0_glassesThere 0 0 27 [none, some (.int v5), none] [] κ S6 (it_pi κ P)
  refine ev_iload_n d_X0_glassesThere_27 rfl ?_
  exact ev_ret (v := some (.int _)) ⟨d_X0_glassesThere_28, _, rfl, rfl⟩ (by decide) (by decide) ⟨rfl, _, rfl, it_ok_r h⟩
theorem d_X0_glassesOf_0 : decode prog_2_method_6_code 0 = .ok (.iconst 0, 1) := by decide +kernel
theorem d_X0_glassesOf_1 : decode prog_2_method_6_code 1 = .ok (.istore_n 2, 1) := by decide +kernel
theorem d_X0_glassesOf_2 : decode prog_2_method_6_code 2 = .ok (.iconst 0, 1) := by decide +kernel
theorem d_X0_glassesOf_3 : decode prog_2_method_6_code 3 = .ok (.istore_n 3, 1) := by decide +kernel
theorem d_X0_glassesOf_4 : decode prog_2_method_6_code 4 = .ok (.iload_n 3, 1) := by decide +kernel
theorem d_X0_glassesOf_5 : decode prog_2_method_6_code 5 = .ok (.bipush 10, 2) := by decide +kernel
theorem d_X0_glassesOf_7 : decode prog_2_method_6_code 7 = .ok (.if_icmp .ge 33, 3) := by decide +kernel
theorem d_X0_glassesOf_10 : decode prog_2_method_6_code 10 = .ok (.aload_n 0, 1) := by decide +kernel
theorem d_X0_glassesOf_11 : decode prog_2_method_6_code 11 = .ok (.iload_n 3, 1) := by decide +kernel
theorem d_X0_glassesOf_12 : decode prog_2_method_6_code 12 = .ok (.invokevirtual 63, 3) := by decide +kernel
theorem d_X0_glassesOf_15 : decode prog_2_method_6_code 15 = .ok (.ifCond .eq 19, 3) := by decide +kernel
theorem d_X0_glassesOf_18 : decode prog_2_method_6_code 18 = .ok (.aload_n 0, 1) := by decide +kernel
theorem d_X0_glassesOf_19 : decode prog_2_method_6_code 19 = .ok (.getfield 24, 3) := by decide +kernel
theorem d_X0_glassesOf_22 : decode prog_2_method_6_code 22 = .ok (.iload_n 3, 1) := by decide +kernel
theorem d_X0_glassesOf_23 : decode prog_2_method_6_code 23 = .ok (.iaload, 1) := by decide +kernel
theorem d_X0_glassesOf_24 : decode prog_2_method_6_code 24 = .ok (.iload_n 1, 1) := by decide +kernel
theorem d_X0_glassesOf_25 : decode prog_2_method_6_code 25 = .ok (.if_icmp .ne 9, 3) := by decide +kernel
theorem d_X0_glassesOf_28 : decode prog_2_method_6_code 28 = .ok (.iload_n 2, 1) := by decide +kernel
theorem d_X0_glassesOf_29 : decode prog_2_method_6_code 29 = .ok (.iconst 1, 1) := by decide +kernel
theorem d_X0_glassesOf_30 : decode prog_2_method_6_code 30 = .ok (.iload_n 3, 1) := by decide +kernel
theorem d_X0_glassesOf_31 : decode prog_2_method_6_code 31 = .ok (.ishl, 1) := by decide +kernel
theorem d_X0_glassesOf_32 : decode prog_2_method_6_code 32 = .ok (.ior, 1) := by decide +kernel
theorem d_X0_glassesOf_33 : decode prog_2_method_6_code 33 = .ok (.istore_n 2, 1) := by decide +kernel
theorem d_X0_glassesOf_34 : decode prog_2_method_6_code 34 = .ok (.iinc 3 1, 3) := by decide +kernel
theorem d_X0_glassesOf_37 : decode prog_2_method_6_code 37 = .ok (.goto (-33), 3) := by decide +kernel
theorem d_X0_glassesOf_40 : decode prog_2_method_6_code 40 = .ok (.iload_n 2, 1) := by decide +kernel
theorem d_X0_glassesOf_41 : decode prog_2_method_6_code 41 = .ok (.ireturn, 1) := by decide +kernel
def lp_X0_glassesOf_4 (κ : it_KK) (u : Nat) (x1 : Int32) (k4 : (Int32 → it_SS → Option (Int32 × it_SS))) : Nat → Int32 → Int32 → it_SS → Option (Int32 × it_SS)
  | 0, _, _, _ => none
  | n4 + 1, v2, v3, S => if 10 ≤ v3 then
k4 v2 S
else
it_bi (f_X0_hasGlass κ u v3 S) (fun r3 S2 =>
if r3 = 0 then
lp_X0_glassesOf_4 κ u x1 k4 n4 v2 (v3 + 1) S2
else
if it_bd v3 10 = true then
if (S2 (u + 5) (v3 : Int32).toNatClampNeg) = x1 then
lp_X0_glassesOf_4 κ u x1 k4 n4 (v2 ||| (1 <<< (v3 &&& 31))) (v3 + 1) S2
else
lp_X0_glassesOf_4 κ u x1 k4 n4 v2 (v3 + 1) S2
else none)
def f_X0_glassesOf (κ : it_KK) (u : Nat) (x1 : Int32) (S : it_SS) : Option (Int32 × it_SS) :=
lp_X0_glassesOf_4 κ u x1 (fun v7 S8 =>
some (v7, S8)) it_FU 0 0 S
set_option maxHeartbeats 4000000 in
set_option maxRecDepth 100000 in
theorem Llp_X0_glassesOf_4 {g : it_G} {l : Launch} {κ : it_KK} {u : Nat} {x1 : Int32} (hb : it_wb κ) (hh : it_hs κ u) {P : Int32 → it_SS → Prop} {k4 : (Int32 → it_SS → Option (Int32 × it_SS))} (hk4 : ∀ (v2 : Int32) (S : it_SS), it_ok (k4 v2 S) P → it_Ev g l 3 it_m_X0_glassesOf 0 0 40 [none, none, some (.int v2), none] [] κ S (it_pi κ P)) : ∀ (n : Nat) (v2 : Int32) (v3 : Int32) (S : it_SS), it_ok (lp_X0_glassesOf_4 κ u x1 k4 n v2 v3 S) P → it_Ev g l 3 it_m_X0_glassesOf 0 0 4 [some (.ref u), some (.int x1), some (.int v2), some (.int v3)] [] κ S (it_pi κ P) := by
  intro n
  induction n with
  | zero =>
    intro _ _ _ h
    exact (it_ok_n h).elim
  | succ n4 ih4 =>
    intro v2 v3 S h
    rw [lp_X0_glassesOf_4] at h
    refine ev_iload_n d_X0_glassesOf_4 rfl ?_
    refine ev_bipush d_X0_glassesOf_5 kv_bipush_10 ?_
    refine ev_icmp_ge (tgt := 40) d_X0_glassesOf_7 (by decide) (fun hc1 => ?_) (fun hc1 => ?_)
    · have h := it_ok_t h hc1
      refine ev_keep [false, false, true, false] ?_
      exact hk4 _ _ h
    · have h := it_ok_f h hc1
      refine ev_aload_n d_X0_glassesOf_10 rfl ?_
      refine ev_iload_n d_X0_glassesOf_11 rfl ?_
      refine ev_callV (ci := 0) (b := u) (M' := it_m_X0_hasGlass) (d' := 2) (As := [.int v3]) d_X0_glassesOf_12 ml_IcedTooSoon_House_63 (hh).1.1 (hh).1.2.1 ⟨_, rfl, rfl⟩ rfl rfl (Nat.le_of_ble_eq_true rfl) (by decide) (by decide) (by decide) (L_X0_hasGlass hb hh (it_ok_b h)) (fun _ _ _ _ q => by cases q.1; rfl) ?_
      rintro _ _ S2 ⟨rfl, r3, rfl, h⟩
      show it_Ev g l 3 it_m_X0_glassesOf 0 0 15 [some (.ref u), some (.int x1), some (.int v2), some (.int v3)] [.int r3] κ S2 (it_pi κ P)
      refine ev_if_eq (tgt := 34) d_X0_glassesOf_15 (by decide) (fun hc4 => ?_) (fun hc4 => ?_)
      · have h := it_ok_t h hc4
        refine ev_iinc d_X0_glassesOf_34 kv_iconst_1 rfl (by decide) ?_
        show it_Ev g l 3 it_m_X0_glassesOf 0 0 37 [some (.ref u), some (.int x1), some (.int v2), some (.int (v3 + 1))] [] κ S2 (it_pi κ P)
        refine ev_goto (tgt := 4) d_X0_glassesOf_37 (by decide) ?_
        refine ev_keep [true, true, true, true] ?_
        exact ih4 _ _ _ h
      · have h := it_ok_f h hc4
        refine ev_aload_n d_X0_glassesOf_18 rfl ?_
        refine ev_getRr (r := (u + 5)) rfl d_X0_glassesOf_19 fl_IcedTooSoon_House_24 (hh).1 rfl ?_
        refine ev_iload_n d_X0_glassesOf_22 rfl ?_
        obtain ⟨hb5, h⟩ := it_ok_g h
        refine ev_iald d_X0_glassesOf_23 (hh).2.2.2.2.2.1 (it_bd_in hb5) ?_
        refine ev_iload_n d_X0_glassesOf_24 rfl ?_
        refine ev_icmp_ne (tgt := 34) d_X0_glassesOf_25 (by decide) (fun hc6 => ?_) (fun hc6 => ?_)
        · have h := it_ok_f h hc6
          refine ev_iinc d_X0_glassesOf_34 kv_iconst_1 rfl (by decide) ?_
          show it_Ev g l 3 it_m_X0_glassesOf 0 0 37 [some (.ref u), some (.int x1), some (.int v2), some (.int (v3 + 1))] [] κ S2 (it_pi κ P)
          refine ev_goto (tgt := 4) d_X0_glassesOf_37 (by decide) ?_
          refine ev_keep [true, true, true, true] ?_
          exact ih4 _ _ _ h
        · have h := it_ok_t h hc6
          refine ev_iload_n d_X0_glassesOf_28 rfl ?_
          refine ev_iconst d_X0_glassesOf_29 kv_iconst_1 ?_
          refine ev_iload_n d_X0_glassesOf_30 rfl ?_
          refine ev_ishl d_X0_glassesOf_31 ?_
          refine ev_ior d_X0_glassesOf_32 ?_
          refine ev_istore_n d_X0_glassesOf_33 (by decide) ?_
          show it_Ev g l 3 it_m_X0_glassesOf 0 0 34 [some (.ref u), some (.int x1), some (.int (v2 ||| (1 <<< (v3 &&& 31)))), some (.int v3)] [] κ S2 (it_pi κ P)
          refine ev_iinc d_X0_glassesOf_34 kv_iconst_1 rfl (by decide) ?_
          show it_Ev g l 3 it_m_X0_glassesOf 0 0 37 [some (.ref u), some (.int x1), some (.int (v2 ||| (1 <<< (v3 &&& 31)))), some (.int (v3 + 1))] [] κ S2 (it_pi κ P)
          refine ev_goto (tgt := 4) d_X0_glassesOf_37 (by decide) ?_
          refine ev_keep [true, true, true, true] ?_
          exact ih4 _ _ _ h
set_option maxHeartbeats 4000000 in
set_option maxRecDepth 100000 in
theorem L_X0_glassesOf {g : it_G} {l : Launch} {κ : it_KK} {u : Nat} {x1 : Int32} (hb : it_wb κ) (hh : it_hs κ u) {S : it_SS} {P : Int32 → it_SS → Prop} (h : it_ok (f_X0_glassesOf κ u x1 S) P) : it_Cn g l 3 it_m_X0_glassesOf [.ref u, .int x1] κ S (it_pi κ P) := by
  refine it_Cn.of (by decide +kernel) (Nat.le_of_ble_eq_true rfl) ?_
  rw [f_X0_glassesOf] at h
  show it_Ev g l 3 it_m_X0_glassesOf 0 0 0 [some (.ref u), some (.int x1), none, none] [] κ S (it_pi κ P)
  refine ev_iconst d_X0_glassesOf_0 kv_iconst_0 ?_
  refine ev_istore_n d_X0_glassesOf_1 (by decide) ?_
  show it_Ev g l 3 it_m_X0_glassesOf 0 0 2 [some (.ref u), some (.int x1), some (.int 0), none] [] κ S (it_pi κ P)
  refine ev_iconst d_X0_glassesOf_2 kv_iconst_0 ?_
  refine ev_istore_n d_X0_glassesOf_3 (by decide) ?_
  show it_Ev g l 3 it_m_X0_glassesOf 0 0 4 [some (.ref u), some (.int x1), some (.int 0), some (.int 0)] [] κ S (it_pi κ P)
  refine ev_keep [true, true, true, true] ?_
  refine Llp_X0_glassesOf_4 hb hh (fun v7 S8 h => ?_) _ _ _ _ h
  show it_Ev g l 3 it_m_X0_glassesOf 0 0 40 [none, none, some (.int v7), none] [] κ S8 (it_pi κ P)
  refine ev_iload_n d_X0_glassesOf_40 rfl ?_
  exact ev_ret (v := some (.int _)) ⟨d_X0_glassesOf_41, _, rfl, rfl⟩ (by decide) (by decide) ⟨rfl, _, rfl, it_ok_r h⟩
theorem d_X0_guestsBelow_0 : decode prog_2_method_7_code 0 = .ok (.iconst 0, 1) := by decide +kernel
theorem d_X0_guestsBelow_1 : decode prog_2_method_7_code 1 = .ok (.istore_n 2, 1) := by decide +kernel
theorem d_X0_guestsBelow_2 : decode prog_2_method_7_code 2 = .ok (.iconst 0, 1) := by decide +kernel
theorem d_X0_guestsBelow_3 : decode prog_2_method_7_code 3 = .ok (.istore_n 3, 1) := by decide +kernel
theorem d_X0_guestsBelow_4 : decode prog_2_method_7_code 4 = .ok (.iload_n 3, 1) := by decide +kernel
theorem d_X0_guestsBelow_5 : decode prog_2_method_7_code 5 = .ok (.aload_n 0, 1) := by decide +kernel
theorem d_X0_guestsBelow_6 : decode prog_2_method_7_code 6 = .ok (.getfield 43, 3) := by decide +kernel
theorem d_X0_guestsBelow_9 : decode prog_2_method_7_code 9 = .ok (.if_icmp .ge 25, 3) := by decide +kernel
theorem d_X0_guestsBelow_12 : decode prog_2_method_7_code 12 = .ok (.aload_n 0, 1) := by decide +kernel
theorem d_X0_guestsBelow_13 : decode prog_2_method_7_code 13 = .ok (.getfield 18, 3) := by decide +kernel
theorem d_X0_guestsBelow_16 : decode prog_2_method_7_code 16 = .ok (.iload_n 3, 1) := by decide +kernel
theorem d_X0_guestsBelow_17 : decode prog_2_method_7_code 17 = .ok (.iaload, 1) := by decide +kernel
theorem d_X0_guestsBelow_18 : decode prog_2_method_7_code 18 = .ok (.iload_n 1, 1) := by decide +kernel
theorem d_X0_guestsBelow_19 : decode prog_2_method_7_code 19 = .ok (.if_icmp .ge 9, 3) := by decide +kernel
theorem d_X0_guestsBelow_22 : decode prog_2_method_7_code 22 = .ok (.iload_n 2, 1) := by decide +kernel
theorem d_X0_guestsBelow_23 : decode prog_2_method_7_code 23 = .ok (.iconst 1, 1) := by decide +kernel
theorem d_X0_guestsBelow_24 : decode prog_2_method_7_code 24 = .ok (.iload_n 3, 1) := by decide +kernel
theorem d_X0_guestsBelow_25 : decode prog_2_method_7_code 25 = .ok (.ishl, 1) := by decide +kernel
theorem d_X0_guestsBelow_26 : decode prog_2_method_7_code 26 = .ok (.ior, 1) := by decide +kernel
theorem d_X0_guestsBelow_27 : decode prog_2_method_7_code 27 = .ok (.istore_n 2, 1) := by decide +kernel
theorem d_X0_guestsBelow_28 : decode prog_2_method_7_code 28 = .ok (.iinc 3 1, 3) := by decide +kernel
theorem d_X0_guestsBelow_31 : decode prog_2_method_7_code 31 = .ok (.goto (-27), 3) := by decide +kernel
theorem d_X0_guestsBelow_34 : decode prog_2_method_7_code 34 = .ok (.iload_n 2, 1) := by decide +kernel
theorem d_X0_guestsBelow_35 : decode prog_2_method_7_code 35 = .ok (.ireturn, 1) := by decide +kernel
def lp_X0_guestsBelow_4 (κ : it_KK) (u : Nat) (x1 : Int32) (k4 : (Int32 → it_SS → Option (Int32 × it_SS))) : Nat → Int32 → Int32 → it_SS → Option (Int32 × it_SS)
  | 0, _, _, _ => none
  | n4 + 1, v2, v3, S => if (S u 1) ≤ v3 then
k4 v2 S
else
if it_bd v3 6 = true then
if x1 ≤ (S (u + 3) (v3 : Int32).toNatClampNeg) then
lp_X0_guestsBelow_4 κ u x1 k4 n4 v2 (v3 + 1) S
else
lp_X0_guestsBelow_4 κ u x1 k4 n4 (v2 ||| (1 <<< (v3 &&& 31))) (v3 + 1) S
else none
def f_X0_guestsBelow (κ : it_KK) (u : Nat) (x1 : Int32) (S : it_SS) : Option (Int32 × it_SS) :=
lp_X0_guestsBelow_4 κ u x1 (fun v4 S5 =>
some (v4, S5)) it_FU 0 0 S
set_option maxHeartbeats 4000000 in
set_option maxRecDepth 100000 in
theorem Llp_X0_guestsBelow_4 {g : it_G} {l : Launch} {κ : it_KK} {u : Nat} {x1 : Int32} (hb : it_wb κ) (hh : it_hs κ u) {P : Int32 → it_SS → Prop} {k4 : (Int32 → it_SS → Option (Int32 × it_SS))} (hk4 : ∀ (v2 : Int32) (S : it_SS), it_ok (k4 v2 S) P → it_Ev g l 1 it_m_X0_guestsBelow 0 0 34 [none, none, some (.int v2), none] [] κ S (it_pi κ P)) : ∀ (n : Nat) (v2 : Int32) (v3 : Int32) (S : it_SS), it_ok (lp_X0_guestsBelow_4 κ u x1 k4 n v2 v3 S) P → it_Ev g l 1 it_m_X0_guestsBelow 0 0 4 [some (.ref u), some (.int x1), some (.int v2), some (.int v3)] [] κ S (it_pi κ P) := by
  intro n
  induction n with
  | zero =>
    intro _ _ _ h
    exact (it_ok_n h).elim
  | succ n4 ih4 =>
    intro v2 v3 S h
    rw [lp_X0_guestsBelow_4] at h
    refine ev_iload_n d_X0_guestsBelow_4 rfl ?_
    refine ev_aload_n d_X0_guestsBelow_5 rfl ?_
    refine ev_getI d_X0_guestsBelow_6 fl_IcedTooSoon_House_43 (hh).1 rfl ?_
    refine ev_icmp_ge (tgt := 34) d_X0_guestsBelow_9 (by decide) (fun hc1 => ?_) (fun hc1 => ?_)
    · have h := it_ok_t h hc1
      refine ev_keep [false, false, true, false] ?_
      exact hk4 _ _ h
    · have h := it_ok_f h hc1
      refine ev_aload_n d_X0_guestsBelow_12 rfl ?_
      refine ev_getRr (r := (u + 3)) rfl d_X0_guestsBelow_13 fl_IcedTooSoon_House_18 (hh).1 rfl ?_
      refine ev_iload_n d_X0_guestsBelow_16 rfl ?_
      obtain ⟨hb2, h⟩ := it_ok_g h
      refine ev_iald d_X0_guestsBelow_17 (hh).2.2.2.1 (it_bd_in hb2) ?_
      refine ev_iload_n d_X0_guestsBelow_18 rfl ?_
      refine ev_icmp_ge (tgt := 28) d_X0_guestsBelow_19 (by decide) (fun hc3 => ?_) (fun hc3 => ?_)
      · have h := it_ok_t h hc3
        refine ev_iinc d_X0_guestsBelow_28 kv_iconst_1 rfl (by decide) ?_
        show it_Ev g l 1 it_m_X0_guestsBelow 0 0 31 [some (.ref u), some (.int x1), some (.int v2), some (.int (v3 + 1))] [] κ S (it_pi κ P)
        refine ev_goto (tgt := 4) d_X0_guestsBelow_31 (by decide) ?_
        refine ev_keep [true, true, true, true] ?_
        exact ih4 _ _ _ h
      · have h := it_ok_f h hc3
        refine ev_iload_n d_X0_guestsBelow_22 rfl ?_
        refine ev_iconst d_X0_guestsBelow_23 kv_iconst_1 ?_
        refine ev_iload_n d_X0_guestsBelow_24 rfl ?_
        refine ev_ishl d_X0_guestsBelow_25 ?_
        refine ev_ior d_X0_guestsBelow_26 ?_
        refine ev_istore_n d_X0_guestsBelow_27 (by decide) ?_
        show it_Ev g l 1 it_m_X0_guestsBelow 0 0 28 [some (.ref u), some (.int x1), some (.int (v2 ||| (1 <<< (v3 &&& 31)))), some (.int v3)] [] κ S (it_pi κ P)
        refine ev_iinc d_X0_guestsBelow_28 kv_iconst_1 rfl (by decide) ?_
        show it_Ev g l 1 it_m_X0_guestsBelow 0 0 31 [some (.ref u), some (.int x1), some (.int (v2 ||| (1 <<< (v3 &&& 31)))), some (.int (v3 + 1))] [] κ S (it_pi κ P)
        refine ev_goto (tgt := 4) d_X0_guestsBelow_31 (by decide) ?_
        refine ev_keep [true, true, true, true] ?_
        exact ih4 _ _ _ h
set_option maxHeartbeats 4000000 in
set_option maxRecDepth 100000 in
theorem L_X0_guestsBelow {g : it_G} {l : Launch} {κ : it_KK} {u : Nat} {x1 : Int32} (hb : it_wb κ) (hh : it_hs κ u) {S : it_SS} {P : Int32 → it_SS → Prop} (h : it_ok (f_X0_guestsBelow κ u x1 S) P) : it_Cn g l 1 it_m_X0_guestsBelow [.ref u, .int x1] κ S (it_pi κ P) := by
  refine it_Cn.of (by decide +kernel) (Nat.le_of_ble_eq_true rfl) ?_
  rw [f_X0_guestsBelow] at h
  show it_Ev g l 1 it_m_X0_guestsBelow 0 0 0 [some (.ref u), some (.int x1), none, none] [] κ S (it_pi κ P)
  refine ev_iconst d_X0_guestsBelow_0 kv_iconst_0 ?_
  refine ev_istore_n d_X0_guestsBelow_1 (by decide) ?_
  show it_Ev g l 1 it_m_X0_guestsBelow 0 0 2 [some (.ref u), some (.int x1), some (.int 0), none] [] κ S (it_pi κ P)
  refine ev_iconst d_X0_guestsBelow_2 kv_iconst_0 ?_
  refine ev_istore_n d_X0_guestsBelow_3 (by decide) ?_
  show it_Ev g l 1 it_m_X0_guestsBelow 0 0 4 [some (.ref u), some (.int x1), some (.int 0), some (.int 0)] [] κ S (it_pi κ P)
  refine ev_keep [true, true, true, true] ?_
  refine Llp_X0_guestsBelow_4 hb hh (fun v4 S5 h => ?_) _ _ _ _ h
  show it_Ev g l 1 it_m_X0_guestsBelow 0 0 34 [none, none, some (.int v4), none] [] κ S5 (it_pi κ P)
  refine ev_iload_n d_X0_guestsBelow_34 rfl ?_
  exact ev_ret (v := some (.int _)) ⟨d_X0_guestsBelow_35, _, rfl, rfl⟩ (by decide) (by decide) ⟨rfl, _, rfl, it_ok_r h⟩
theorem d_X0_moodOfAll_0 : decode prog_2_method_8_code 0 = .ok (.iconst 0, 1) := by decide +kernel
theorem d_X0_moodOfAll_1 : decode prog_2_method_8_code 1 = .ok (.istore_n 1, 1) := by decide +kernel
theorem d_X0_moodOfAll_2 : decode prog_2_method_8_code 2 = .ok (.iconst 0, 1) := by decide +kernel
theorem d_X0_moodOfAll_3 : decode prog_2_method_8_code 3 = .ok (.istore_n 2, 1) := by decide +kernel
theorem d_X0_moodOfAll_4 : decode prog_2_method_8_code 4 = .ok (.iload_n 2, 1) := by decide +kernel
theorem d_X0_moodOfAll_5 : decode prog_2_method_8_code 5 = .ok (.aload_n 0, 1) := by decide +kernel
theorem d_X0_moodOfAll_6 : decode prog_2_method_8_code 6 = .ok (.getfield 43, 3) := by decide +kernel
theorem d_X0_moodOfAll_9 : decode prog_2_method_8_code 9 = .ok (.if_icmp .ge 18, 3) := by decide +kernel
theorem d_X0_moodOfAll_12 : decode prog_2_method_8_code 12 = .ok (.iload_n 1, 1) := by decide +kernel
theorem d_X0_moodOfAll_13 : decode prog_2_method_8_code 13 = .ok (.aload_n 0, 1) := by decide +kernel
theorem d_X0_moodOfAll_14 : decode prog_2_method_8_code 14 = .ok (.getfield 18, 3) := by decide +kernel
theorem d_X0_moodOfAll_17 : decode prog_2_method_8_code 17 = .ok (.iload_n 2, 1) := by decide +kernel
theorem d_X0_moodOfAll_18 : decode prog_2_method_8_code 18 = .ok (.iaload, 1) := by decide +kernel
theorem d_X0_moodOfAll_19 : decode prog_2_method_8_code 19 = .ok (.iadd, 1) := by decide +kernel
theorem d_X0_moodOfAll_20 : decode prog_2_method_8_code 20 = .ok (.istore_n 1, 1) := by decide +kernel
theorem d_X0_moodOfAll_21 : decode prog_2_method_8_code 21 = .ok (.iinc 2 1, 3) := by decide +kernel
theorem d_X0_moodOfAll_24 : decode prog_2_method_8_code 24 = .ok (.goto (-20), 3) := by decide +kernel
theorem d_X0_moodOfAll_27 : decode prog_2_method_8_code 27 = .ok (.iload_n 1, 1) := by decide +kernel
theorem d_X0_moodOfAll_28 : decode prog_2_method_8_code 28 = .ok (.ireturn, 1) := by decide +kernel
def lp_X0_moodOfAll_4 (κ : it_KK) (u : Nat) (k4 : (Int32 → it_SS → Option (Int32 × it_SS))) : Nat → Int32 → Int32 → it_SS → Option (Int32 × it_SS)
  | 0, _, _, _ => none
  | n4 + 1, v1, v2, S => if (S u 1) ≤ v2 then
k4 v1 S
else
if it_bd v2 6 = true then
lp_X0_moodOfAll_4 κ u k4 n4 (v1 + (S (u + 3) (v2 : Int32).toNatClampNeg)) (v2 + 1) S
else none
def f_X0_moodOfAll (κ : it_KK) (u : Nat) (S : it_SS) : Option (Int32 × it_SS) :=
lp_X0_moodOfAll_4 κ u (fun v3 S4 =>
some (v3, S4)) it_FU 0 0 S
set_option maxHeartbeats 4000000 in
set_option maxRecDepth 100000 in
theorem Llp_X0_moodOfAll_4 {g : it_G} {l : Launch} {κ : it_KK} {u : Nat} (hb : it_wb κ) (hh : it_hs κ u) {P : Int32 → it_SS → Prop} {k4 : (Int32 → it_SS → Option (Int32 × it_SS))} (hk4 : ∀ (v1 : Int32) (S : it_SS), it_ok (k4 v1 S) P → it_Ev g l 1 it_m_X0_moodOfAll 0 0 27 [none, some (.int v1), none] [] κ S (it_pi κ P)) : ∀ (n : Nat) (v1 : Int32) (v2 : Int32) (S : it_SS), it_ok (lp_X0_moodOfAll_4 κ u k4 n v1 v2 S) P → it_Ev g l 1 it_m_X0_moodOfAll 0 0 4 [some (.ref u), some (.int v1), some (.int v2)] [] κ S (it_pi κ P) := by
  intro n
  induction n with
  | zero =>
    intro _ _ _ h
    exact (it_ok_n h).elim
  | succ n4 ih4 =>
    intro v1 v2 S h
    rw [lp_X0_moodOfAll_4] at h
    refine ev_iload_n d_X0_moodOfAll_4 rfl ?_
    refine ev_aload_n d_X0_moodOfAll_5 rfl ?_
    refine ev_getI d_X0_moodOfAll_6 fl_IcedTooSoon_House_43 (hh).1 rfl ?_
    refine ev_icmp_ge (tgt := 27) d_X0_moodOfAll_9 (by decide) (fun hc1 => ?_) (fun hc1 => ?_)
    · have h := it_ok_t h hc1
      refine ev_keep [false, true, false] ?_
      exact hk4 _ _ h
    · have h := it_ok_f h hc1
      refine ev_iload_n d_X0_moodOfAll_12 rfl ?_
      refine ev_aload_n d_X0_moodOfAll_13 rfl ?_
      refine ev_getRr (r := (u + 3)) rfl d_X0_moodOfAll_14 fl_IcedTooSoon_House_18 (hh).1 rfl ?_
      refine ev_iload_n d_X0_moodOfAll_17 rfl ?_
      obtain ⟨hb2, h⟩ := it_ok_g h
      refine ev_iald d_X0_moodOfAll_18 (hh).2.2.2.1 (it_bd_in hb2) ?_
      refine ev_iadd d_X0_moodOfAll_19 ?_
      refine ev_istore_n d_X0_moodOfAll_20 (by decide) ?_
      show it_Ev g l 1 it_m_X0_moodOfAll 0 0 21 [some (.ref u), some (.int (v1 + (S (u + 3) (v2 : Int32).toNatClampNeg))), some (.int v2)] [] κ S (it_pi κ P)
      refine ev_iinc d_X0_moodOfAll_21 kv_iconst_1 rfl (by decide) ?_
      show it_Ev g l 1 it_m_X0_moodOfAll 0 0 24 [some (.ref u), some (.int (v1 + (S (u + 3) (v2 : Int32).toNatClampNeg))), some (.int (v2 + 1))] [] κ S (it_pi κ P)
      refine ev_goto (tgt := 4) d_X0_moodOfAll_24 (by decide) ?_
      refine ev_keep [true, true, true] ?_
      exact ih4 _ _ _ h
set_option maxHeartbeats 4000000 in
set_option maxRecDepth 100000 in
theorem L_X0_moodOfAll {g : it_G} {l : Launch} {κ : it_KK} {u : Nat} (hb : it_wb κ) (hh : it_hs κ u) {S : it_SS} {P : Int32 → it_SS → Prop} (h : it_ok (f_X0_moodOfAll κ u S) P) : it_Cn g l 1 it_m_X0_moodOfAll [.ref u] κ S (it_pi κ P) := by
  refine it_Cn.of (by decide +kernel) (Nat.le_of_ble_eq_true rfl) ?_
  rw [f_X0_moodOfAll] at h
  show it_Ev g l 1 it_m_X0_moodOfAll 0 0 0 [some (.ref u), none, none] [] κ S (it_pi κ P)
  refine ev_iconst d_X0_moodOfAll_0 kv_iconst_0 ?_
  refine ev_istore_n d_X0_moodOfAll_1 (by decide) ?_
  show it_Ev g l 1 it_m_X0_moodOfAll 0 0 2 [some (.ref u), some (.int 0), none] [] κ S (it_pi κ P)
  refine ev_iconst d_X0_moodOfAll_2 kv_iconst_0 ?_
  refine ev_istore_n d_X0_moodOfAll_3 (by decide) ?_
  show it_Ev g l 1 it_m_X0_moodOfAll 0 0 4 [some (.ref u), some (.int 0), some (.int 0)] [] κ S (it_pi κ P)
  refine ev_keep [true, true, true] ?_
  refine Llp_X0_moodOfAll_4 hb hh (fun v3 S4 h => ?_) _ _ _ _ h
  show it_Ev g l 1 it_m_X0_moodOfAll 0 0 27 [none, some (.int v3), none] [] κ S4 (it_pi κ P)
  refine ev_iload_n d_X0_moodOfAll_27 rfl ?_
  exact ev_ret (v := some (.int _)) ⟨d_X0_moodOfAll_28, _, rfl, rfl⟩ (by decide) (by decide) ⟨rfl, _, rfl, it_ok_r h⟩
theorem d_X0_weightOfAll_0 : decode prog_2_method_9_code 0 = .ok (.iconst 0, 1) := by decide +kernel
theorem d_X0_weightOfAll_1 : decode prog_2_method_9_code 1 = .ok (.istore_n 1, 1) := by decide +kernel
theorem d_X0_weightOfAll_2 : decode prog_2_method_9_code 2 = .ok (.iconst 0, 1) := by decide +kernel
theorem d_X0_weightOfAll_3 : decode prog_2_method_9_code 3 = .ok (.istore_n 2, 1) := by decide +kernel
theorem d_X0_weightOfAll_4 : decode prog_2_method_9_code 4 = .ok (.iload_n 2, 1) := by decide +kernel
theorem d_X0_weightOfAll_5 : decode prog_2_method_9_code 5 = .ok (.bipush 10, 2) := by decide +kernel
theorem d_X0_weightOfAll_7 : decode prog_2_method_9_code 7 = .ok (.if_icmp .ge 26, 3) := by decide +kernel
theorem d_X0_weightOfAll_10 : decode prog_2_method_9_code 10 = .ok (.aload_n 0, 1) := by decide +kernel
theorem d_X0_weightOfAll_11 : decode prog_2_method_9_code 11 = .ok (.iload_n 2, 1) := by decide +kernel
theorem d_X0_weightOfAll_12 : decode prog_2_method_9_code 12 = .ok (.invokevirtual 63, 3) := by decide +kernel
theorem d_X0_weightOfAll_15 : decode prog_2_method_9_code 15 = .ok (.ifCond .eq 12, 3) := by decide +kernel
theorem d_X0_weightOfAll_18 : decode prog_2_method_9_code 18 = .ok (.iload_n 1, 1) := by decide +kernel
theorem d_X0_weightOfAll_19 : decode prog_2_method_9_code 19 = .ok (.aload_n 0, 1) := by decide +kernel
theorem d_X0_weightOfAll_20 : decode prog_2_method_9_code 20 = .ok (.getfield 27, 3) := by decide +kernel
theorem d_X0_weightOfAll_23 : decode prog_2_method_9_code 23 = .ok (.iload_n 2, 1) := by decide +kernel
theorem d_X0_weightOfAll_24 : decode prog_2_method_9_code 24 = .ok (.iaload, 1) := by decide +kernel
theorem d_X0_weightOfAll_25 : decode prog_2_method_9_code 25 = .ok (.iadd, 1) := by decide +kernel
theorem d_X0_weightOfAll_26 : decode prog_2_method_9_code 26 = .ok (.istore_n 1, 1) := by decide +kernel
theorem d_X0_weightOfAll_27 : decode prog_2_method_9_code 27 = .ok (.iinc 2 1, 3) := by decide +kernel
theorem d_X0_weightOfAll_30 : decode prog_2_method_9_code 30 = .ok (.goto (-26), 3) := by decide +kernel
theorem d_X0_weightOfAll_33 : decode prog_2_method_9_code 33 = .ok (.iload_n 1, 1) := by decide +kernel
theorem d_X0_weightOfAll_34 : decode prog_2_method_9_code 34 = .ok (.ireturn, 1) := by decide +kernel
def lp_X0_weightOfAll_4 (κ : it_KK) (u : Nat) (k4 : (Int32 → it_SS → Option (Int32 × it_SS))) : Nat → Int32 → Int32 → it_SS → Option (Int32 × it_SS)
  | 0, _, _, _ => none
  | n4 + 1, v1, v2, S => if 10 ≤ v2 then
k4 v1 S
else
it_bi (f_X0_hasGlass κ u v2 S) (fun r3 S2 =>
if r3 = 0 then
lp_X0_weightOfAll_4 κ u k4 n4 v1 (v2 + 1) S2
else
if it_bd v2 10 = true then
lp_X0_weightOfAll_4 κ u k4 n4 (v1 + (S2 (u + 6) (v2 : Int32).toNatClampNeg)) (v2 + 1) S2
else none)
def f_X0_weightOfAll (κ : it_KK) (u : Nat) (S : it_SS) : Option (Int32 × it_SS) :=
lp_X0_weightOfAll_4 κ u (fun v6 S7 =>
some (v6, S7)) it_FU 0 0 S
set_option maxHeartbeats 4000000 in
set_option maxRecDepth 100000 in
theorem Llp_X0_weightOfAll_4 {g : it_G} {l : Launch} {κ : it_KK} {u : Nat} (hb : it_wb κ) (hh : it_hs κ u) {P : Int32 → it_SS → Prop} {k4 : (Int32 → it_SS → Option (Int32 × it_SS))} (hk4 : ∀ (v1 : Int32) (S : it_SS), it_ok (k4 v1 S) P → it_Ev g l 3 it_m_X0_weightOfAll 0 0 33 [none, some (.int v1), none] [] κ S (it_pi κ P)) : ∀ (n : Nat) (v1 : Int32) (v2 : Int32) (S : it_SS), it_ok (lp_X0_weightOfAll_4 κ u k4 n v1 v2 S) P → it_Ev g l 3 it_m_X0_weightOfAll 0 0 4 [some (.ref u), some (.int v1), some (.int v2)] [] κ S (it_pi κ P) := by
  intro n
  induction n with
  | zero =>
    intro _ _ _ h
    exact (it_ok_n h).elim
  | succ n4 ih4 =>
    intro v1 v2 S h
    rw [lp_X0_weightOfAll_4] at h
    refine ev_iload_n d_X0_weightOfAll_4 rfl ?_
    refine ev_bipush d_X0_weightOfAll_5 kv_bipush_10 ?_
    refine ev_icmp_ge (tgt := 33) d_X0_weightOfAll_7 (by decide) (fun hc1 => ?_) (fun hc1 => ?_)
    · have h := it_ok_t h hc1
      refine ev_keep [false, true, false] ?_
      exact hk4 _ _ h
    · have h := it_ok_f h hc1
      refine ev_aload_n d_X0_weightOfAll_10 rfl ?_
      refine ev_iload_n d_X0_weightOfAll_11 rfl ?_
      refine ev_callV (ci := 0) (b := u) (M' := it_m_X0_hasGlass) (d' := 2) (As := [.int v2]) d_X0_weightOfAll_12 ml_IcedTooSoon_House_63 (hh).1.1 (hh).1.2.1 ⟨_, rfl, rfl⟩ rfl rfl (Nat.le_of_ble_eq_true rfl) (by decide) (by decide) (by decide) (L_X0_hasGlass hb hh (it_ok_b h)) (fun _ _ _ _ q => by cases q.1; rfl) ?_
      rintro _ _ S2 ⟨rfl, r3, rfl, h⟩
      show it_Ev g l 3 it_m_X0_weightOfAll 0 0 15 [some (.ref u), some (.int v1), some (.int v2)] [.int r3] κ S2 (it_pi κ P)
      refine ev_if_eq (tgt := 27) d_X0_weightOfAll_15 (by decide) (fun hc4 => ?_) (fun hc4 => ?_)
      · have h := it_ok_t h hc4
        refine ev_iinc d_X0_weightOfAll_27 kv_iconst_1 rfl (by decide) ?_
        show it_Ev g l 3 it_m_X0_weightOfAll 0 0 30 [some (.ref u), some (.int v1), some (.int (v2 + 1))] [] κ S2 (it_pi κ P)
        refine ev_goto (tgt := 4) d_X0_weightOfAll_30 (by decide) ?_
        refine ev_keep [true, true, true] ?_
        exact ih4 _ _ _ h
      · have h := it_ok_f h hc4
        refine ev_iload_n d_X0_weightOfAll_18 rfl ?_
        refine ev_aload_n d_X0_weightOfAll_19 rfl ?_
        refine ev_getRr (r := (u + 6)) rfl d_X0_weightOfAll_20 fl_IcedTooSoon_House_27 (hh).1 rfl ?_
        refine ev_iload_n d_X0_weightOfAll_23 rfl ?_
        obtain ⟨hb5, h⟩ := it_ok_g h
        refine ev_iald d_X0_weightOfAll_24 (hh).2.2.2.2.2.2.1 (it_bd_in hb5) ?_
        refine ev_iadd d_X0_weightOfAll_25 ?_
        refine ev_istore_n d_X0_weightOfAll_26 (by decide) ?_
        show it_Ev g l 3 it_m_X0_weightOfAll 0 0 27 [some (.ref u), some (.int (v1 + (S2 (u + 6) (v2 : Int32).toNatClampNeg))), some (.int v2)] [] κ S2 (it_pi κ P)
        refine ev_iinc d_X0_weightOfAll_27 kv_iconst_1 rfl (by decide) ?_
        show it_Ev g l 3 it_m_X0_weightOfAll 0 0 30 [some (.ref u), some (.int (v1 + (S2 (u + 6) (v2 : Int32).toNatClampNeg))), some (.int (v2 + 1))] [] κ S2 (it_pi κ P)
        refine ev_goto (tgt := 4) d_X0_weightOfAll_30 (by decide) ?_
        refine ev_keep [true, true, true] ?_
        exact ih4 _ _ _ h
set_option maxHeartbeats 4000000 in
set_option maxRecDepth 100000 in
theorem L_X0_weightOfAll {g : it_G} {l : Launch} {κ : it_KK} {u : Nat} (hb : it_wb κ) (hh : it_hs κ u) {S : it_SS} {P : Int32 → it_SS → Prop} (h : it_ok (f_X0_weightOfAll κ u S) P) : it_Cn g l 3 it_m_X0_weightOfAll [.ref u] κ S (it_pi κ P) := by
  refine it_Cn.of (by decide +kernel) (Nat.le_of_ble_eq_true rfl) ?_
  rw [f_X0_weightOfAll] at h
  show it_Ev g l 3 it_m_X0_weightOfAll 0 0 0 [some (.ref u), none, none] [] κ S (it_pi κ P)
  refine ev_iconst d_X0_weightOfAll_0 kv_iconst_0 ?_
  refine ev_istore_n d_X0_weightOfAll_1 (by decide) ?_
  show it_Ev g l 3 it_m_X0_weightOfAll 0 0 2 [some (.ref u), some (.int 0), none] [] κ S (it_pi κ P)
  refine ev_iconst d_X0_weightOfAll_2 kv_iconst_0 ?_
  refine ev_istore_n d_X0_weightOfAll_3 (by decide) ?_
  show it_Ev g l 3 it_m_X0_weightOfAll 0 0 4 [some (.ref u), some (.int 0), some (.int 0)] [] κ S (it_pi κ P)
  refine ev_keep [true, true, true] ?_
  refine Llp_X0_weightOfAll_4 hb hh (fun v6 S7 h => ?_) _ _ _ _ h
  show it_Ev g l 3 it_m_X0_weightOfAll 0 0 33 [none, some (.int v6), none] [] κ S7 (it_pi κ P)
  refine ev_iload_n d_X0_weightOfAll_33 rfl ?_
  exact ev_ret (v := some (.int _)) ⟨d_X0_weightOfAll_34, _, rfl, rfl⟩ (by decide) (by decide) ⟨rfl, _, rfl, it_ok_r h⟩
theorem d_X0_admit_0 : decode prog_2_method_10_code 0 = .ok (.iload_n 1, 1) := by decide +kernel
theorem d_X0_admit_1 : decode prog_2_method_10_code 1 = .ok (.iconst 0, 1) := by decide +kernel
theorem d_X0_admit_2 : decode prog_2_method_10_code 2 = .ok (.bipush 59, 2) := by decide +kernel
theorem d_X0_admit_4 : decode prog_2_method_10_code 4 = .ok (.invokestatic 66, 3) := by decide +kernel
theorem d_X0_admit_7 : decode prog_2_method_10_code 7 = .ok (.ifCond .ne 14, 3) := by decide +kernel
theorem d_X0_admit_10 : decode prog_2_method_10_code 10 = .ok (.iload_n 2, 1) := by decide +kernel
theorem d_X0_admit_11 : decode prog_2_method_10_code 11 = .ok (.bipush (-99), 2) := by decide +kernel
theorem d_X0_admit_13 : decode prog_2_method_10_code 13 = .ok (.bipush 99, 2) := by decide +kernel
theorem d_X0_admit_15 : decode prog_2_method_10_code 15 = .ok (.invokestatic 66, 3) := by decide +kernel
theorem d_X0_admit_18 : decode prog_2_method_10_code 18 = .ok (.ifCond .eq 6, 3) := by decide +kernel
theorem d_X0_admit_21 : decode prog_2_method_10_code 21 = .ok (.bipush (-2), 2) := by decide +kernel
theorem d_X0_admit_23 : decode prog_2_method_10_code 23 = .ok (.ireturn, 1) := by decide +kernel
theorem d_X0_admit_24 : decode prog_2_method_10_code 24 = .ok (.aload_n 0, 1) := by decide +kernel
theorem d_X0_admit_25 : decode prog_2_method_10_code 25 = .ok (.getfield 43, 3) := by decide +kernel
theorem d_X0_admit_28 : decode prog_2_method_10_code 28 = .ok (.bipush 6, 2) := by decide +kernel
theorem d_X0_admit_30 : decode prog_2_method_10_code 30 = .ok (.if_icmp .lt 6, 3) := by decide +kernel
theorem d_X0_admit_33 : decode prog_2_method_10_code 33 = .ok (.bipush (-4), 2) := by decide +kernel
theorem d_X0_admit_35 : decode prog_2_method_10_code 35 = .ok (.ireturn, 1) := by decide +kernel
theorem d_X0_admit_36 : decode prog_2_method_10_code 36 = .ok (.aload_n 0, 1) := by decide +kernel
theorem d_X0_admit_37 : decode prog_2_method_10_code 37 = .ok (.getfield 9, 3) := by decide +kernel
theorem d_X0_admit_40 : decode prog_2_method_10_code 40 = .ok (.aload_n 0, 1) := by decide +kernel
theorem d_X0_admit_41 : decode prog_2_method_10_code 41 = .ok (.getfield 43, 3) := by decide +kernel
theorem d_X0_admit_44 : decode prog_2_method_10_code 44 = .ok (.iload_n 1, 1) := by decide +kernel
theorem d_X0_admit_45 : decode prog_2_method_10_code 45 = .ok (.bipush 10, 2) := by decide +kernel
theorem d_X0_admit_47 : decode prog_2_method_10_code 47 = .ok (.idiv, 1) := by decide +kernel
theorem d_X0_admit_48 : decode prog_2_method_10_code 48 = .ok (.iastore, 1) := by decide +kernel
theorem d_X0_admit_49 : decode prog_2_method_10_code 49 = .ok (.aload_n 0, 1) := by decide +kernel
theorem d_X0_admit_50 : decode prog_2_method_10_code 50 = .ok (.getfield 15, 3) := by decide +kernel
theorem d_X0_admit_53 : decode prog_2_method_10_code 53 = .ok (.aload_n 0, 1) := by decide +kernel
theorem d_X0_admit_54 : decode prog_2_method_10_code 54 = .ok (.getfield 43, 3) := by decide +kernel
theorem d_X0_admit_57 : decode prog_2_method_10_code 57 = .ok (.iload_n 1, 1) := by decide +kernel
theorem d_X0_admit_58 : decode prog_2_method_10_code 58 = .ok (.bipush 10, 2) := by decide +kernel
theorem d_X0_admit_60 : decode prog_2_method_10_code 60 = .ok (.irem, 1) := by decide +kernel
theorem d_X0_admit_61 : decode prog_2_method_10_code 61 = .ok (.iastore, 1) := by decide +kernel
theorem d_X0_admit_62 : decode prog_2_method_10_code 62 = .ok (.aload_n 0, 1) := by decide +kernel
theorem d_X0_admit_63 : decode prog_2_method_10_code 63 = .ok (.getfield 18, 3) := by decide +kernel
theorem d_X0_admit_66 : decode prog_2_method_10_code 66 = .ok (.aload_n 0, 1) := by decide +kernel
theorem d_X0_admit_67 : decode prog_2_method_10_code 67 = .ok (.getfield 43, 3) := by decide +kernel
theorem d_X0_admit_70 : decode prog_2_method_10_code 70 = .ok (.iload_n 2, 1) := by decide +kernel
theorem d_X0_admit_71 : decode prog_2_method_10_code 71 = .ok (.iastore, 1) := by decide +kernel
theorem d_X0_admit_72 : decode prog_2_method_10_code 72 = .ok (.aload_n 0, 1) := by decide +kernel
theorem d_X0_admit_73 : decode prog_2_method_10_code 73 = .ok (.getfield 21, 3) := by decide +kernel
theorem d_X0_admit_76 : decode prog_2_method_10_code 76 = .ok (.aload_n 0, 1) := by decide +kernel
theorem d_X0_admit_77 : decode prog_2_method_10_code 77 = .ok (.getfield 43, 3) := by decide +kernel
theorem d_X0_admit_80 : decode prog_2_method_10_code 80 = .ok (.iconst 0, 1) := by decide +kernel
theorem d_X0_admit_81 : decode prog_2_method_10_code 81 = .ok (.iastore, 1) := by decide +kernel
theorem d_X0_admit_82 : decode prog_2_method_10_code 82 = .ok (.aload_n 0, 1) := by decide +kernel
theorem d_X0_admit_83 : decode prog_2_method_10_code 83 = .ok (.dup, 1) := by decide +kernel
theorem d_X0_admit_84 : decode prog_2_method_10_code 84 = .ok (.getfield 43, 3) := by decide +kernel
theorem d_X0_admit_87 : decode prog_2_method_10_code 87 = .ok (.iconst 1, 1) := by decide +kernel
theorem d_X0_admit_88 : decode prog_2_method_10_code 88 = .ok (.iadd, 1) := by decide +kernel
theorem d_X0_admit_89 : decode prog_2_method_10_code 89 = .ok (.putfield 43, 3) := by decide +kernel
theorem d_X0_admit_92 : decode prog_2_method_10_code 92 = .ok (.aload_n 0, 1) := by decide +kernel
theorem d_X0_admit_93 : decode prog_2_method_10_code 93 = .ok (.getfield 43, 3) := by decide +kernel
theorem d_X0_admit_96 : decode prog_2_method_10_code 96 = .ok (.iconst 1, 1) := by decide +kernel
theorem d_X0_admit_97 : decode prog_2_method_10_code 97 = .ok (.isub, 1) := by decide +kernel
theorem d_X0_admit_98 : decode prog_2_method_10_code 98 = .ok (.ireturn, 1) := by decide +kernel
def f_X0_admit (κ : it_KK) (u : Nat) (x1 : Int32) (x2 : Int32) (S : it_SS) : Option (Int32 × it_SS) :=
it_bi (f_X5_isOutside κ x1 0 59 S) (fun r2 S1 =>
if r2 = 0 then
it_bi (f_X5_isOutside κ x2 (-99) 99 S1) (fun r5 S4 =>
if r5 = 0 then
if (S4 u 1) < 6 then
if it_bd (S4 u 1) 6 = true then
if it_bd ((it_up S4 (u + 1) ((S4 u 1) : Int32).toNatClampNeg (x1 / 10)) u 1) 6 = true then
if it_bd ((it_up (it_up S4 (u + 1) ((S4 u 1) : Int32).toNatClampNeg (x1 / 10)) (u + 2) (((it_up S4 (u + 1) ((S4 u 1) : Int32).toNatClampNeg (x1 / 10)) u 1) : Int32).toNatClampNeg (x1 - x1 / 10 * 10)) u 1) 6 = true then
if it_bd ((it_up (it_up (it_up S4 (u + 1) ((S4 u 1) : Int32).toNatClampNeg (x1 / 10)) (u + 2) (((it_up S4 (u + 1) ((S4 u 1) : Int32).toNatClampNeg (x1 / 10)) u 1) : Int32).toNatClampNeg (x1 - x1 / 10 * 10)) (u + 3) (((it_up (it_up S4 (u + 1) ((S4 u 1) : Int32).toNatClampNeg (x1 / 10)) (u + 2) (((it_up S4 (u + 1) ((S4 u 1) : Int32).toNatClampNeg (x1 / 10)) u 1) : Int32).toNatClampNeg (x1 - x1 / 10 * 10)) u 1) : Int32).toNatClampNeg x2) u 1) 6 = true then
some ((((it_up (it_up (it_up (it_up (it_up S4 (u + 1) ((S4 u 1) : Int32).toNatClampNeg (x1 / 10)) (u + 2) (((it_up S4 (u + 1) ((S4 u 1) : Int32).toNatClampNeg (x1 / 10)) u 1) : Int32).toNatClampNeg (x1 - x1 / 10 * 10)) (u + 3) (((it_up (it_up S4 (u + 1) ((S4 u 1) : Int32).toNatClampNeg (x1 / 10)) (u + 2) (((it_up S4 (u + 1) ((S4 u 1) : Int32).toNatClampNeg (x1 / 10)) u 1) : Int32).toNatClampNeg (x1 - x1 / 10 * 10)) u 1) : Int32).toNatClampNeg x2) (u + 4) (((it_up (it_up (it_up S4 (u + 1) ((S4 u 1) : Int32).toNatClampNeg (x1 / 10)) (u + 2) (((it_up S4 (u + 1) ((S4 u 1) : Int32).toNatClampNeg (x1 / 10)) u 1) : Int32).toNatClampNeg (x1 - x1 / 10 * 10)) (u + 3) (((it_up (it_up S4 (u + 1) ((S4 u 1) : Int32).toNatClampNeg (x1 / 10)) (u + 2) (((it_up S4 (u + 1) ((S4 u 1) : Int32).toNatClampNeg (x1 / 10)) u 1) : Int32).toNatClampNeg (x1 - x1 / 10 * 10)) u 1) : Int32).toNatClampNeg x2) u 1) : Int32).toNatClampNeg 0) u 1 (((it_up (it_up (it_up (it_up S4 (u + 1) ((S4 u 1) : Int32).toNatClampNeg (x1 / 10)) (u + 2) (((it_up S4 (u + 1) ((S4 u 1) : Int32).toNatClampNeg (x1 / 10)) u 1) : Int32).toNatClampNeg (x1 - x1 / 10 * 10)) (u + 3) (((it_up (it_up S4 (u + 1) ((S4 u 1) : Int32).toNatClampNeg (x1 / 10)) (u + 2) (((it_up S4 (u + 1) ((S4 u 1) : Int32).toNatClampNeg (x1 / 10)) u 1) : Int32).toNatClampNeg (x1 - x1 / 10 * 10)) u 1) : Int32).toNatClampNeg x2) (u + 4) (((it_up (it_up (it_up S4 (u + 1) ((S4 u 1) : Int32).toNatClampNeg (x1 / 10)) (u + 2) (((it_up S4 (u + 1) ((S4 u 1) : Int32).toNatClampNeg (x1 / 10)) u 1) : Int32).toNatClampNeg (x1 - x1 / 10 * 10)) (u + 3) (((it_up (it_up S4 (u + 1) ((S4 u 1) : Int32).toNatClampNeg (x1 / 10)) (u + 2) (((it_up S4 (u + 1) ((S4 u 1) : Int32).toNatClampNeg (x1 / 10)) u 1) : Int32).toNatClampNeg (x1 - x1 / 10 * 10)) u 1) : Int32).toNatClampNeg x2) u 1) : Int32).toNatClampNeg 0) u 1) + 1)) u 1) - 1), it_up (it_up (it_up (it_up (it_up S4 (u + 1) ((S4 u 1) : Int32).toNatClampNeg (x1 / 10)) (u + 2) (((it_up S4 (u + 1) ((S4 u 1) : Int32).toNatClampNeg (x1 / 10)) u 1) : Int32).toNatClampNeg (x1 - x1 / 10 * 10)) (u + 3) (((it_up (it_up S4 (u + 1) ((S4 u 1) : Int32).toNatClampNeg (x1 / 10)) (u + 2) (((it_up S4 (u + 1) ((S4 u 1) : Int32).toNatClampNeg (x1 / 10)) u 1) : Int32).toNatClampNeg (x1 - x1 / 10 * 10)) u 1) : Int32).toNatClampNeg x2) (u + 4) (((it_up (it_up (it_up S4 (u + 1) ((S4 u 1) : Int32).toNatClampNeg (x1 / 10)) (u + 2) (((it_up S4 (u + 1) ((S4 u 1) : Int32).toNatClampNeg (x1 / 10)) u 1) : Int32).toNatClampNeg (x1 - x1 / 10 * 10)) (u + 3) (((it_up (it_up S4 (u + 1) ((S4 u 1) : Int32).toNatClampNeg (x1 / 10)) (u + 2) (((it_up S4 (u + 1) ((S4 u 1) : Int32).toNatClampNeg (x1 / 10)) u 1) : Int32).toNatClampNeg (x1 - x1 / 10 * 10)) u 1) : Int32).toNatClampNeg x2) u 1) : Int32).toNatClampNeg 0) u 1 (((it_up (it_up (it_up (it_up S4 (u + 1) ((S4 u 1) : Int32).toNatClampNeg (x1 / 10)) (u + 2) (((it_up S4 (u + 1) ((S4 u 1) : Int32).toNatClampNeg (x1 / 10)) u 1) : Int32).toNatClampNeg (x1 - x1 / 10 * 10)) (u + 3) (((it_up (it_up S4 (u + 1) ((S4 u 1) : Int32).toNatClampNeg (x1 / 10)) (u + 2) (((it_up S4 (u + 1) ((S4 u 1) : Int32).toNatClampNeg (x1 / 10)) u 1) : Int32).toNatClampNeg (x1 - x1 / 10 * 10)) u 1) : Int32).toNatClampNeg x2) (u + 4) (((it_up (it_up (it_up S4 (u + 1) ((S4 u 1) : Int32).toNatClampNeg (x1 / 10)) (u + 2) (((it_up S4 (u + 1) ((S4 u 1) : Int32).toNatClampNeg (x1 / 10)) u 1) : Int32).toNatClampNeg (x1 - x1 / 10 * 10)) (u + 3) (((it_up (it_up S4 (u + 1) ((S4 u 1) : Int32).toNatClampNeg (x1 / 10)) (u + 2) (((it_up S4 (u + 1) ((S4 u 1) : Int32).toNatClampNeg (x1 / 10)) u 1) : Int32).toNatClampNeg (x1 - x1 / 10 * 10)) u 1) : Int32).toNatClampNeg x2) u 1) : Int32).toNatClampNeg 0) u 1) + 1))
else none
else none
else none
else none
else
some ((-4), S4)
else
some ((-2), S4))
else
some ((-2), S1))
set_option maxHeartbeats 4000000 in
set_option maxRecDepth 100000 in
theorem L_X0_admit {g : it_G} {l : Launch} {κ : it_KK} {u : Nat} {x1 : Int32} {x2 : Int32} (hb : it_wb κ) (hh : it_hs κ u) {S : it_SS} {P : Int32 → it_SS → Prop} (h : it_ok (f_X0_admit κ u x1 x2 S) P) : it_Cn g l 2 it_m_X0_admit [.ref u, .int x1, .int x2] κ S (it_pi κ P) := by
  refine it_Cn.of (by decide +kernel) (Nat.le_of_ble_eq_true rfl) ?_
  rw [f_X0_admit] at h
  show it_Ev g l 2 it_m_X0_admit 0 0 0 [some (.ref u), some (.int x1), some (.int x2)] [] κ S (it_pi κ P)
  refine ev_iload_n d_X0_admit_0 rfl ?_
  refine ev_iconst d_X0_admit_1 kv_iconst_0 ?_
  refine ev_bipush d_X0_admit_2 kv_bipush_59 ?_
  refine ev_callSN (M' := it_m_X5_isOutside) (d' := 1) (As := [.int x1, .int 0, .int 59]) d_X0_admit_4 ml_IcedTooSoon_House_66 rfl rfl (Nat.le_of_ble_eq_true rfl) (by decide) (by decide) (by decide) (L_X5_isOutside  (it_ok_b h)) (fun _ _ _ _ q => by cases q.1; rfl) ?_
  rintro _ _ S1 ⟨rfl, r2, rfl, h⟩
  show it_Ev g l 2 it_m_X0_admit 0 0 7 [some (.ref u), some (.int x1), some (.int x2)] [.int r2] κ S1 (it_pi κ P)
  refine ev_if_ne (tgt := 21) d_X0_admit_7 (by decide) (fun hc3 => ?_) (fun hc3 => ?_)
  · have h := it_ok_f h hc3
    refine ev_bipush d_X0_admit_21 kv_bipush_m2 ?_
    exact ev_ret (v := some (.int _)) ⟨d_X0_admit_23, _, rfl, rfl⟩ (by decide) (by decide) ⟨rfl, _, rfl, it_ok_r h⟩
  · have h := it_ok_t h hc3
    refine ev_iload_n d_X0_admit_10 rfl ?_
    refine ev_bipush d_X0_admit_11 kv_bipush_m99 ?_
    refine ev_bipush d_X0_admit_13 kv_bipush_99 ?_
    refine ev_callSN (M' := it_m_X5_isOutside) (d' := 1) (As := [.int x2, .int (-99), .int 99]) d_X0_admit_15 ml_IcedTooSoon_House_66 rfl rfl (Nat.le_of_ble_eq_true rfl) (by decide) (by decide) (by decide) (L_X5_isOutside  (it_ok_b h)) (fun _ _ _ _ q => by cases q.1; rfl) ?_
    rintro _ _ S4 ⟨rfl, r5, rfl, h⟩
    show it_Ev g l 2 it_m_X0_admit 0 0 18 [some (.ref u), some (.int x1), some (.int x2)] [.int r5] κ S4 (it_pi κ P)
    refine ev_if_eq (tgt := 24) d_X0_admit_18 (by decide) (fun hc6 => ?_) (fun hc6 => ?_)
    · have h := it_ok_t h hc6
      refine ev_aload_n d_X0_admit_24 rfl ?_
      refine ev_getI d_X0_admit_25 fl_IcedTooSoon_House_43 (hh).1 rfl ?_
      refine ev_bipush d_X0_admit_28 kv_bipush_6 ?_
      refine ev_icmp_lt (tgt := 36) d_X0_admit_30 (by decide) (fun hc7 => ?_) (fun hc7 => ?_)
      · have h := it_ok_t h hc7
        refine ev_aload_n d_X0_admit_36 rfl ?_
        refine ev_getRr (r := (u + 1)) rfl d_X0_admit_37 fl_IcedTooSoon_House_9 (hh).1 rfl ?_
        refine ev_aload_n d_X0_admit_40 rfl ?_
        refine ev_getI d_X0_admit_41 fl_IcedTooSoon_House_43 (hh).1 rfl ?_
        refine ev_iload_n d_X0_admit_44 rfl ?_
        refine ev_bipush d_X0_admit_45 kv_bipush_10 ?_
        refine ev_idiv d_X0_admit_47 (by decide) ?_
        obtain ⟨hb8, h⟩ := it_ok_g h
        refine ev_iast d_X0_admit_48 (by decide) (hh).2.1 (it_bd_in hb8) ?_
        refine ev_aload_n d_X0_admit_49 rfl ?_
        refine ev_getRr (r := (u + 2)) rfl d_X0_admit_50 fl_IcedTooSoon_House_15 (hh).1 rfl ?_
        refine ev_aload_n d_X0_admit_53 rfl ?_
        refine ev_getI d_X0_admit_54 fl_IcedTooSoon_House_43 (hh).1 rfl ?_
        refine ev_iload_n d_X0_admit_57 rfl ?_
        refine ev_bipush d_X0_admit_58 kv_bipush_10 ?_
        refine ev_irem d_X0_admit_60 (by decide) ?_
        obtain ⟨hb9, h⟩ := it_ok_g h
        refine ev_iast d_X0_admit_61 (by decide) (hh).2.2.1 (it_bd_in hb9) ?_
        refine ev_aload_n d_X0_admit_62 rfl ?_
        refine ev_getRr (r := (u + 3)) rfl d_X0_admit_63 fl_IcedTooSoon_House_18 (hh).1 rfl ?_
        refine ev_aload_n d_X0_admit_66 rfl ?_
        refine ev_getI d_X0_admit_67 fl_IcedTooSoon_House_43 (hh).1 rfl ?_
        refine ev_iload_n d_X0_admit_70 rfl ?_
        obtain ⟨hb10, h⟩ := it_ok_g h
        refine ev_iast d_X0_admit_71 (by decide) (hh).2.2.2.1 (it_bd_in hb10) ?_
        refine ev_aload_n d_X0_admit_72 rfl ?_
        refine ev_getRr (r := (u + 4)) rfl d_X0_admit_73 fl_IcedTooSoon_House_21 (hh).1 rfl ?_
        refine ev_aload_n d_X0_admit_76 rfl ?_
        refine ev_getI d_X0_admit_77 fl_IcedTooSoon_House_43 (hh).1 rfl ?_
        refine ev_iconst d_X0_admit_80 kv_iconst_0 ?_
        obtain ⟨hb11, h⟩ := it_ok_g h
        refine ev_iast d_X0_admit_81 (by decide) (hh).2.2.2.2.1 (it_bd_in hb11) ?_
        refine ev_aload_n d_X0_admit_82 rfl ?_
        refine ev_dup d_X0_admit_83 rfl ?_
        refine ev_getI d_X0_admit_84 fl_IcedTooSoon_House_43 (hh).1 rfl ?_
        refine ev_iconst d_X0_admit_87 kv_iconst_1 ?_
        refine ev_iadd d_X0_admit_88 ?_
        refine ev_putI d_X0_admit_89 (by decide) fl_IcedTooSoon_House_43 fw_0_1 (hh).1 rfl ?_
        refine ev_aload_n d_X0_admit_92 rfl ?_
        refine ev_getI d_X0_admit_93 fl_IcedTooSoon_House_43 (hh).1 rfl ?_
        refine ev_iconst d_X0_admit_96 kv_iconst_1 ?_
        refine ev_isub d_X0_admit_97 ?_
        exact ev_ret (v := some (.int _)) ⟨d_X0_admit_98, _, rfl, rfl⟩ (by decide) (by decide) ⟨rfl, _, rfl, it_ok_r h⟩
      · have h := it_ok_f h hc7
        refine ev_bipush d_X0_admit_33 kv_bipush_m4 ?_
        exact ev_ret (v := some (.int _)) ⟨d_X0_admit_35, _, rfl, rfl⟩ (by decide) (by decide) ⟨rfl, _, rfl, it_ok_r h⟩
    · have h := it_ok_f h hc6
      refine ev_bipush d_X0_admit_21 kv_bipush_m2 ?_
      exact ev_ret (v := some (.int _)) ⟨d_X0_admit_23, _, rfl, rfl⟩ (by decide) (by decide) ⟨rfl, _, rfl, it_ok_r h⟩
theorem d_X0_set_0 : decode prog_2_method_11_code 0 = .ok (.iload_n 2, 1) := by decide +kernel
theorem d_X0_set_1 : decode prog_2_method_11_code 1 = .ok (.ifCond .ne 13, 3) := by decide +kernel
theorem d_X0_set_4 : decode prog_2_method_11_code 4 = .ok (.aload_n 0, 1) := by decide +kernel
theorem d_X0_set_5 : decode prog_2_method_11_code 5 = .ok (.getfield 18, 3) := by decide +kernel
theorem d_X0_set_8 : decode prog_2_method_11_code 8 = .ok (.iload_n 1, 1) := by decide +kernel
theorem d_X0_set_9 : decode prog_2_method_11_code 9 = .ok (.iload_n 3, 1) := by decide +kernel
theorem d_X0_set_10 : decode prog_2_method_11_code 10 = .ok (.iastore, 1) := by decide +kernel
theorem d_X0_set_11 : decode prog_2_method_11_code 11 = .ok (.goto 10, 3) := by decide +kernel
theorem d_X0_set_14 : decode prog_2_method_11_code 14 = .ok (.aload_n 0, 1) := by decide +kernel
theorem d_X0_set_15 : decode prog_2_method_11_code 15 = .ok (.getfield 21, 3) := by decide +kernel
theorem d_X0_set_18 : decode prog_2_method_11_code 18 = .ok (.iload_n 1, 1) := by decide +kernel
theorem d_X0_set_19 : decode prog_2_method_11_code 19 = .ok (.iload_n 3, 1) := by decide +kernel
theorem d_X0_set_20 : decode prog_2_method_11_code 20 = .ok (.iastore, 1) := by decide +kernel
theorem d_X0_set_21 : decode prog_2_method_11_code 21 = .ok (.return_, 1) := by decide +kernel
def f_X0_set (κ : it_KK) (u : Nat) (x1 : Int32) (x2 : Int32) (x3 : Int32) (S : it_SS) : Option (Unit × it_SS) :=
if x2 = 0 then
if it_bd x1 6 = true then
some ((), it_up S (u + 3) (x1 : Int32).toNatClampNeg x3)
else none
else
if it_bd x1 6 = true then
some ((), it_up S (u + 4) (x1 : Int32).toNatClampNeg x3)
else none
set_option maxHeartbeats 4000000 in
set_option maxRecDepth 100000 in
theorem L_X0_set {g : it_G} {l : Launch} {κ : it_KK} {u : Nat} {x1 : Int32} {x2 : Int32} {x3 : Int32} (hb : it_wb κ) (hh : it_hs κ u) {S : it_SS} {P : Unit → it_SS → Prop} (h : it_ok (f_X0_set κ u x1 x2 x3 S) P) : it_Cn g l 1 it_m_X0_set [.ref u, .int x1, .int x2, .int x3] κ S (it_pv κ P) := by
  refine it_Cn.of (by decide +kernel) (Nat.le_of_ble_eq_true rfl) ?_
  rw [f_X0_set] at h
  show it_Ev g l 1 it_m_X0_set 0 0 0 [some (.ref u), some (.int x1), some (.int x2), some (.int x3)] [] κ S (it_pv κ P)
  refine ev_iload_n d_X0_set_0 rfl ?_
  refine ev_if_ne (tgt := 14) d_X0_set_1 (by decide) (fun hc1 => ?_) (fun hc1 => ?_)
  · have h := it_ok_f h hc1
    refine ev_aload_n d_X0_set_14 rfl ?_
    refine ev_getRr (r := (u + 4)) rfl d_X0_set_15 fl_IcedTooSoon_House_21 (hh).1 rfl ?_
    refine ev_iload_n d_X0_set_18 rfl ?_
    refine ev_iload_n d_X0_set_19 rfl ?_
    obtain ⟨hb2, h⟩ := it_ok_g h
    refine ev_iast d_X0_set_20 (by decide) (hh).2.2.2.2.1 (it_bd_in hb2) ?_
    exact ev_ret (v := none) ⟨d_X0_set_21, rfl⟩ (by decide) (by decide) ⟨rfl, rfl, it_ok_r h⟩
  · have h := it_ok_t h hc1
    refine ev_aload_n d_X0_set_4 rfl ?_
    refine ev_getRr (r := (u + 3)) rfl d_X0_set_5 fl_IcedTooSoon_House_18 (hh).1 rfl ?_
    refine ev_iload_n d_X0_set_8 rfl ?_
    refine ev_iload_n d_X0_set_9 rfl ?_
    obtain ⟨hb3, h⟩ := it_ok_g h
    refine ev_iast d_X0_set_10 (by decide) (hh).2.2.2.1 (it_bd_in hb3) ?_
    refine ev_goto (tgt := 21) d_X0_set_11 (by decide) ?_
    exact ev_ret (v := none) ⟨d_X0_set_21, rfl⟩ (by decide) (by decide) ⟨rfl, rfl, it_ok_r h⟩
theorem d_X0_setKind_0 : decode prog_2_method_12_code 0 = .ok (.iload_n 2, 1) := by decide +kernel
theorem d_X0_setKind_1 : decode prog_2_method_12_code 1 = .ok (.ifCond .ne 13, 3) := by decide +kernel
theorem d_X0_setKind_4 : decode prog_2_method_12_code 4 = .ok (.aload_n 0, 1) := by decide +kernel
theorem d_X0_setKind_5 : decode prog_2_method_12_code 5 = .ok (.getfield 9, 3) := by decide +kernel
theorem d_X0_setKind_8 : decode prog_2_method_12_code 8 = .ok (.iload_n 1, 1) := by decide +kernel
theorem d_X0_setKind_9 : decode prog_2_method_12_code 9 = .ok (.iload_n 3, 1) := by decide +kernel
theorem d_X0_setKind_10 : decode prog_2_method_12_code 10 = .ok (.iastore, 1) := by decide +kernel
theorem d_X0_setKind_11 : decode prog_2_method_12_code 11 = .ok (.goto 10, 3) := by decide +kernel
theorem d_X0_setKind_14 : decode prog_2_method_12_code 14 = .ok (.aload_n 0, 1) := by decide +kernel
theorem d_X0_setKind_15 : decode prog_2_method_12_code 15 = .ok (.getfield 15, 3) := by decide +kernel
theorem d_X0_setKind_18 : decode prog_2_method_12_code 18 = .ok (.iload_n 1, 1) := by decide +kernel
theorem d_X0_setKind_19 : decode prog_2_method_12_code 19 = .ok (.iload_n 3, 1) := by decide +kernel
theorem d_X0_setKind_20 : decode prog_2_method_12_code 20 = .ok (.iastore, 1) := by decide +kernel
theorem d_X0_setKind_21 : decode prog_2_method_12_code 21 = .ok (.return_, 1) := by decide +kernel
def f_X0_setKind (κ : it_KK) (u : Nat) (x1 : Int32) (x2 : Int32) (x3 : Int32) (S : it_SS) : Option (Unit × it_SS) :=
if x2 = 0 then
if it_bd x1 6 = true then
some ((), it_up S (u + 1) (x1 : Int32).toNatClampNeg x3)
else none
else
if it_bd x1 6 = true then
some ((), it_up S (u + 2) (x1 : Int32).toNatClampNeg x3)
else none
set_option maxHeartbeats 4000000 in
set_option maxRecDepth 100000 in
theorem L_X0_setKind {g : it_G} {l : Launch} {κ : it_KK} {u : Nat} {x1 : Int32} {x2 : Int32} {x3 : Int32} (hb : it_wb κ) (hh : it_hs κ u) {S : it_SS} {P : Unit → it_SS → Prop} (h : it_ok (f_X0_setKind κ u x1 x2 x3 S) P) : it_Cn g l 1 it_m_X0_setKind [.ref u, .int x1, .int x2, .int x3] κ S (it_pv κ P) := by
  refine it_Cn.of (by decide +kernel) (Nat.le_of_ble_eq_true rfl) ?_
  rw [f_X0_setKind] at h
  show it_Ev g l 1 it_m_X0_setKind 0 0 0 [some (.ref u), some (.int x1), some (.int x2), some (.int x3)] [] κ S (it_pv κ P)
  refine ev_iload_n d_X0_setKind_0 rfl ?_
  refine ev_if_ne (tgt := 14) d_X0_setKind_1 (by decide) (fun hc1 => ?_) (fun hc1 => ?_)
  · have h := it_ok_f h hc1
    refine ev_aload_n d_X0_setKind_14 rfl ?_
    refine ev_getRr (r := (u + 2)) rfl d_X0_setKind_15 fl_IcedTooSoon_House_15 (hh).1 rfl ?_
    refine ev_iload_n d_X0_setKind_18 rfl ?_
    refine ev_iload_n d_X0_setKind_19 rfl ?_
    obtain ⟨hb2, h⟩ := it_ok_g h
    refine ev_iast d_X0_setKind_20 (by decide) (hh).2.2.1 (it_bd_in hb2) ?_
    exact ev_ret (v := none) ⟨d_X0_setKind_21, rfl⟩ (by decide) (by decide) ⟨rfl, rfl, it_ok_r h⟩
  · have h := it_ok_t h hc1
    refine ev_aload_n d_X0_setKind_4 rfl ?_
    refine ev_getRr (r := (u + 1)) rfl d_X0_setKind_5 fl_IcedTooSoon_House_9 (hh).1 rfl ?_
    refine ev_iload_n d_X0_setKind_8 rfl ?_
    refine ev_iload_n d_X0_setKind_9 rfl ?_
    obtain ⟨hb3, h⟩ := it_ok_g h
    refine ev_iast d_X0_setKind_10 (by decide) (hh).2.1 (it_bd_in hb3) ?_
    refine ev_goto (tgt := 21) d_X0_setKind_11 (by decide) ?_
    exact ev_ret (v := none) ⟨d_X0_setKind_21, rfl⟩ (by decide) (by decide) ⟨rfl, rfl, it_ok_r h⟩
theorem d_X0_take_0 : decode prog_2_method_14_code 0 = .ok (.aload_n 0, 1) := by decide +kernel
theorem d_X0_take_1 : decode prog_2_method_14_code 1 = .ok (.getfield 24, 3) := by decide +kernel
theorem d_X0_take_4 : decode prog_2_method_14_code 4 = .ok (.iload_n 1, 1) := by decide +kernel
theorem d_X0_take_5 : decode prog_2_method_14_code 5 = .ok (.iconst (-1), 1) := by decide +kernel
theorem d_X0_take_6 : decode prog_2_method_14_code 6 = .ok (.iastore, 1) := by decide +kernel
theorem d_X0_take_7 : decode prog_2_method_14_code 7 = .ok (.return_, 1) := by decide +kernel
def f_X0_take (κ : it_KK) (u : Nat) (x1 : Int32) (S : it_SS) : Option (Unit × it_SS) :=
if it_bd x1 10 = true then
some ((), it_up S (u + 5) (x1 : Int32).toNatClampNeg (-1))
else none
set_option maxHeartbeats 4000000 in
set_option maxRecDepth 100000 in
theorem L_X0_take {g : it_G} {l : Launch} {κ : it_KK} {u : Nat} {x1 : Int32} (hb : it_wb κ) (hh : it_hs κ u) {S : it_SS} {P : Unit → it_SS → Prop} (h : it_ok (f_X0_take κ u x1 S) P) : it_Cn g l 1 it_m_X0_take [.ref u, .int x1] κ S (it_pv κ P) := by
  refine it_Cn.of (by decide +kernel) (Nat.le_of_ble_eq_true rfl) ?_
  rw [f_X0_take] at h
  show it_Ev g l 1 it_m_X0_take 0 0 0 [some (.ref u), some (.int x1)] [] κ S (it_pv κ P)
  refine ev_aload_n d_X0_take_0 rfl ?_
  refine ev_getRr (r := (u + 5)) rfl d_X0_take_1 fl_IcedTooSoon_House_24 (hh).1 rfl ?_
  refine ev_iload_n d_X0_take_4 rfl ?_
  refine ev_iconst d_X0_take_5 kv_iconst_m1 ?_
  obtain ⟨hb1, h⟩ := it_ok_g h
  refine ev_iast d_X0_take_6 (by decide) (hh).2.2.2.2.2.1 (it_bd_in hb1) ?_
  exact ev_ret (v := none) ⟨d_X0_take_7, rfl⟩ (by decide) (by decide) ⟨rfl, rfl, it_ok_r h⟩
theorem d_X0_addIce_0 : decode prog_2_method_15_code 0 = .ok (.aload_n 0, 1) := by decide +kernel
theorem d_X0_addIce_1 : decode prog_2_method_15_code 1 = .ok (.getfield 30, 3) := by decide +kernel
theorem d_X0_addIce_4 : decode prog_2_method_15_code 4 = .ok (.iload_n 1, 1) := by decide +kernel
theorem d_X0_addIce_5 : decode prog_2_method_15_code 5 = .ok (.bipush 99, 2) := by decide +kernel
theorem d_X0_addIce_7 : decode prog_2_method_15_code 7 = .ok (.aload_n 0, 1) := by decide +kernel
theorem d_X0_addIce_8 : decode prog_2_method_15_code 8 = .ok (.getfield 30, 3) := by decide +kernel
theorem d_X0_addIce_11 : decode prog_2_method_15_code 11 = .ok (.iload_n 1, 1) := by decide +kernel
theorem d_X0_addIce_12 : decode prog_2_method_15_code 12 = .ok (.iaload, 1) := by decide +kernel
theorem d_X0_addIce_13 : decode prog_2_method_15_code 13 = .ok (.iload_n 2, 1) := by decide +kernel
theorem d_X0_addIce_14 : decode prog_2_method_15_code 14 = .ok (.iadd, 1) := by decide +kernel
theorem d_X0_addIce_15 : decode prog_2_method_15_code 15 = .ok (.invokestatic 74, 3) := by decide +kernel
theorem d_X0_addIce_18 : decode prog_2_method_15_code 18 = .ok (.iastore, 1) := by decide +kernel
theorem d_X0_addIce_19 : decode prog_2_method_15_code 19 = .ok (.return_, 1) := by decide +kernel
def f_X0_addIce (κ : it_KK) (u : Nat) (x1 : Int32) (x2 : Int32) (S : it_SS) : Option (Unit × it_SS) :=
if it_bd x1 10 = true then
some ((), it_up S (u + 7) (x1 : Int32).toNatClampNeg (if ((S (u + 7) (x1 : Int32).toNatClampNeg) + x2) < 99 then ((S (u + 7) (x1 : Int32).toNatClampNeg) + x2) else 99))
else none
set_option maxHeartbeats 4000000 in
set_option maxRecDepth 100000 in
theorem L_X0_addIce {g : it_G} {l : Launch} {κ : it_KK} {u : Nat} {x1 : Int32} {x2 : Int32} (hb : it_wb κ) (hh : it_hs κ u) {S : it_SS} {P : Unit → it_SS → Prop} (h : it_ok (f_X0_addIce κ u x1 x2 S) P) : it_Cn g l 2 it_m_X0_addIce [.ref u, .int x1, .int x2] κ S (it_pv κ P) := by
  refine it_Cn.of (by decide +kernel) (Nat.le_of_ble_eq_true rfl) ?_
  rw [f_X0_addIce] at h
  show it_Ev g l 2 it_m_X0_addIce 0 0 0 [some (.ref u), some (.int x1), some (.int x2)] [] κ S (it_pv κ P)
  refine ev_aload_n d_X0_addIce_0 rfl ?_
  refine ev_getRr (r := (u + 7)) rfl d_X0_addIce_1 fl_IcedTooSoon_House_30 (hh).1 rfl ?_
  refine ev_iload_n d_X0_addIce_4 rfl ?_
  refine ev_bipush d_X0_addIce_5 kv_bipush_99 ?_
  refine ev_aload_n d_X0_addIce_7 rfl ?_
  refine ev_getRr (r := (u + 7)) rfl d_X0_addIce_8 fl_IcedTooSoon_House_30 (hh).1 rfl ?_
  refine ev_iload_n d_X0_addIce_11 rfl ?_
  obtain ⟨hb1, h⟩ := it_ok_g h
  refine ev_iald d_X0_addIce_12 (hh).2.2.2.2.2.2.2 (it_bd_in hb1) ?_
  refine ev_iload_n d_X0_addIce_13 rfl ?_
  refine ev_iadd d_X0_addIce_14 ?_
  refine ev_mmin d_X0_addIce_15 mp_IcedTooSoon_House_74 (by decide) (Nat.le_of_ble_eq_true rfl) (by decide) (by decide) ?_
  refine ev_iast d_X0_addIce_18 (by decide) (hh).2.2.2.2.2.2.2 (it_bd_in hb1) ?_
  exact ev_ret (v := none) ⟨d_X0_addIce_19, rfl⟩ (by decide) (by decide) ⟨rfl, rfl, it_ok_r h⟩
theorem d_X1_name_0 : decode prog_3_method_3_code 0 = .ok (.aload_n 0, 1) := by decide +kernel
theorem d_X1_name_1 : decode prog_3_method_3_code 1 = .ok (.getfield 19, 3) := by decide +kernel
theorem d_X1_name_4 : decode prog_3_method_3_code 4 = .ok (.iconst 0, 1) := by decide +kernel
theorem d_X1_name_5 : decode prog_3_method_3_code 5 = .ok (.iload_n 1, 1) := by decide +kernel
theorem d_X1_name_6 : decode prog_3_method_3_code 6 = .ok (.iastore, 1) := by decide +kernel
theorem d_X1_name_7 : decode prog_3_method_3_code 7 = .ok (.aload_n 0, 1) := by decide +kernel
theorem d_X1_name_8 : decode prog_3_method_3_code 8 = .ok (.getfield 19, 3) := by decide +kernel
theorem d_X1_name_11 : decode prog_3_method_3_code 11 = .ok (.iconst 1, 1) := by decide +kernel
theorem d_X1_name_12 : decode prog_3_method_3_code 12 = .ok (.iload_n 2, 1) := by decide +kernel
theorem d_X1_name_13 : decode prog_3_method_3_code 13 = .ok (.iastore, 1) := by decide +kernel
theorem d_X1_name_14 : decode prog_3_method_3_code 14 = .ok (.aload_n 0, 1) := by decide +kernel
theorem d_X1_name_15 : decode prog_3_method_3_code 15 = .ok (.getfield 19, 3) := by decide +kernel
theorem d_X1_name_18 : decode prog_3_method_3_code 18 = .ok (.iconst 2, 1) := by decide +kernel
theorem d_X1_name_19 : decode prog_3_method_3_code 19 = .ok (.iload_n 3, 1) := by decide +kernel
theorem d_X1_name_20 : decode prog_3_method_3_code 20 = .ok (.iastore, 1) := by decide +kernel
theorem d_X1_name_21 : decode prog_3_method_3_code 21 = .ok (.aload_n 0, 1) := by decide +kernel
theorem d_X1_name_22 : decode prog_3_method_3_code 22 = .ok (.getfield 19, 3) := by decide +kernel
theorem d_X1_name_25 : decode prog_3_method_3_code 25 = .ok (.iconst 3, 1) := by decide +kernel
theorem d_X1_name_26 : decode prog_3_method_3_code 26 = .ok (.iload 4, 2) := by decide +kernel
theorem d_X1_name_28 : decode prog_3_method_3_code 28 = .ok (.iastore, 1) := by decide +kernel
theorem d_X1_name_29 : decode prog_3_method_3_code 29 = .ok (.aload_n 0, 1) := by decide +kernel
theorem d_X1_name_30 : decode prog_3_method_3_code 30 = .ok (.getfield 19, 3) := by decide +kernel
theorem d_X1_name_33 : decode prog_3_method_3_code 33 = .ok (.iconst 4, 1) := by decide +kernel
theorem d_X1_name_34 : decode prog_3_method_3_code 34 = .ok (.iload 5, 2) := by decide +kernel
theorem d_X1_name_36 : decode prog_3_method_3_code 36 = .ok (.iastore, 1) := by decide +kernel
theorem d_X1_name_37 : decode prog_3_method_3_code 37 = .ok (.aload_n 0, 1) := by decide +kernel
theorem d_X1_name_38 : decode prog_3_method_3_code 38 = .ok (.getfield 19, 3) := by decide +kernel
theorem d_X1_name_41 : decode prog_3_method_3_code 41 = .ok (.iconst 5, 1) := by decide +kernel
theorem d_X1_name_42 : decode prog_3_method_3_code 42 = .ok (.iload 6, 2) := by decide +kernel
theorem d_X1_name_44 : decode prog_3_method_3_code 44 = .ok (.iastore, 1) := by decide +kernel
theorem d_X1_name_45 : decode prog_3_method_3_code 45 = .ok (.return_, 1) := by decide +kernel
def f_X1_name (κ : it_KK) (x1 : Int32) (x2 : Int32) (x3 : Int32) (x4 : Int32) (x5 : Int32) (x6 : Int32) (S : it_SS) : Option (Unit × it_SS) :=
some ((), it_up (it_up (it_up (it_up (it_up (it_up S 3 (0 : Int32).toNatClampNeg x1) 3 (1 : Int32).toNatClampNeg x2) 3 (2 : Int32).toNatClampNeg x3) 3 (3 : Int32).toNatClampNeg x4) 3 (4 : Int32).toNatClampNeg x5) 3 (5 : Int32).toNatClampNeg x6)
set_option maxHeartbeats 4000000 in
set_option maxRecDepth 100000 in
theorem L_X1_name {g : it_G} {l : Launch} {κ : it_KK} {x1 : Int32} {x2 : Int32} {x3 : Int32} {x4 : Int32} {x5 : Int32} {x6 : Int32} (hb : it_wb κ) {S : it_SS} {P : Unit → it_SS → Prop} (h : it_ok (f_X1_name κ x1 x2 x3 x4 x5 x6 S) P) : it_Cn g l 1 it_m_X1_name [.ref 1, .int x1, .int x2, .int x3, .int x4, .int x5, .int x6] κ S (it_pv κ P) := by
  refine it_Cn.of (by decide +kernel) (Nat.le_of_ble_eq_true rfl) ?_
  rw [f_X1_name] at h
  show it_Ev g l 1 it_m_X1_name 0 0 0 [some (.ref 1), some (.int x1), some (.int x2), some (.int x3), some (.int x4), some (.int x5), some (.int x6)] [] κ S (it_pv κ P)
  refine ev_aload_n d_X1_name_0 rfl ?_
  refine ev_getRr (r := 3) rfl d_X1_name_1 fl_IcedTooSoon_Lawbook_19 hb.1 rfl ?_
  refine ev_iconst d_X1_name_4 kv_iconst_0 ?_
  refine ev_iload_n d_X1_name_5 rfl ?_
  refine ev_iast d_X1_name_6 (by decide) (hb).2.2.1 (it_bd_in (by decide)) ?_
  refine ev_aload_n d_X1_name_7 rfl ?_
  refine ev_getRr (r := 3) rfl d_X1_name_8 fl_IcedTooSoon_Lawbook_19 hb.1 rfl ?_
  refine ev_iconst d_X1_name_11 kv_iconst_1 ?_
  refine ev_iload_n d_X1_name_12 rfl ?_
  refine ev_iast d_X1_name_13 (by decide) (hb).2.2.1 (it_bd_in (by decide)) ?_
  refine ev_aload_n d_X1_name_14 rfl ?_
  refine ev_getRr (r := 3) rfl d_X1_name_15 fl_IcedTooSoon_Lawbook_19 hb.1 rfl ?_
  refine ev_iconst d_X1_name_18 kv_iconst_2 ?_
  refine ev_iload_n d_X1_name_19 rfl ?_
  refine ev_iast d_X1_name_20 (by decide) (hb).2.2.1 (it_bd_in (by decide)) ?_
  refine ev_aload_n d_X1_name_21 rfl ?_
  refine ev_getRr (r := 3) rfl d_X1_name_22 fl_IcedTooSoon_Lawbook_19 hb.1 rfl ?_
  refine ev_iconst d_X1_name_25 kv_iconst_3 ?_
  refine ev_iload d_X1_name_26 rfl ?_
  refine ev_iast d_X1_name_28 (by decide) (hb).2.2.1 (it_bd_in (by decide)) ?_
  refine ev_aload_n d_X1_name_29 rfl ?_
  refine ev_getRr (r := 3) rfl d_X1_name_30 fl_IcedTooSoon_Lawbook_19 hb.1 rfl ?_
  refine ev_iconst d_X1_name_33 kv_iconst_4 ?_
  refine ev_iload d_X1_name_34 rfl ?_
  refine ev_iast d_X1_name_36 (by decide) (hb).2.2.1 (it_bd_in (by decide)) ?_
  refine ev_aload_n d_X1_name_37 rfl ?_
  refine ev_getRr (r := 3) rfl d_X1_name_38 fl_IcedTooSoon_Lawbook_19 hb.1 rfl ?_
  refine ev_iconst d_X1_name_41 kv_iconst_5 ?_
  refine ev_iload d_X1_name_42 rfl ?_
  refine ev_iast d_X1_name_44 (by decide) (hb).2.2.1 (it_bd_in (by decide)) ?_
  exact ev_ret (v := none) ⟨d_X1_name_45, rfl⟩ (by decide) (by decide) ⟨rfl, rfl, it_ok_r h⟩
theorem d_X1_reckon_0 : decode prog_3_method_4_code 0 = .ok (.iload_n 1, 1) := by decide +kernel
theorem d_X1_reckon_1 : decode prog_3_method_4_code 1 = .ok (.iconst 0, 1) := by decide +kernel
theorem d_X1_reckon_2 : decode prog_3_method_4_code 2 = .ok (.aload_n 0, 1) := by decide +kernel
theorem d_X1_reckon_3 : decode prog_3_method_4_code 3 = .ok (.getfield 26, 3) := by decide +kernel
theorem d_X1_reckon_6 : decode prog_3_method_4_code 6 = .ok (.iconst 1, 1) := by decide +kernel
theorem d_X1_reckon_7 : decode prog_3_method_4_code 7 = .ok (.isub, 1) := by decide +kernel
theorem d_X1_reckon_8 : decode prog_3_method_4_code 8 = .ok (.invokestatic 30, 3) := by decide +kernel
theorem d_X1_reckon_11 : decode prog_3_method_4_code 11 = .ok (.ifCond .ne 21, 3) := by decide +kernel
theorem d_X1_reckon_14 : decode prog_3_method_4_code 14 = .ok (.iload_n 2, 1) := by decide +kernel
theorem d_X1_reckon_15 : decode prog_3_method_4_code 15 = .ok (.iconst 0, 1) := by decide +kernel
theorem d_X1_reckon_16 : decode prog_3_method_4_code 16 = .ok (.iconst 2, 1) := by decide +kernel
theorem d_X1_reckon_17 : decode prog_3_method_4_code 17 = .ok (.invokestatic 30, 3) := by decide +kernel
theorem d_X1_reckon_20 : decode prog_3_method_4_code 20 = .ok (.ifCond .ne 12, 3) := by decide +kernel
theorem d_X1_reckon_23 : decode prog_3_method_4_code 23 = .ok (.aload_n 0, 1) := by decide +kernel
theorem d_X1_reckon_24 : decode prog_3_method_4_code 24 = .ok (.getfield 11, 3) := by decide +kernel
theorem d_X1_reckon_27 : decode prog_3_method_4_code 27 = .ok (.iload_n 1, 1) := by decide +kernel
theorem d_X1_reckon_28 : decode prog_3_method_4_code 28 = .ok (.aaload, 1) := by decide +kernel
theorem d_X1_reckon_29 : decode prog_3_method_4_code 29 = .ok (.ifnonnull 5, 3) := by decide +kernel
theorem d_X1_reckon_32 : decode prog_3_method_4_code 32 = .ok (.iconst 0, 1) := by decide +kernel
theorem d_X1_reckon_33 : decode prog_3_method_4_code 33 = .ok (.ireturn, 1) := by decide +kernel
theorem d_X1_reckon_34 : decode prog_3_method_4_code 34 = .ok (.aload_n 0, 1) := by decide +kernel
theorem d_X1_reckon_35 : decode prog_3_method_4_code 35 = .ok (.getfield 11, 3) := by decide +kernel
theorem d_X1_reckon_38 : decode prog_3_method_4_code 38 = .ok (.iload_n 1, 1) := by decide +kernel
theorem d_X1_reckon_39 : decode prog_3_method_4_code 39 = .ok (.aaload, 1) := by decide +kernel
theorem d_X1_reckon_40 : decode prog_3_method_4_code 40 = .ok (.getfield 34, 3) := by decide +kernel
theorem d_X1_reckon_43 : decode prog_3_method_4_code 43 = .ok (.astore_n 3, 1) := by decide +kernel
theorem d_X1_reckon_44 : decode prog_3_method_4_code 44 = .ok (.iload_n 2, 1) := by decide +kernel
theorem d_X1_reckon_45 : decode prog_3_method_4_code 45 = .ok (.ifCond .ne 7, 3) := by decide +kernel
theorem d_X1_reckon_48 : decode prog_3_method_4_code 48 = .ok (.iconst 0, 1) := by decide +kernel
theorem d_X1_reckon_49 : decode prog_3_method_4_code 49 = .ok (.goto 16, 3) := by decide +kernel
theorem d_X1_reckon_52 : decode prog_3_method_4_code 52 = .ok (.aload_n 0, 1) := by decide +kernel
theorem d_X1_reckon_53 : decode prog_3_method_4_code 53 = .ok (.getfield 11, 3) := by decide +kernel
theorem d_X1_reckon_56 : decode prog_3_method_4_code 56 = .ok (.iload_n 1, 1) := by decide +kernel
theorem d_X1_reckon_57 : decode prog_3_method_4_code 57 = .ok (.aaload, 1) := by decide +kernel
theorem d_X1_reckon_58 : decode prog_3_method_4_code 58 = .ok (.getfield 37, 3) := by decide +kernel
theorem d_X1_reckon_61 : decode prog_3_method_4_code 61 = .ok (.iload_n 2, 1) := by decide +kernel
theorem d_X1_reckon_62 : decode prog_3_method_4_code 62 = .ok (.iconst 1, 1) := by decide +kernel
theorem d_X1_reckon_63 : decode prog_3_method_4_code 63 = .ok (.isub, 1) := by decide +kernel
theorem d_X1_reckon_64 : decode prog_3_method_4_code 64 = .ok (.iaload, 1) := by decide +kernel
theorem d_X1_reckon_65 : decode prog_3_method_4_code 65 = .ok (.istore 4, 2) := by decide +kernel
theorem d_X1_reckon_67 : decode prog_3_method_4_code 67 = .ok (.aload_n 0, 1) := by decide +kernel
theorem d_X1_reckon_68 : decode prog_3_method_4_code 68 = .ok (.getfield 11, 3) := by decide +kernel
theorem d_X1_reckon_71 : decode prog_3_method_4_code 71 = .ok (.iload_n 1, 1) := by decide +kernel
theorem d_X1_reckon_72 : decode prog_3_method_4_code 72 = .ok (.aaload, 1) := by decide +kernel
theorem d_X1_reckon_73 : decode prog_3_method_4_code 73 = .ok (.getfield 37, 3) := by decide +kernel
theorem d_X1_reckon_76 : decode prog_3_method_4_code 76 = .ok (.iload_n 2, 1) := by decide +kernel
theorem d_X1_reckon_77 : decode prog_3_method_4_code 77 = .ok (.iaload, 1) := by decide +kernel
theorem d_X1_reckon_78 : decode prog_3_method_4_code 78 = .ok (.istore 5, 2) := by decide +kernel
theorem d_X1_reckon_80 : decode prog_3_method_4_code 80 = .ok (.iconst 0, 1) := by decide +kernel
theorem d_X1_reckon_81 : decode prog_3_method_4_code 81 = .ok (.istore 6, 2) := by decide +kernel
theorem d_X1_reckon_83 : decode prog_3_method_4_code 83 = .ok (.iload 4, 2) := by decide +kernel
theorem d_X1_reckon_85 : decode prog_3_method_4_code 85 = .ok (.istore 7, 2) := by decide +kernel
theorem d_X1_reckon_87 : decode prog_3_method_4_code 87 = .ok (.iload 7, 2) := by decide +kernel
theorem d_X1_reckon_89 : decode prog_3_method_4_code 89 = .ok (.iload 5, 2) := by decide +kernel
theorem d_X1_reckon_91 : decode prog_3_method_4_code 91 = .ok (.if_icmp .ge 158, 3) := by decide +kernel
theorem d_X1_reckon_94 : decode prog_3_method_4_code 94 = .ok (.iload 6, 2) := by decide +kernel
theorem d_X1_reckon_96 : decode prog_3_method_4_code 96 = .ok (.bipush 40, 2) := by decide +kernel
theorem d_X1_reckon_98 : decode prog_3_method_4_code 98 = .ok (.if_icmp .ge 151, 3) := by decide +kernel
theorem d_X1_reckon_101 : decode prog_3_method_4_code 101 = .ok (.aload_n 3, 1) := by decide +kernel
theorem d_X1_reckon_102 : decode prog_3_method_4_code 102 = .ok (.iload 7, 2) := by decide +kernel
theorem d_X1_reckon_104 : decode prog_3_method_4_code 104 = .ok (.iaload, 1) := by decide +kernel
theorem d_X1_reckon_105 : decode prog_3_method_4_code 105 = .ok (.sipush 10000, 3) := by decide +kernel
theorem d_X1_reckon_108 : decode prog_3_method_4_code 108 = .ok (.isub, 1) := by decide +kernel
theorem d_X1_reckon_109 : decode prog_3_method_4_code 109 = .ok (.istore 8, 2) := by decide +kernel
theorem d_X1_reckon_111 : decode prog_3_method_4_code 111 = .ok (.iload 8, 2) := by decide +kernel
theorem d_X1_reckon_113 : decode prog_3_method_4_code 113 = .ok (.ifCond .ge 20, 3) := by decide +kernel
theorem d_X1_reckon_116 : decode prog_3_method_4_code 116 = .ok (.aload_n 0, 1) := by decide +kernel
theorem d_X1_reckon_117 : decode prog_3_method_4_code 117 = .ok (.getfield 23, 3) := by decide +kernel
theorem d_X1_reckon_120 : decode prog_3_method_4_code 120 = .ok (.iload 6, 2) := by decide +kernel
theorem d_X1_reckon_122 : decode prog_3_method_4_code 122 = .ok (.iinc 6 1, 3) := by decide +kernel
theorem d_X1_reckon_125 : decode prog_3_method_4_code 125 = .ok (.aload_n 3, 1) := by decide +kernel
theorem d_X1_reckon_126 : decode prog_3_method_4_code 126 = .ok (.iload 7, 2) := by decide +kernel
theorem d_X1_reckon_128 : decode prog_3_method_4_code 128 = .ok (.iaload, 1) := by decide +kernel
theorem d_X1_reckon_129 : decode prog_3_method_4_code 129 = .ok (.iastore, 1) := by decide +kernel
theorem d_X1_reckon_130 : decode prog_3_method_4_code 130 = .ok (.goto 113, 3) := by decide +kernel
theorem d_X1_reckon_133 : decode prog_3_method_4_code 133 = .ok (.iload 8, 2) := by decide +kernel
theorem d_X1_reckon_135 : decode prog_3_method_4_code 135 = .ok (.invokestatic 40, 3) := by decide +kernel
theorem d_X1_reckon_138 : decode prog_3_method_4_code 138 = .ok (.ifCond .eq 26, 3) := by decide +kernel
theorem d_X1_reckon_141 : decode prog_3_method_4_code 141 = .ok (.aload_n 0, 1) := by decide +kernel
theorem d_X1_reckon_142 : decode prog_3_method_4_code 142 = .ok (.getfield 23, 3) := by decide +kernel
theorem d_X1_reckon_145 : decode prog_3_method_4_code 145 = .ok (.iload 6, 2) := by decide +kernel
theorem d_X1_reckon_147 : decode prog_3_method_4_code 147 = .ok (.iinc 6 1, 3) := by decide +kernel
theorem d_X1_reckon_150 : decode prog_3_method_4_code 150 = .ok (.aload_n 0, 1) := by decide +kernel
theorem d_X1_reckon_151 : decode prog_3_method_4_code 151 = .ok (.getfield 19, 3) := by decide +kernel
theorem d_X1_reckon_154 : decode prog_3_method_4_code 154 = .ok (.iload 8, 2) := by decide +kernel
theorem d_X1_reckon_156 : decode prog_3_method_4_code 156 = .ok (.bipush 6, 2) := by decide +kernel
theorem d_X1_reckon_158 : decode prog_3_method_4_code 158 = .ok (.isub, 1) := by decide +kernel
theorem d_X1_reckon_159 : decode prog_3_method_4_code 159 = .ok (.iaload, 1) := by decide +kernel
theorem d_X1_reckon_160 : decode prog_3_method_4_code 160 = .ok (.iastore, 1) := by decide +kernel
theorem d_X1_reckon_161 : decode prog_3_method_4_code 161 = .ok (.goto 82, 3) := by decide +kernel
theorem d_X1_reckon_164 : decode prog_3_method_4_code 164 = .ok (.iload 8, 2) := by decide +kernel
theorem d_X1_reckon_166 : decode prog_3_method_4_code 166 = .ok (.invokestatic 44, 3) := by decide +kernel
theorem d_X1_reckon_169 : decode prog_3_method_4_code 169 = .ok (.ifCond .eq 35, 3) := by decide +kernel
theorem d_X1_reckon_172 : decode prog_3_method_4_code 172 = .ok (.iload 6, 2) := by decide +kernel
theorem d_X1_reckon_174 : decode prog_3_method_4_code 174 = .ok (.iconst 1, 1) := by decide +kernel
theorem d_X1_reckon_175 : decode prog_3_method_4_code 175 = .ok (.if_icmp .lt 29, 3) := by decide +kernel
theorem d_X1_reckon_178 : decode prog_3_method_4_code 178 = .ok (.aload_n 0, 1) := by decide +kernel
theorem d_X1_reckon_179 : decode prog_3_method_4_code 179 = .ok (.getfield 23, 3) := by decide +kernel
theorem d_X1_reckon_182 : decode prog_3_method_4_code 182 = .ok (.iload 6, 2) := by decide +kernel
theorem d_X1_reckon_184 : decode prog_3_method_4_code 184 = .ok (.iconst 1, 1) := by decide +kernel
theorem d_X1_reckon_185 : decode prog_3_method_4_code 185 = .ok (.isub, 1) := by decide +kernel
theorem d_X1_reckon_186 : decode prog_3_method_4_code 186 = .ok (.iload 8, 2) := by decide +kernel
theorem d_X1_reckon_188 : decode prog_3_method_4_code 188 = .ok (.aload_n 0, 1) := by decide +kernel
theorem d_X1_reckon_189 : decode prog_3_method_4_code 189 = .ok (.getfield 23, 3) := by decide +kernel
theorem d_X1_reckon_192 : decode prog_3_method_4_code 192 = .ok (.iload 6, 2) := by decide +kernel
theorem d_X1_reckon_194 : decode prog_3_method_4_code 194 = .ok (.iconst 1, 1) := by decide +kernel
theorem d_X1_reckon_195 : decode prog_3_method_4_code 195 = .ok (.isub, 1) := by decide +kernel
theorem d_X1_reckon_196 : decode prog_3_method_4_code 196 = .ok (.iaload, 1) := by decide +kernel
theorem d_X1_reckon_197 : decode prog_3_method_4_code 197 = .ok (.invokestatic 47, 3) := by decide +kernel
theorem d_X1_reckon_200 : decode prog_3_method_4_code 200 = .ok (.iastore, 1) := by decide +kernel
theorem d_X1_reckon_201 : decode prog_3_method_4_code 201 = .ok (.goto 42, 3) := by decide +kernel
theorem d_X1_reckon_204 : decode prog_3_method_4_code 204 = .ok (.iload 6, 2) := by decide +kernel
theorem d_X1_reckon_206 : decode prog_3_method_4_code 206 = .ok (.iconst 2, 1) := by decide +kernel
theorem d_X1_reckon_207 : decode prog_3_method_4_code 207 = .ok (.if_icmp .lt 36, 3) := by decide +kernel
theorem d_X1_reckon_210 : decode prog_3_method_4_code 210 = .ok (.iinc 6 (-1), 3) := by decide +kernel
theorem d_X1_reckon_213 : decode prog_3_method_4_code 213 = .ok (.aload_n 0, 1) := by decide +kernel
theorem d_X1_reckon_214 : decode prog_3_method_4_code 214 = .ok (.getfield 23, 3) := by decide +kernel
theorem d_X1_reckon_217 : decode prog_3_method_4_code 217 = .ok (.iload 6, 2) := by decide +kernel
theorem d_X1_reckon_219 : decode prog_3_method_4_code 219 = .ok (.iconst 1, 1) := by decide +kernel
theorem d_X1_reckon_220 : decode prog_3_method_4_code 220 = .ok (.isub, 1) := by decide +kernel
theorem d_X1_reckon_221 : decode prog_3_method_4_code 221 = .ok (.aload_n 0, 1) := by decide +kernel
theorem d_X1_reckon_222 : decode prog_3_method_4_code 222 = .ok (.getfield 23, 3) := by decide +kernel
theorem d_X1_reckon_225 : decode prog_3_method_4_code 225 = .ok (.iload 6, 2) := by decide +kernel
theorem d_X1_reckon_227 : decode prog_3_method_4_code 227 = .ok (.iconst 1, 1) := by decide +kernel
theorem d_X1_reckon_228 : decode prog_3_method_4_code 228 = .ok (.isub, 1) := by decide +kernel
theorem d_X1_reckon_229 : decode prog_3_method_4_code 229 = .ok (.iaload, 1) := by decide +kernel
theorem d_X1_reckon_230 : decode prog_3_method_4_code 230 = .ok (.iload 8, 2) := by decide +kernel
theorem d_X1_reckon_232 : decode prog_3_method_4_code 232 = .ok (.aload_n 0, 1) := by decide +kernel
theorem d_X1_reckon_233 : decode prog_3_method_4_code 233 = .ok (.getfield 23, 3) := by decide +kernel
theorem d_X1_reckon_236 : decode prog_3_method_4_code 236 = .ok (.iload 6, 2) := by decide +kernel
theorem d_X1_reckon_238 : decode prog_3_method_4_code 238 = .ok (.iaload, 1) := by decide +kernel
theorem d_X1_reckon_239 : decode prog_3_method_4_code 239 = .ok (.invokestatic 51, 3) := by decide +kernel
theorem d_X1_reckon_242 : decode prog_3_method_4_code 242 = .ok (.iastore, 1) := by decide +kernel
theorem d_X1_reckon_243 : decode prog_3_method_4_code 243 = .ok (.iinc 7 1, 3) := by decide +kernel
theorem d_X1_reckon_246 : decode prog_3_method_4_code 246 = .ok (.goto (-159), 3) := by decide +kernel
theorem d_X1_reckon_249 : decode prog_3_method_4_code 249 = .ok (.aload_n 0, 1) := by decide +kernel
theorem d_X1_reckon_250 : decode prog_3_method_4_code 250 = .ok (.getfield 23, 3) := by decide +kernel
theorem d_X1_reckon_253 : decode prog_3_method_4_code 253 = .ok (.iconst 0, 1) := by decide +kernel
theorem d_X1_reckon_254 : decode prog_3_method_4_code 254 = .ok (.iaload, 1) := by decide +kernel
theorem d_X1_reckon_255 : decode prog_3_method_4_code 255 = .ok (.ireturn, 1) := by decide +kernel
def lp_X1_reckon_87 (κ : it_KK) (x1 : Int32) (x2 : Int32) (k87 : (it_SS → Option (Int32 × it_SS))) : Nat → Int32 → Int32 → Int32 → it_SS → Option (Int32 × it_SS)
  | 0, _, _, _, _ => none
  | n87 + 1, v5, v6, v7, S => if v5 ≤ v7 then
k87  S
else
if 40 ≤ v6 then
k87  S
else
if it_bd v7 ((κ.2.1 ((it_el 1 (x1 : Int32).toNatClampNeg) + 1)).2) = true then
if 0 ≤ ((S ((it_el 1 (x1 : Int32).toNatClampNeg) + 1) (v7 : Int32).toNatClampNeg) - 10000) then
it_bi (f_X3_isName κ ((S ((it_el 1 (x1 : Int32).toNatClampNeg) + 1) (v7 : Int32).toNatClampNeg) - 10000) S) (fun r17 S16 =>
if r17 = 0 then
it_bi (f_X3_isTurn κ ((S ((it_el 1 (x1 : Int32).toNatClampNeg) + 1) (v7 : Int32).toNatClampNeg) - 10000) S16) (fun r20 S19 =>
if r20 = 0 then
if v6 < 2 then
lp_X1_reckon_87 κ x1 x2 k87 n87 v5 v6 (v7 + 1) S19
else
if it_bd ((v6 + (-1)) - 1) 40 = true then
if it_bd (v6 + (-1)) 40 = true then
it_bi (f_X1_joined κ (S19 4 (((v6 + (-1)) - 1) : Int32).toNatClampNeg) ((S ((it_el 1 (x1 : Int32).toNatClampNeg) + 1) (v7 : Int32).toNatClampNeg) - 10000) (S19 4 ((v6 + (-1)) : Int32).toNatClampNeg) S19) (fun r26 S25 =>
lp_X1_reckon_87 κ x1 x2 k87 n87 v5 (v6 + (-1)) (v7 + 1) (it_up S25 4 (((v6 + (-1)) - 1) : Int32).toNatClampNeg r26))
else none
else none
else
if v6 < 1 then
if v6 < 2 then
lp_X1_reckon_87 κ x1 x2 k87 n87 v5 v6 (v7 + 1) S19
else
if it_bd ((v6 + (-1)) - 1) 40 = true then
if it_bd (v6 + (-1)) 40 = true then
it_bi (f_X1_joined κ (S19 4 (((v6 + (-1)) - 1) : Int32).toNatClampNeg) ((S ((it_el 1 (x1 : Int32).toNatClampNeg) + 1) (v7 : Int32).toNatClampNeg) - 10000) (S19 4 ((v6 + (-1)) : Int32).toNatClampNeg) S19) (fun r32 S31 =>
lp_X1_reckon_87 κ x1 x2 k87 n87 v5 (v6 + (-1)) (v7 + 1) (it_up S31 4 (((v6 + (-1)) - 1) : Int32).toNatClampNeg r32))
else none
else none
else
if it_bd (v6 - 1) 40 = true then
it_bi (f_X1_turned κ ((S ((it_el 1 (x1 : Int32).toNatClampNeg) + 1) (v7 : Int32).toNatClampNeg) - 10000) (S19 4 ((v6 - 1) : Int32).toNatClampNeg) S19) (fun r35 S34 =>
lp_X1_reckon_87 κ x1 x2 k87 n87 v5 v6 (v7 + 1) (it_up S34 4 ((v6 - 1) : Int32).toNatClampNeg r35))
else none)
else
if it_bd (((S ((it_el 1 (x1 : Int32).toNatClampNeg) + 1) (v7 : Int32).toNatClampNeg) - 10000) - 6) 6 = true then
if it_bd v6 40 = true then
lp_X1_reckon_87 κ x1 x2 k87 n87 v5 (v6 + 1) (v7 + 1) (it_up S16 4 (v6 : Int32).toNatClampNeg (S16 3 ((((S ((it_el 1 (x1 : Int32).toNatClampNeg) + 1) (v7 : Int32).toNatClampNeg) - 10000) - 6) : Int32).toNatClampNeg))
else none
else none)
else
if it_bd v6 40 = true then
lp_X1_reckon_87 κ x1 x2 k87 n87 v5 (v6 + 1) (v7 + 1) (it_up S 4 (v6 : Int32).toNatClampNeg (S ((it_el 1 (x1 : Int32).toNatClampNeg) + 1) (v7 : Int32).toNatClampNeg))
else none
else none
def f_X1_reckon (κ : it_KK) (x1 : Int32) (x2 : Int32) (S : it_SS) : Option (Int32 × it_SS) :=
it_bi (f_X5_isOutside κ x1 0 ((S 1 3) - 1) S) (fun r2 S1 =>
if r2 = 0 then
it_bi (f_X5_isOutside κ x2 0 2 S1) (fun r5 S4 =>
if r5 = 0 then
if it_bd x1 6 = true then
if κ.2.2 2 (x1 : Int32).toNatClampNeg = true then
if x2 = 0 then
if it_bd x2 3 = true then
lp_X1_reckon_87 κ x1 x2 (fun  S41 =>
some ((S41 4 (0 : Int32).toNatClampNeg), S41)) it_FU (S4 ((it_el 1 (x1 : Int32).toNatClampNeg) + 2) (x2 : Int32).toNatClampNeg) 0 0 S4
else none
else
if it_bd (x2 - 1) 3 = true then
if it_bd x2 3 = true then
lp_X1_reckon_87 κ x1 x2 (fun  S39 =>
some ((S39 4 (0 : Int32).toNatClampNeg), S39)) it_FU (S4 ((it_el 1 (x1 : Int32).toNatClampNeg) + 2) (x2 : Int32).toNatClampNeg) 0 (S4 ((it_el 1 (x1 : Int32).toNatClampNeg) + 2) ((x2 - 1) : Int32).toNatClampNeg) S4
else none
else none
else none else none
else
some (0, S4))
else
some (0, S1))
set_option maxHeartbeats 4000000 in
set_option maxRecDepth 100000 in
theorem Llp_X1_reckon_87 {g : it_G} {l : Launch} {κ : it_KK} {x1 : Int32} {x2 : Int32} (hb : it_wb κ) (q3 : it_ar κ ((it_el 1 (x1 : Int32).toNatClampNeg) + 1) ((κ.2.1 ((it_el 1 (x1 : Int32).toNatClampNeg) + 1)).2)) (hb11 : it_bd x2 3 = true) {P : Int32 → it_SS → Prop} {k87 : (it_SS → Option (Int32 × it_SS))} (hk87 : ∀  (S : it_SS), it_ok (k87  S) P → it_Ev g l 2 it_m_X1_reckon 0 0 249 [some (.ref 1), none, none, none, none, none, none, none, none] [] κ S (it_pi κ P)) : ∀ (n : Nat) (v5 : Int32) (v6 : Int32) (v7 : Int32) (S : it_SS), it_ok (lp_X1_reckon_87 κ x1 x2 k87 n v5 v6 v7 S) P → it_Ev g l 2 it_m_X1_reckon 0 0 87 [some (.ref 1), none, none, some (.ref ((it_el 1 (x1 : Int32).toNatClampNeg) + 1)), none, some (.int v5), some (.int v6), some (.int v7), none] [] κ S (it_pi κ P) := by
  intro n
  induction n with
  | zero =>
    intro _ _ _ _ h
    exact (it_ok_n h).elim
  | succ n87 ih87 =>
    intro v5 v6 v7 S h
    rw [lp_X1_reckon_87] at h
    refine ev_iload d_X1_reckon_87 rfl ?_
    refine ev_iload d_X1_reckon_89 rfl ?_
    refine ev_icmp_ge (tgt := 249) d_X1_reckon_91 (by decide) (fun hc12 => ?_) (fun hc12 => ?_)
    · have h := it_ok_t h hc12
      refine ev_keep [true, false, false, false, false, false, false, false, false] ?_
      exact hk87  _ h
    · have h := it_ok_f h hc12
      refine ev_iload d_X1_reckon_94 rfl ?_
      refine ev_bipush d_X1_reckon_96 kv_bipush_40 ?_
      refine ev_icmp_ge (tgt := 249) d_X1_reckon_98 (by decide) (fun hc13 => ?_) (fun hc13 => ?_)
      · have h := it_ok_t h hc13
        refine ev_keep [true, false, false, false, false, false, false, false, false] ?_
        exact hk87  _ h
      · have h := it_ok_f h hc13
        refine ev_aload_n d_X1_reckon_101 rfl ?_
        refine ev_iload d_X1_reckon_102 rfl ?_
        obtain ⟨hb14, h⟩ := it_ok_g h
        refine ev_iald d_X1_reckon_104 q3 (it_bd_in hb14) ?_
        refine ev_sipush d_X1_reckon_105 kv_sipush_10000 ?_
        refine ev_isub d_X1_reckon_108 ?_
        refine ev_istore d_X1_reckon_109 (by decide) ?_
        show it_Ev g l 2 it_m_X1_reckon 0 0 111 [some (.ref 1), none, none, some (.ref ((it_el 1 (x1 : Int32).toNatClampNeg) + 1)), none, some (.int v5), some (.int v6), some (.int v7), some (.int ((S ((it_el 1 (x1 : Int32).toNatClampNeg) + 1) (v7 : Int32).toNatClampNeg) - 10000))] [] κ S (it_pi κ P)
        refine ev_iload d_X1_reckon_111 rfl ?_
        refine ev_if_ge (tgt := 133) d_X1_reckon_113 (by decide) (fun hc15 => ?_) (fun hc15 => ?_)
        · have h := it_ok_t h hc15
          refine ev_iload d_X1_reckon_133 rfl ?_
          refine ev_callS (M' := it_m_X3_isName) (d' := 1) (As := [.int ((S ((it_el 1 (x1 : Int32).toNatClampNeg) + 1) (v7 : Int32).toNatClampNeg) - 10000)]) d_X1_reckon_135 ml_IcedTooSoon_Lawbook_40 rfl rfl (Nat.le_of_ble_eq_true rfl) (by decide) (by decide) (by decide) (L_X3_isName  (it_ok_b h)) (fun _ _ _ _ q => by cases q.1; rfl) ?_
          rintro _ _ S16 ⟨rfl, r17, rfl, h⟩
          show it_Ev g l 2 it_m_X1_reckon 0 0 138 [some (.ref 1), none, none, some (.ref ((it_el 1 (x1 : Int32).toNatClampNeg) + 1)), none, some (.int v5), some (.int v6), some (.int v7), some (.int ((S ((it_el 1 (x1 : Int32).toNatClampNeg) + 1) (v7 : Int32).toNatClampNeg) - 10000))] [.int r17] κ S16 (it_pi κ P)
          refine ev_if_eq (tgt := 164) d_X1_reckon_138 (by decide) (fun hc18 => ?_) (fun hc18 => ?_)
          · have h := it_ok_t h hc18
            refine ev_iload d_X1_reckon_164 rfl ?_
            refine ev_callS (M' := it_m_X3_isTurn) (d' := 1) (As := [.int ((S ((it_el 1 (x1 : Int32).toNatClampNeg) + 1) (v7 : Int32).toNatClampNeg) - 10000)]) d_X1_reckon_166 ml_IcedTooSoon_Lawbook_44 rfl rfl (Nat.le_of_ble_eq_true rfl) (by decide) (by decide) (by decide) (L_X3_isTurn  (it_ok_b h)) (fun _ _ _ _ q => by cases q.1; rfl) ?_
            rintro _ _ S19 ⟨rfl, r20, rfl, h⟩
            show it_Ev g l 2 it_m_X1_reckon 0 0 169 [some (.ref 1), none, none, some (.ref ((it_el 1 (x1 : Int32).toNatClampNeg) + 1)), none, some (.int v5), some (.int v6), some (.int v7), some (.int ((S ((it_el 1 (x1 : Int32).toNatClampNeg) + 1) (v7 : Int32).toNatClampNeg) - 10000))] [.int r20] κ S19 (it_pi κ P)
            refine ev_if_eq (tgt := 204) d_X1_reckon_169 (by decide) (fun hc21 => ?_) (fun hc21 => ?_)
            · have h := it_ok_t h hc21
              refine ev_iload d_X1_reckon_204 rfl ?_
              refine ev_iconst d_X1_reckon_206 kv_iconst_2 ?_
              refine ev_icmp_lt (tgt := 243) d_X1_reckon_207 (by decide) (fun hc22 => ?_) (fun hc22 => ?_)
              · have h := it_ok_t h hc22
                refine ev_iinc d_X1_reckon_243 kv_iconst_1 rfl (by decide) ?_
                show it_Ev g l 2 it_m_X1_reckon 0 0 246 [some (.ref 1), none, none, some (.ref ((it_el 1 (x1 : Int32).toNatClampNeg) + 1)), none, some (.int v5), some (.int v6), some (.int (v7 + 1)), some (.int ((S ((it_el 1 (x1 : Int32).toNatClampNeg) + 1) (v7 : Int32).toNatClampNeg) - 10000))] [] κ S19 (it_pi κ P)
                refine ev_goto (tgt := 87) d_X1_reckon_246 (by decide) ?_
                refine ev_keep [true, false, false, true, false, true, true, true, false] ?_
                exact ih87 _ _ _ _ h
              · have h := it_ok_f h hc22
                refine ev_iinc d_X1_reckon_210 kv_iconst_m1 rfl (by decide) ?_
                show it_Ev g l 2 it_m_X1_reckon 0 0 213 [some (.ref 1), none, none, some (.ref ((it_el 1 (x1 : Int32).toNatClampNeg) + 1)), none, some (.int v5), some (.int (v6 + (-1))), some (.int v7), some (.int ((S ((it_el 1 (x1 : Int32).toNatClampNeg) + 1) (v7 : Int32).toNatClampNeg) - 10000))] [] κ S19 (it_pi κ P)
                refine ev_aload_n d_X1_reckon_213 rfl ?_
                refine ev_getRr (r := 4) rfl d_X1_reckon_214 fl_IcedTooSoon_Lawbook_23 hb.1 rfl ?_
                refine ev_iload d_X1_reckon_217 rfl ?_
                refine ev_iconst d_X1_reckon_219 kv_iconst_1 ?_
                refine ev_isub d_X1_reckon_220 ?_
                refine ev_aload_n d_X1_reckon_221 rfl ?_
                refine ev_getRr (r := 4) rfl d_X1_reckon_222 fl_IcedTooSoon_Lawbook_23 hb.1 rfl ?_
                refine ev_iload d_X1_reckon_225 rfl ?_
                refine ev_iconst d_X1_reckon_227 kv_iconst_1 ?_
                refine ev_isub d_X1_reckon_228 ?_
                obtain ⟨hb23, h⟩ := it_ok_g h
                refine ev_iald d_X1_reckon_229 (hb).2.2.2.1 (it_bd_in hb23) ?_
                refine ev_iload d_X1_reckon_230 rfl ?_
                refine ev_aload_n d_X1_reckon_232 rfl ?_
                refine ev_getRr (r := 4) rfl d_X1_reckon_233 fl_IcedTooSoon_Lawbook_23 hb.1 rfl ?_
                refine ev_iload d_X1_reckon_236 rfl ?_
                obtain ⟨hb24, h⟩ := it_ok_g h
                refine ev_iald d_X1_reckon_238 (hb).2.2.2.1 (it_bd_in hb24) ?_
                refine ev_callS (M' := it_m_X1_joined) (d' := 1) (As := [.int (S19 4 (((v6 + (-1)) - 1) : Int32).toNatClampNeg), .int ((S ((it_el 1 (x1 : Int32).toNatClampNeg) + 1) (v7 : Int32).toNatClampNeg) - 10000), .int (S19 4 ((v6 + (-1)) : Int32).toNatClampNeg)]) d_X1_reckon_239 ml_IcedTooSoon_Lawbook_51 rfl rfl (Nat.le_of_ble_eq_true rfl) (by decide) (by decide) (by decide) (L_X1_joined  (it_ok_b h)) (fun _ _ _ _ q => by cases q.1; rfl) ?_
                rintro _ _ S25 ⟨rfl, r26, rfl, h⟩
                show it_Ev g l 2 it_m_X1_reckon 0 0 242 [some (.ref 1), none, none, some (.ref ((it_el 1 (x1 : Int32).toNatClampNeg) + 1)), none, some (.int v5), some (.int (v6 + (-1))), some (.int v7), some (.int ((S ((it_el 1 (x1 : Int32).toNatClampNeg) + 1) (v7 : Int32).toNatClampNeg) - 10000))] [.int r26, .int ((v6 + (-1)) - 1), .ref 4] κ S25 (it_pi κ P)
                refine ev_iast d_X1_reckon_242 (by decide) (hb).2.2.2.1 (it_bd_in hb23) ?_
                refine ev_iinc d_X1_reckon_243 kv_iconst_1 rfl (by decide) ?_
                show it_Ev g l 2 it_m_X1_reckon 0 0 246 [some (.ref 1), none, none, some (.ref ((it_el 1 (x1 : Int32).toNatClampNeg) + 1)), none, some (.int v5), some (.int (v6 + (-1))), some (.int (v7 + 1)), some (.int ((S ((it_el 1 (x1 : Int32).toNatClampNeg) + 1) (v7 : Int32).toNatClampNeg) - 10000))] [] κ (it_up S25 4 (((v6 + (-1)) - 1) : Int32).toNatClampNeg r26) (it_pi κ P)
                refine ev_goto (tgt := 87) d_X1_reckon_246 (by decide) ?_
                refine ev_keep [true, false, false, true, false, true, true, true, false] ?_
                exact ih87 _ _ _ _ h
            · have h := it_ok_f h hc21
              refine ev_iload d_X1_reckon_172 rfl ?_
              refine ev_iconst d_X1_reckon_174 kv_iconst_1 ?_
              refine ev_icmp_lt (tgt := 204) d_X1_reckon_175 (by decide) (fun hc27 => ?_) (fun hc27 => ?_)
              · have h := it_ok_t h hc27
                refine ev_iload d_X1_reckon_204 rfl ?_
                refine ev_iconst d_X1_reckon_206 kv_iconst_2 ?_
                refine ev_icmp_lt (tgt := 243) d_X1_reckon_207 (by decide) (fun hc28 => ?_) (fun hc28 => ?_)
                · have h := it_ok_t h hc28
                  refine ev_iinc d_X1_reckon_243 kv_iconst_1 rfl (by decide) ?_
                  show it_Ev g l 2 it_m_X1_reckon 0 0 246 [some (.ref 1), none, none, some (.ref ((it_el 1 (x1 : Int32).toNatClampNeg) + 1)), none, some (.int v5), some (.int v6), some (.int (v7 + 1)), some (.int ((S ((it_el 1 (x1 : Int32).toNatClampNeg) + 1) (v7 : Int32).toNatClampNeg) - 10000))] [] κ S19 (it_pi κ P)
                  refine ev_goto (tgt := 87) d_X1_reckon_246 (by decide) ?_
                  refine ev_keep [true, false, false, true, false, true, true, true, false] ?_
                  exact ih87 _ _ _ _ h
                · have h := it_ok_f h hc28
                  refine ev_iinc d_X1_reckon_210 kv_iconst_m1 rfl (by decide) ?_
                  show it_Ev g l 2 it_m_X1_reckon 0 0 213 [some (.ref 1), none, none, some (.ref ((it_el 1 (x1 : Int32).toNatClampNeg) + 1)), none, some (.int v5), some (.int (v6 + (-1))), some (.int v7), some (.int ((S ((it_el 1 (x1 : Int32).toNatClampNeg) + 1) (v7 : Int32).toNatClampNeg) - 10000))] [] κ S19 (it_pi κ P)
                  refine ev_aload_n d_X1_reckon_213 rfl ?_
                  refine ev_getRr (r := 4) rfl d_X1_reckon_214 fl_IcedTooSoon_Lawbook_23 hb.1 rfl ?_
                  refine ev_iload d_X1_reckon_217 rfl ?_
                  refine ev_iconst d_X1_reckon_219 kv_iconst_1 ?_
                  refine ev_isub d_X1_reckon_220 ?_
                  refine ev_aload_n d_X1_reckon_221 rfl ?_
                  refine ev_getRr (r := 4) rfl d_X1_reckon_222 fl_IcedTooSoon_Lawbook_23 hb.1 rfl ?_
                  refine ev_iload d_X1_reckon_225 rfl ?_
                  refine ev_iconst d_X1_reckon_227 kv_iconst_1 ?_
                  refine ev_isub d_X1_reckon_228 ?_
                  obtain ⟨hb29, h⟩ := it_ok_g h
                  refine ev_iald d_X1_reckon_229 (hb).2.2.2.1 (it_bd_in hb29) ?_
                  refine ev_iload d_X1_reckon_230 rfl ?_
                  refine ev_aload_n d_X1_reckon_232 rfl ?_
                  refine ev_getRr (r := 4) rfl d_X1_reckon_233 fl_IcedTooSoon_Lawbook_23 hb.1 rfl ?_
                  refine ev_iload d_X1_reckon_236 rfl ?_
                  obtain ⟨hb30, h⟩ := it_ok_g h
                  refine ev_iald d_X1_reckon_238 (hb).2.2.2.1 (it_bd_in hb30) ?_
                  refine ev_callS (M' := it_m_X1_joined) (d' := 1) (As := [.int (S19 4 (((v6 + (-1)) - 1) : Int32).toNatClampNeg), .int ((S ((it_el 1 (x1 : Int32).toNatClampNeg) + 1) (v7 : Int32).toNatClampNeg) - 10000), .int (S19 4 ((v6 + (-1)) : Int32).toNatClampNeg)]) d_X1_reckon_239 ml_IcedTooSoon_Lawbook_51 rfl rfl (Nat.le_of_ble_eq_true rfl) (by decide) (by decide) (by decide) (L_X1_joined  (it_ok_b h)) (fun _ _ _ _ q => by cases q.1; rfl) ?_
                  rintro _ _ S31 ⟨rfl, r32, rfl, h⟩
                  show it_Ev g l 2 it_m_X1_reckon 0 0 242 [some (.ref 1), none, none, some (.ref ((it_el 1 (x1 : Int32).toNatClampNeg) + 1)), none, some (.int v5), some (.int (v6 + (-1))), some (.int v7), some (.int ((S ((it_el 1 (x1 : Int32).toNatClampNeg) + 1) (v7 : Int32).toNatClampNeg) - 10000))] [.int r32, .int ((v6 + (-1)) - 1), .ref 4] κ S31 (it_pi κ P)
                  refine ev_iast d_X1_reckon_242 (by decide) (hb).2.2.2.1 (it_bd_in hb29) ?_
                  refine ev_iinc d_X1_reckon_243 kv_iconst_1 rfl (by decide) ?_
                  show it_Ev g l 2 it_m_X1_reckon 0 0 246 [some (.ref 1), none, none, some (.ref ((it_el 1 (x1 : Int32).toNatClampNeg) + 1)), none, some (.int v5), some (.int (v6 + (-1))), some (.int (v7 + 1)), some (.int ((S ((it_el 1 (x1 : Int32).toNatClampNeg) + 1) (v7 : Int32).toNatClampNeg) - 10000))] [] κ (it_up S31 4 (((v6 + (-1)) - 1) : Int32).toNatClampNeg r32) (it_pi κ P)
                  refine ev_goto (tgt := 87) d_X1_reckon_246 (by decide) ?_
                  refine ev_keep [true, false, false, true, false, true, true, true, false] ?_
                  exact ih87 _ _ _ _ h
              · have h := it_ok_f h hc27
                refine ev_aload_n d_X1_reckon_178 rfl ?_
                refine ev_getRr (r := 4) rfl d_X1_reckon_179 fl_IcedTooSoon_Lawbook_23 hb.1 rfl ?_
                refine ev_iload d_X1_reckon_182 rfl ?_
                refine ev_iconst d_X1_reckon_184 kv_iconst_1 ?_
                refine ev_isub d_X1_reckon_185 ?_
                refine ev_iload d_X1_reckon_186 rfl ?_
                refine ev_aload_n d_X1_reckon_188 rfl ?_
                refine ev_getRr (r := 4) rfl d_X1_reckon_189 fl_IcedTooSoon_Lawbook_23 hb.1 rfl ?_
                refine ev_iload d_X1_reckon_192 rfl ?_
                refine ev_iconst d_X1_reckon_194 kv_iconst_1 ?_
                refine ev_isub d_X1_reckon_195 ?_
                obtain ⟨hb33, h⟩ := it_ok_g h
                refine ev_iald d_X1_reckon_196 (hb).2.2.2.1 (it_bd_in hb33) ?_
                refine ev_callS (M' := it_m_X1_turned) (d' := 1) (As := [.int ((S ((it_el 1 (x1 : Int32).toNatClampNeg) + 1) (v7 : Int32).toNatClampNeg) - 10000), .int (S19 4 ((v6 - 1) : Int32).toNatClampNeg)]) d_X1_reckon_197 ml_IcedTooSoon_Lawbook_47 rfl rfl (Nat.le_of_ble_eq_true rfl) (by decide) (by decide) (by decide) (L_X1_turned  (it_ok_b h)) (fun _ _ _ _ q => by cases q.1; rfl) ?_
                rintro _ _ S34 ⟨rfl, r35, rfl, h⟩
                show it_Ev g l 2 it_m_X1_reckon 0 0 200 [some (.ref 1), none, none, some (.ref ((it_el 1 (x1 : Int32).toNatClampNeg) + 1)), none, some (.int v5), some (.int v6), some (.int v7), some (.int ((S ((it_el 1 (x1 : Int32).toNatClampNeg) + 1) (v7 : Int32).toNatClampNeg) - 10000))] [.int r35, .int (v6 - 1), .ref 4] κ S34 (it_pi κ P)
                refine ev_iast d_X1_reckon_200 (by decide) (hb).2.2.2.1 (it_bd_in hb33) ?_
                refine ev_goto (tgt := 243) d_X1_reckon_201 (by decide) ?_
                refine ev_iinc d_X1_reckon_243 kv_iconst_1 rfl (by decide) ?_
                show it_Ev g l 2 it_m_X1_reckon 0 0 246 [some (.ref 1), none, none, some (.ref ((it_el 1 (x1 : Int32).toNatClampNeg) + 1)), none, some (.int v5), some (.int v6), some (.int (v7 + 1)), some (.int ((S ((it_el 1 (x1 : Int32).toNatClampNeg) + 1) (v7 : Int32).toNatClampNeg) - 10000))] [] κ (it_up S34 4 ((v6 - 1) : Int32).toNatClampNeg r35) (it_pi κ P)
                refine ev_goto (tgt := 87) d_X1_reckon_246 (by decide) ?_
                refine ev_keep [true, false, false, true, false, true, true, true, false] ?_
                exact ih87 _ _ _ _ h
          · have h := it_ok_f h hc18
            refine ev_aload_n d_X1_reckon_141 rfl ?_
            refine ev_getRr (r := 4) rfl d_X1_reckon_142 fl_IcedTooSoon_Lawbook_23 hb.1 rfl ?_
            refine ev_iload d_X1_reckon_145 rfl ?_
            refine ev_iinc d_X1_reckon_147 kv_iconst_1 rfl (by decide) ?_
            show it_Ev g l 2 it_m_X1_reckon 0 0 150 [some (.ref 1), none, none, some (.ref ((it_el 1 (x1 : Int32).toNatClampNeg) + 1)), none, some (.int v5), some (.int (v6 + 1)), some (.int v7), some (.int ((S ((it_el 1 (x1 : Int32).toNatClampNeg) + 1) (v7 : Int32).toNatClampNeg) - 10000))] [.int v6, .ref 4] κ S16 (it_pi κ P)
            refine ev_aload_n d_X1_reckon_150 rfl ?_
            refine ev_getRr (r := 3) rfl d_X1_reckon_151 fl_IcedTooSoon_Lawbook_19 hb.1 rfl ?_
            refine ev_iload d_X1_reckon_154 rfl ?_
            refine ev_bipush d_X1_reckon_156 kv_bipush_6 ?_
            refine ev_isub d_X1_reckon_158 ?_
            obtain ⟨hb36, h⟩ := it_ok_g h
            refine ev_iald d_X1_reckon_159 (hb).2.2.1 (it_bd_in hb36) ?_
            obtain ⟨hb37, h⟩ := it_ok_g h
            refine ev_iast d_X1_reckon_160 (by decide) (hb).2.2.2.1 (it_bd_in hb37) ?_
            refine ev_goto (tgt := 243) d_X1_reckon_161 (by decide) ?_
            refine ev_iinc d_X1_reckon_243 kv_iconst_1 rfl (by decide) ?_
            show it_Ev g l 2 it_m_X1_reckon 0 0 246 [some (.ref 1), none, none, some (.ref ((it_el 1 (x1 : Int32).toNatClampNeg) + 1)), none, some (.int v5), some (.int (v6 + 1)), some (.int (v7 + 1)), some (.int ((S ((it_el 1 (x1 : Int32).toNatClampNeg) + 1) (v7 : Int32).toNatClampNeg) - 10000))] [] κ (it_up S16 4 (v6 : Int32).toNatClampNeg (S16 3 ((((S ((it_el 1 (x1 : Int32).toNatClampNeg) + 1) (v7 : Int32).toNatClampNeg) - 10000) - 6) : Int32).toNatClampNeg)) (it_pi κ P)
            refine ev_goto (tgt := 87) d_X1_reckon_246 (by decide) ?_
            refine ev_keep [true, false, false, true, false, true, true, true, false] ?_
            exact ih87 _ _ _ _ h
        · have h := it_ok_f h hc15
          refine ev_aload_n d_X1_reckon_116 rfl ?_
          refine ev_getRr (r := 4) rfl d_X1_reckon_117 fl_IcedTooSoon_Lawbook_23 hb.1 rfl ?_
          refine ev_iload d_X1_reckon_120 rfl ?_
          refine ev_iinc d_X1_reckon_122 kv_iconst_1 rfl (by decide) ?_
          show it_Ev g l 2 it_m_X1_reckon 0 0 125 [some (.ref 1), none, none, some (.ref ((it_el 1 (x1 : Int32).toNatClampNeg) + 1)), none, some (.int v5), some (.int (v6 + 1)), some (.int v7), some (.int ((S ((it_el 1 (x1 : Int32).toNatClampNeg) + 1) (v7 : Int32).toNatClampNeg) - 10000))] [.int v6, .ref 4] κ S (it_pi κ P)
          refine ev_aload_n d_X1_reckon_125 rfl ?_
          refine ev_iload d_X1_reckon_126 rfl ?_
          refine ev_iald d_X1_reckon_128 q3 (it_bd_in hb14) ?_
          obtain ⟨hb38, h⟩ := it_ok_g h
          refine ev_iast d_X1_reckon_129 (by decide) (hb).2.2.2.1 (it_bd_in hb38) ?_
          refine ev_goto (tgt := 243) d_X1_reckon_130 (by decide) ?_
          refine ev_iinc d_X1_reckon_243 kv_iconst_1 rfl (by decide) ?_
          show it_Ev g l 2 it_m_X1_reckon 0 0 246 [some (.ref 1), none, none, some (.ref ((it_el 1 (x1 : Int32).toNatClampNeg) + 1)), none, some (.int v5), some (.int (v6 + 1)), some (.int (v7 + 1)), some (.int ((S ((it_el 1 (x1 : Int32).toNatClampNeg) + 1) (v7 : Int32).toNatClampNeg) - 10000))] [] κ (it_up S 4 (v6 : Int32).toNatClampNeg (S ((it_el 1 (x1 : Int32).toNatClampNeg) + 1) (v7 : Int32).toNatClampNeg)) (it_pi κ P)
          refine ev_goto (tgt := 87) d_X1_reckon_246 (by decide) ?_
          refine ev_keep [true, false, false, true, false, true, true, true, false] ?_
          exact ih87 _ _ _ _ h
set_option maxHeartbeats 4000000 in
set_option maxRecDepth 100000 in
theorem L_X1_reckon {g : it_G} {l : Launch} {κ : it_KK} {x1 : Int32} {x2 : Int32} (hb : it_wb κ) {S : it_SS} {P : Int32 → it_SS → Prop} (h : it_ok (f_X1_reckon κ x1 x2 S) P) : it_Cn g l 2 it_m_X1_reckon [.ref 1, .int x1, .int x2] κ S (it_pi κ P) := by
  refine it_Cn.of (by decide +kernel) (Nat.le_of_ble_eq_true rfl) ?_
  rw [f_X1_reckon] at h
  show it_Ev g l 2 it_m_X1_reckon 0 0 0 [some (.ref 1), some (.int x1), some (.int x2), none, none, none, none, none, none] [] κ S (it_pi κ P)
  refine ev_iload_n d_X1_reckon_0 rfl ?_
  refine ev_iconst d_X1_reckon_1 kv_iconst_0 ?_
  refine ev_aload_n d_X1_reckon_2 rfl ?_
  refine ev_getI d_X1_reckon_3 fl_IcedTooSoon_Lawbook_26 hb.1 rfl ?_
  refine ev_iconst d_X1_reckon_6 kv_iconst_1 ?_
  refine ev_isub d_X1_reckon_7 ?_
  refine ev_callSN (M' := it_m_X5_isOutside) (d' := 1) (As := [.int x1, .int 0, .int ((S 1 3) - 1)]) d_X1_reckon_8 ml_IcedTooSoon_Lawbook_30 rfl rfl (Nat.le_of_ble_eq_true rfl) (by decide) (by decide) (by decide) (L_X5_isOutside  (it_ok_b h)) (fun _ _ _ _ q => by cases q.1; rfl) ?_
  rintro _ _ S1 ⟨rfl, r2, rfl, h⟩
  show it_Ev g l 2 it_m_X1_reckon 0 0 11 [some (.ref 1), some (.int x1), some (.int x2), none, none, none, none, none, none] [.int r2] κ S1 (it_pi κ P)
  refine ev_if_ne (tgt := 32) d_X1_reckon_11 (by decide) (fun hc3 => ?_) (fun hc3 => ?_)
  · have h := it_ok_f h hc3
    refine ev_iconst d_X1_reckon_32 kv_iconst_0 ?_
    exact ev_ret (v := some (.int _)) ⟨d_X1_reckon_33, _, rfl, rfl⟩ (by decide) (by decide) ⟨rfl, _, rfl, it_ok_r h⟩
  · have h := it_ok_t h hc3
    refine ev_iload_n d_X1_reckon_14 rfl ?_
    refine ev_iconst d_X1_reckon_15 kv_iconst_0 ?_
    refine ev_iconst d_X1_reckon_16 kv_iconst_2 ?_
    refine ev_callSN (M' := it_m_X5_isOutside) (d' := 1) (As := [.int x2, .int 0, .int 2]) d_X1_reckon_17 ml_IcedTooSoon_Lawbook_30 rfl rfl (Nat.le_of_ble_eq_true rfl) (by decide) (by decide) (by decide) (L_X5_isOutside  (it_ok_b h)) (fun _ _ _ _ q => by cases q.1; rfl) ?_
    rintro _ _ S4 ⟨rfl, r5, rfl, h⟩
    show it_Ev g l 2 it_m_X1_reckon 0 0 20 [some (.ref 1), some (.int x1), some (.int x2), none, none, none, none, none, none] [.int r5] κ S4 (it_pi κ P)
    refine ev_if_ne (tgt := 32) d_X1_reckon_20 (by decide) (fun hc6 => ?_) (fun hc6 => ?_)
    · have h := it_ok_f h hc6
      refine ev_iconst d_X1_reckon_32 kv_iconst_0 ?_
      exact ev_ret (v := some (.int _)) ⟨d_X1_reckon_33, _, rfl, rfl⟩ (by decide) (by decide) ⟨rfl, _, rfl, it_ok_r h⟩
    · have h := it_ok_t h hc6
      refine ev_aload_n d_X1_reckon_23 rfl ?_
      refine ev_getRr (r := 2) rfl d_X1_reckon_24 fl_IcedTooSoon_Lawbook_11 hb.1 rfl ?_
      refine ev_iload_n d_X1_reckon_27 rfl ?_
      obtain ⟨hb7, h⟩ := it_ok_g h
      obtain ⟨hb8, h⟩ := it_ok_g h
      refine ev_aald d_X1_reckon_28 (hb).2.1 (it_bd_in hb7) hb8 ?_
      refine ev_ifnonnull (tgt := 34) d_X1_reckon_29 (by decide) ?_
      refine ev_aload_n d_X1_reckon_34 rfl ?_
      refine ev_getRr (r := 2) rfl d_X1_reckon_35 fl_IcedTooSoon_Lawbook_11 hb.1 rfl ?_
      refine ev_iload_n d_X1_reckon_38 rfl ?_
      refine ev_aald d_X1_reckon_39 (hb).2.1 (it_bd_in hb7) hb8 ?_
      refine ev_getRr (r := ((it_el 1 (x1 : Int32).toNatClampNeg) + 1)) rfl d_X1_reckon_40 fl_IcedTooSoon_Lawbook_34 ((hb).2.2.2.2 _ hb8).1 rfl ?_
      refine ev_astore_n d_X1_reckon_43 (by decide) ?_
      show it_Ev g l 2 it_m_X1_reckon 0 0 44 [some (.ref 1), some (.int x1), some (.int x2), some (.ref ((it_el 1 (x1 : Int32).toNatClampNeg) + 1)), none, none, none, none, none] [] κ S4 (it_pi κ P)
      refine ev_iload_n d_X1_reckon_44 rfl ?_
      refine ev_if_ne (tgt := 52) d_X1_reckon_45 (by decide) (fun hc9 => ?_) (fun hc9 => ?_)
      · have h := it_ok_f h hc9
        refine ev_aload_n d_X1_reckon_52 rfl ?_
        refine ev_getRr (r := 2) rfl d_X1_reckon_53 fl_IcedTooSoon_Lawbook_11 hb.1 rfl ?_
        refine ev_iload_n d_X1_reckon_56 rfl ?_
        refine ev_aald d_X1_reckon_57 (hb).2.1 (it_bd_in hb7) hb8 ?_
        refine ev_getRr (r := ((it_el 1 (x1 : Int32).toNatClampNeg) + 2)) rfl d_X1_reckon_58 fl_IcedTooSoon_Lawbook_37 ((hb).2.2.2.2 _ hb8).1 rfl ?_
        refine ev_iload_n d_X1_reckon_61 rfl ?_
        refine ev_iconst d_X1_reckon_62 kv_iconst_1 ?_
        refine ev_isub d_X1_reckon_63 ?_
        obtain ⟨hb10, h⟩ := it_ok_g h
        refine ev_iald d_X1_reckon_64 ((hb).2.2.2.2 _ hb8).2.2 (it_bd_in hb10) ?_
        refine ev_istore d_X1_reckon_65 (by decide) ?_
        show it_Ev g l 2 it_m_X1_reckon 0 0 67 [some (.ref 1), some (.int x1), some (.int x2), some (.ref ((it_el 1 (x1 : Int32).toNatClampNeg) + 1)), some (.int (S4 ((it_el 1 (x1 : Int32).toNatClampNeg) + 2) ((x2 - 1) : Int32).toNatClampNeg)), none, none, none, none] [] κ S4 (it_pi κ P)
        refine ev_aload_n d_X1_reckon_67 rfl ?_
        refine ev_getRr (r := 2) rfl d_X1_reckon_68 fl_IcedTooSoon_Lawbook_11 hb.1 rfl ?_
        refine ev_iload_n d_X1_reckon_71 rfl ?_
        refine ev_aald d_X1_reckon_72 (hb).2.1 (it_bd_in hb7) hb8 ?_
        refine ev_getRr (r := ((it_el 1 (x1 : Int32).toNatClampNeg) + 2)) rfl d_X1_reckon_73 fl_IcedTooSoon_Lawbook_37 ((hb).2.2.2.2 _ hb8).1 rfl ?_
        refine ev_iload_n d_X1_reckon_76 rfl ?_
        obtain ⟨hb11, h⟩ := it_ok_g h
        refine ev_iald d_X1_reckon_77 ((hb).2.2.2.2 _ hb8).2.2 (it_bd_in hb11) ?_
        refine ev_istore d_X1_reckon_78 (by decide) ?_
        show it_Ev g l 2 it_m_X1_reckon 0 0 80 [some (.ref 1), some (.int x1), some (.int x2), some (.ref ((it_el 1 (x1 : Int32).toNatClampNeg) + 1)), some (.int (S4 ((it_el 1 (x1 : Int32).toNatClampNeg) + 2) ((x2 - 1) : Int32).toNatClampNeg)), some (.int (S4 ((it_el 1 (x1 : Int32).toNatClampNeg) + 2) (x2 : Int32).toNatClampNeg)), none, none, none] [] κ S4 (it_pi κ P)
        refine ev_iconst d_X1_reckon_80 kv_iconst_0 ?_
        refine ev_istore d_X1_reckon_81 (by decide) ?_
        show it_Ev g l 2 it_m_X1_reckon 0 0 83 [some (.ref 1), some (.int x1), some (.int x2), some (.ref ((it_el 1 (x1 : Int32).toNatClampNeg) + 1)), some (.int (S4 ((it_el 1 (x1 : Int32).toNatClampNeg) + 2) ((x2 - 1) : Int32).toNatClampNeg)), some (.int (S4 ((it_el 1 (x1 : Int32).toNatClampNeg) + 2) (x2 : Int32).toNatClampNeg)), some (.int 0), none, none] [] κ S4 (it_pi κ P)
        refine ev_iload d_X1_reckon_83 rfl ?_
        refine ev_istore d_X1_reckon_85 (by decide) ?_
        show it_Ev g l 2 it_m_X1_reckon 0 0 87 [some (.ref 1), some (.int x1), some (.int x2), some (.ref ((it_el 1 (x1 : Int32).toNatClampNeg) + 1)), some (.int (S4 ((it_el 1 (x1 : Int32).toNatClampNeg) + 2) ((x2 - 1) : Int32).toNatClampNeg)), some (.int (S4 ((it_el 1 (x1 : Int32).toNatClampNeg) + 2) (x2 : Int32).toNatClampNeg)), some (.int 0), some (.int (S4 ((it_el 1 (x1 : Int32).toNatClampNeg) + 2) ((x2 - 1) : Int32).toNatClampNeg)), none] [] κ S4 (it_pi κ P)
        refine ev_keep [true, false, false, true, false, true, true, true, false] ?_
        refine Llp_X1_reckon_87 hb (((hb).2.2.2.2 _ hb8).2.1) hb11 (fun  S39 h => ?_) _ _ _ _ _ h
        show it_Ev g l 2 it_m_X1_reckon 0 0 249 [some (.ref 1), none, none, none, none, none, none, none, none] [] κ S39 (it_pi κ P)
        refine ev_aload_n d_X1_reckon_249 rfl ?_
        refine ev_getRr (r := 4) rfl d_X1_reckon_250 fl_IcedTooSoon_Lawbook_23 hb.1 rfl ?_
        refine ev_iconst d_X1_reckon_253 kv_iconst_0 ?_
        refine ev_iald d_X1_reckon_254 (hb).2.2.2.1 (it_bd_in (by decide)) ?_
        exact ev_ret (v := some (.int _)) ⟨d_X1_reckon_255, _, rfl, rfl⟩ (by decide) (by decide) ⟨rfl, _, rfl, it_ok_r h⟩
      · have h := it_ok_t h hc9
        refine ev_iconst d_X1_reckon_48 kv_iconst_0 ?_
        refine ev_goto (tgt := 65) d_X1_reckon_49 (by decide) ?_
        refine ev_istore d_X1_reckon_65 (by decide) ?_
        show it_Ev g l 2 it_m_X1_reckon 0 0 67 [some (.ref 1), some (.int x1), some (.int x2), some (.ref ((it_el 1 (x1 : Int32).toNatClampNeg) + 1)), some (.int 0), none, none, none, none] [] κ S4 (it_pi κ P)
        refine ev_aload_n d_X1_reckon_67 rfl ?_
        refine ev_getRr (r := 2) rfl d_X1_reckon_68 fl_IcedTooSoon_Lawbook_11 hb.1 rfl ?_
        refine ev_iload_n d_X1_reckon_71 rfl ?_
        refine ev_aald d_X1_reckon_72 (hb).2.1 (it_bd_in hb7) hb8 ?_
        refine ev_getRr (r := ((it_el 1 (x1 : Int32).toNatClampNeg) + 2)) rfl d_X1_reckon_73 fl_IcedTooSoon_Lawbook_37 ((hb).2.2.2.2 _ hb8).1 rfl ?_
        refine ev_iload_n d_X1_reckon_76 rfl ?_
        obtain ⟨hb40, h⟩ := it_ok_g h
        refine ev_iald d_X1_reckon_77 ((hb).2.2.2.2 _ hb8).2.2 (it_bd_in hb40) ?_
        refine ev_istore d_X1_reckon_78 (by decide) ?_
        show it_Ev g l 2 it_m_X1_reckon 0 0 80 [some (.ref 1), some (.int x1), some (.int x2), some (.ref ((it_el 1 (x1 : Int32).toNatClampNeg) + 1)), some (.int 0), some (.int (S4 ((it_el 1 (x1 : Int32).toNatClampNeg) + 2) (x2 : Int32).toNatClampNeg)), none, none, none] [] κ S4 (it_pi κ P)
        refine ev_iconst d_X1_reckon_80 kv_iconst_0 ?_
        refine ev_istore d_X1_reckon_81 (by decide) ?_
        show it_Ev g l 2 it_m_X1_reckon 0 0 83 [some (.ref 1), some (.int x1), some (.int x2), some (.ref ((it_el 1 (x1 : Int32).toNatClampNeg) + 1)), some (.int 0), some (.int (S4 ((it_el 1 (x1 : Int32).toNatClampNeg) + 2) (x2 : Int32).toNatClampNeg)), some (.int 0), none, none] [] κ S4 (it_pi κ P)
        refine ev_iload d_X1_reckon_83 rfl ?_
        refine ev_istore d_X1_reckon_85 (by decide) ?_
        show it_Ev g l 2 it_m_X1_reckon 0 0 87 [some (.ref 1), some (.int x1), some (.int x2), some (.ref ((it_el 1 (x1 : Int32).toNatClampNeg) + 1)), some (.int 0), some (.int (S4 ((it_el 1 (x1 : Int32).toNatClampNeg) + 2) (x2 : Int32).toNatClampNeg)), some (.int 0), some (.int 0), none] [] κ S4 (it_pi κ P)
        refine ev_keep [true, false, false, true, false, true, true, true, false] ?_
        refine Llp_X1_reckon_87 hb (((hb).2.2.2.2 _ hb8).2.1) hb40 (fun  S41 h => ?_) _ _ _ _ _ h
        show it_Ev g l 2 it_m_X1_reckon 0 0 249 [some (.ref 1), none, none, none, none, none, none, none, none] [] κ S41 (it_pi κ P)
        refine ev_aload_n d_X1_reckon_249 rfl ?_
        refine ev_getRr (r := 4) rfl d_X1_reckon_250 fl_IcedTooSoon_Lawbook_23 hb.1 rfl ?_
        refine ev_iconst d_X1_reckon_253 kv_iconst_0 ?_
        refine ev_iald d_X1_reckon_254 (hb).2.2.2.1 (it_bd_in (by decide)) ?_
        exact ev_ret (v := some (.int _)) ⟨d_X1_reckon_255, _, rfl, rfl⟩ (by decide) (by decide) ⟨rfl, _, rfl, it_ok_r h⟩
theorem d_X0_saying_0 : decode prog_2_method_17_code 0 = .ok (.aload_n 0, 1) := by decide +kernel
theorem d_X0_saying_1 : decode prog_2_method_17_code 1 = .ok (.getfield 24, 3) := by decide +kernel
theorem d_X0_saying_4 : decode prog_2_method_17_code 4 = .ok (.iload_n 2, 1) := by decide +kernel
theorem d_X0_saying_5 : decode prog_2_method_17_code 5 = .ok (.iaload, 1) := by decide +kernel
theorem d_X0_saying_6 : decode prog_2_method_17_code 6 = .ok (.istore_n 3, 1) := by decide +kernel
theorem d_X0_saying_7 : decode prog_2_method_17_code 7 = .ok (.aload_n 0, 1) := by decide +kernel
theorem d_X0_saying_8 : decode prog_2_method_17_code 8 = .ok (.getfield 33, 3) := by decide +kernel
theorem d_X0_saying_11 : decode prog_2_method_17_code 11 = .ok (.aload_n 0, 1) := by decide +kernel
theorem d_X0_saying_12 : decode prog_2_method_17_code 12 = .ok (.getfield 27, 3) := by decide +kernel
theorem d_X0_saying_15 : decode prog_2_method_17_code 15 = .ok (.iload_n 2, 1) := by decide +kernel
theorem d_X0_saying_16 : decode prog_2_method_17_code 16 = .ok (.iaload, 1) := by decide +kernel
theorem d_X0_saying_17 : decode prog_2_method_17_code 17 = .ok (.aload_n 0, 1) := by decide +kernel
theorem d_X0_saying_18 : decode prog_2_method_17_code 18 = .ok (.getfield 30, 3) := by decide +kernel
theorem d_X0_saying_21 : decode prog_2_method_17_code 21 = .ok (.iload_n 2, 1) := by decide +kernel
theorem d_X0_saying_22 : decode prog_2_method_17_code 22 = .ok (.iaload, 1) := by decide +kernel
theorem d_X0_saying_23 : decode prog_2_method_17_code 23 = .ok (.aload_n 0, 1) := by decide +kernel
theorem d_X0_saying_24 : decode prog_2_method_17_code 24 = .ok (.getfield 21, 3) := by decide +kernel
theorem d_X0_saying_27 : decode prog_2_method_17_code 27 = .ok (.iload_n 3, 1) := by decide +kernel
theorem d_X0_saying_28 : decode prog_2_method_17_code 28 = .ok (.iaload, 1) := by decide +kernel
theorem d_X0_saying_29 : decode prog_2_method_17_code 29 = .ok (.aload_n 0, 1) := by decide +kernel
theorem d_X0_saying_30 : decode prog_2_method_17_code 30 = .ok (.getfield 18, 3) := by decide +kernel
theorem d_X0_saying_33 : decode prog_2_method_17_code 33 = .ok (.iload_n 3, 1) := by decide +kernel
theorem d_X0_saying_34 : decode prog_2_method_17_code 34 = .ok (.iaload, 1) := by decide +kernel
theorem d_X0_saying_35 : decode prog_2_method_17_code 35 = .ok (.aload_n 0, 1) := by decide +kernel
theorem d_X0_saying_36 : decode prog_2_method_17_code 36 = .ok (.getfield 53, 3) := by decide +kernel
theorem d_X0_saying_39 : decode prog_2_method_17_code 39 = .ok (.aload_n 0, 1) := by decide +kernel
theorem d_X0_saying_40 : decode prog_2_method_17_code 40 = .ok (.getfield 15, 3) := by decide +kernel
theorem d_X0_saying_43 : decode prog_2_method_17_code 43 = .ok (.iload_n 3, 1) := by decide +kernel
theorem d_X0_saying_44 : decode prog_2_method_17_code 44 = .ok (.iaload, 1) := by decide +kernel
theorem d_X0_saying_45 : decode prog_2_method_17_code 45 = .ok (.invokevirtual 97, 3) := by decide +kernel
theorem d_X0_saying_48 : decode prog_2_method_17_code 48 = .ok (.aload_n 0, 1) := by decide +kernel
theorem d_X0_saying_49 : decode prog_2_method_17_code 49 = .ok (.getfield 33, 3) := by decide +kernel
theorem d_X0_saying_52 : decode prog_2_method_17_code 52 = .ok (.aload_n 0, 1) := by decide +kernel
theorem d_X0_saying_53 : decode prog_2_method_17_code 53 = .ok (.getfield 56, 3) := by decide +kernel
theorem d_X0_saying_56 : decode prog_2_method_17_code 56 = .ok (.iload_n 1, 1) := by decide +kernel
theorem d_X0_saying_57 : decode prog_2_method_17_code 57 = .ok (.invokevirtual 103, 3) := by decide +kernel
theorem d_X0_saying_60 : decode prog_2_method_17_code 60 = .ok (.iload_n 1, 1) := by decide +kernel
theorem d_X0_saying_61 : decode prog_2_method_17_code 61 = .ok (.iconst 1, 1) := by decide +kernel
theorem d_X0_saying_62 : decode prog_2_method_17_code 62 = .ok (.if_icmp .ne 8, 3) := by decide +kernel
theorem d_X0_saying_65 : decode prog_2_method_17_code 65 = .ok (.bipush (-99), 2) := by decide +kernel
theorem d_X0_saying_67 : decode prog_2_method_17_code 67 = .ok (.goto 4, 3) := by decide +kernel
theorem d_X0_saying_70 : decode prog_2_method_17_code 70 = .ok (.iconst 0, 1) := by decide +kernel
theorem d_X0_saying_71 : decode prog_2_method_17_code 71 = .ok (.bipush 99, 2) := by decide +kernel
theorem d_X0_saying_73 : decode prog_2_method_17_code 73 = .ok (.invokestatic 89, 3) := by decide +kernel
theorem d_X0_saying_76 : decode prog_2_method_17_code 76 = .ok (.ireturn, 1) := by decide +kernel
def f_X0_saying (κ : it_KK) (u : Nat) (x1 : Int32) (x2 : Int32) (S : it_SS) : Option (Int32 × it_SS) :=
if it_bd x2 10 = true then
if it_bd (S (u + 5) (x2 : Int32).toNatClampNeg) 6 = true then
it_bi (f_X1_name κ (S (u + 6) (x2 : Int32).toNatClampNeg) (S (u + 7) (x2 : Int32).toNatClampNeg) (S (u + 4) ((S (u + 5) (x2 : Int32).toNatClampNeg) : Int32).toNatClampNeg) (S (u + 3) ((S (u + 5) (x2 : Int32).toNatClampNeg) : Int32).toNatClampNeg) (S u 9) (S (u + 2) ((S (u + 5) (x2 : Int32).toNatClampNeg) : Int32).toNatClampNeg) S) (fun _ S3 =>
it_bi (f_X1_reckon κ (S3 u 10) x1 S3) (fun r6 S5 =>
if x1 = 1 then
it_bi (f_X5_bounded κ r6 (-99) 99 S5) (fun r11 S10 =>
some (r11, S10))
else
it_bi (f_X5_bounded κ r6 0 99 S5) (fun r9 S8 =>
some (r9, S8))))
else none
else none
set_option maxHeartbeats 4000000 in
set_option maxRecDepth 100000 in
theorem L_X0_saying {g : it_G} {l : Launch} {κ : it_KK} {u : Nat} {x1 : Int32} {x2 : Int32} (hb : it_wb κ) (hh : it_hs κ u) {S : it_SS} {P : Int32 → it_SS → Prop} (h : it_ok (f_X0_saying κ u x1 x2 S) P) : it_Cn g l 3 it_m_X0_saying [.ref u, .int x1, .int x2] κ S (it_pi κ P) := by
  refine it_Cn.of (by decide +kernel) (Nat.le_of_ble_eq_true rfl) ?_
  rw [f_X0_saying] at h
  show it_Ev g l 3 it_m_X0_saying 0 0 0 [some (.ref u), some (.int x1), some (.int x2), none] [] κ S (it_pi κ P)
  refine ev_aload_n d_X0_saying_0 rfl ?_
  refine ev_getRr (r := (u + 5)) rfl d_X0_saying_1 fl_IcedTooSoon_House_24 (hh).1 rfl ?_
  refine ev_iload_n d_X0_saying_4 rfl ?_
  obtain ⟨hb1, h⟩ := it_ok_g h
  refine ev_iald d_X0_saying_5 (hh).2.2.2.2.2.1 (it_bd_in hb1) ?_
  refine ev_istore_n d_X0_saying_6 (by decide) ?_
  show it_Ev g l 3 it_m_X0_saying 0 0 7 [some (.ref u), some (.int x1), some (.int x2), some (.int (S (u + 5) (x2 : Int32).toNatClampNeg))] [] κ S (it_pi κ P)
  refine ev_aload_n d_X0_saying_7 rfl ?_
  refine ev_getRr (r := 1) rfl d_X0_saying_8 fl_IcedTooSoon_House_33 (hh).1 rfl ?_
  refine ev_aload_n d_X0_saying_11 rfl ?_
  refine ev_getRr (r := (u + 6)) rfl d_X0_saying_12 fl_IcedTooSoon_House_27 (hh).1 rfl ?_
  refine ev_iload_n d_X0_saying_15 rfl ?_
  refine ev_iald d_X0_saying_16 (hh).2.2.2.2.2.2.1 (it_bd_in hb1) ?_
  refine ev_aload_n d_X0_saying_17 rfl ?_
  refine ev_getRr (r := (u + 7)) rfl d_X0_saying_18 fl_IcedTooSoon_House_30 (hh).1 rfl ?_
  refine ev_iload_n d_X0_saying_21 rfl ?_
  refine ev_iald d_X0_saying_22 (hh).2.2.2.2.2.2.2 (it_bd_in hb1) ?_
  refine ev_aload_n d_X0_saying_23 rfl ?_
  refine ev_getRr (r := (u + 4)) rfl d_X0_saying_24 fl_IcedTooSoon_House_21 (hh).1 rfl ?_
  refine ev_iload_n d_X0_saying_27 rfl ?_
  obtain ⟨hb2, h⟩ := it_ok_g h
  refine ev_iald d_X0_saying_28 (hh).2.2.2.2.1 (it_bd_in hb2) ?_
  refine ev_aload_n d_X0_saying_29 rfl ?_
  refine ev_getRr (r := (u + 3)) rfl d_X0_saying_30 fl_IcedTooSoon_House_18 (hh).1 rfl ?_
  refine ev_iload_n d_X0_saying_33 rfl ?_
  refine ev_iald d_X0_saying_34 (hh).2.2.2.1 (it_bd_in hb2) ?_
  refine ev_aload_n d_X0_saying_35 rfl ?_
  refine ev_getI d_X0_saying_36 fl_IcedTooSoon_House_53 (hh).1 rfl ?_
  refine ev_aload_n d_X0_saying_39 rfl ?_
  refine ev_getRr (r := (u + 2)) rfl d_X0_saying_40 fl_IcedTooSoon_House_15 (hh).1 rfl ?_
  refine ev_iload_n d_X0_saying_43 rfl ?_
  refine ev_iald d_X0_saying_44 (hh).2.2.1 (it_bd_in hb2) ?_
  refine ev_callV (ci := 1) (b := 1) (M' := it_m_X1_name) (d' := 1) (As := [.int (S (u + 6) (x2 : Int32).toNatClampNeg), .int (S (u + 7) (x2 : Int32).toNatClampNeg), .int (S (u + 4) ((S (u + 5) (x2 : Int32).toNatClampNeg) : Int32).toNatClampNeg), .int (S (u + 3) ((S (u + 5) (x2 : Int32).toNatClampNeg) : Int32).toNatClampNeg), .int (S u 9), .int (S (u + 2) ((S (u + 5) (x2 : Int32).toNatClampNeg) : Int32).toNatClampNeg)]) d_X0_saying_45 ml_IcedTooSoon_House_97 hb.1.1 hb.1.2.1 ⟨_, rfl, rfl⟩ rfl rfl (Nat.le_of_ble_eq_true rfl) (by decide) (by decide) (by decide) (L_X1_name hb (it_ok_b h)) (fun _ _ _ _ q => by cases q.1; rfl) ?_
  rintro _ _ S3 ⟨rfl, rfl, h⟩
  show it_Ev g l 3 it_m_X0_saying 0 0 48 [some (.ref u), some (.int x1), some (.int x2), some (.int (S (u + 5) (x2 : Int32).toNatClampNeg))] [] κ S3 (it_pi κ P)
  refine ev_aload_n d_X0_saying_48 rfl ?_
  refine ev_getRr (r := 1) rfl d_X0_saying_49 fl_IcedTooSoon_House_33 (hh).1 rfl ?_
  refine ev_aload_n d_X0_saying_52 rfl ?_
  refine ev_getI d_X0_saying_53 fl_IcedTooSoon_House_56 (hh).1 rfl ?_
  refine ev_iload_n d_X0_saying_56 rfl ?_
  refine ev_callV (ci := 1) (b := 1) (M' := it_m_X1_reckon) (d' := 2) (As := [.int (S3 u 10), .int x1]) d_X0_saying_57 ml_IcedTooSoon_House_103 hb.1.1 hb.1.2.1 ⟨_, rfl, rfl⟩ rfl rfl (Nat.le_of_ble_eq_true rfl) (by decide) (by decide) (by decide) (L_X1_reckon hb (it_ok_b h)) (fun _ _ _ _ q => by cases q.1; rfl) ?_
  rintro _ _ S5 ⟨rfl, r6, rfl, h⟩
  show it_Ev g l 3 it_m_X0_saying 0 0 60 [some (.ref u), some (.int x1), some (.int x2), some (.int (S (u + 5) (x2 : Int32).toNatClampNeg))] [.int r6] κ S5 (it_pi κ P)
  refine ev_iload_n d_X0_saying_60 rfl ?_
  refine ev_iconst d_X0_saying_61 kv_iconst_1 ?_
  refine ev_icmp_ne (tgt := 70) d_X0_saying_62 (by decide) (fun hc7 => ?_) (fun hc7 => ?_)
  · have h := it_ok_f h hc7
    refine ev_iconst d_X0_saying_70 kv_iconst_0 ?_
    refine ev_bipush d_X0_saying_71 kv_bipush_99 ?_
    refine ev_callSN (M' := it_m_X5_bounded) (d' := 2) (As := [.int r6, .int 0, .int 99]) d_X0_saying_73 ml_IcedTooSoon_House_89 rfl rfl (Nat.le_of_ble_eq_true rfl) (by decide) (by decide) (by decide) (L_X5_bounded  (it_ok_b h)) (fun _ _ _ _ q => by cases q.1; rfl) ?_
    rintro _ _ S8 ⟨rfl, r9, rfl, h⟩
    show it_Ev g l 3 it_m_X0_saying 0 0 76 [some (.ref u), some (.int x1), some (.int x2), some (.int (S (u + 5) (x2 : Int32).toNatClampNeg))] [.int r9] κ S8 (it_pi κ P)
    exact ev_ret (v := some (.int _)) ⟨d_X0_saying_76, _, rfl, rfl⟩ (by decide) (by decide) ⟨rfl, _, rfl, it_ok_r h⟩
  · have h := it_ok_t h hc7
    refine ev_bipush d_X0_saying_65 kv_bipush_m99 ?_
    refine ev_goto (tgt := 71) d_X0_saying_67 (by decide) ?_
    refine ev_bipush d_X0_saying_71 kv_bipush_99 ?_
    refine ev_callSN (M' := it_m_X5_bounded) (d' := 2) (As := [.int r6, .int (-99), .int 99]) d_X0_saying_73 ml_IcedTooSoon_House_89 rfl rfl (Nat.le_of_ble_eq_true rfl) (by decide) (by decide) (by decide) (L_X5_bounded  (it_ok_b h)) (fun _ _ _ _ q => by cases q.1; rfl) ?_
    rintro _ _ S10 ⟨rfl, r11, rfl, h⟩
    show it_Ev g l 3 it_m_X0_saying 0 0 76 [some (.ref u), some (.int x1), some (.int x2), some (.int (S (u + 5) (x2 : Int32).toNatClampNeg))] [.int r11] κ S10 (it_pi κ P)
    exact ev_ret (v := some (.int _)) ⟨d_X0_saying_76, _, rfl, rfl⟩ (by decide) (by decide) ⟨rfl, _, rfl, it_ok_r h⟩
theorem d_X0_melting_0 : decode prog_2_method_18_code 0 = .ok (.aload_n 0, 1) := by decide +kernel
theorem d_X0_melting_1 : decode prog_2_method_18_code 1 = .ok (.getfield 24, 3) := by decide +kernel
theorem d_X0_melting_4 : decode prog_2_method_18_code 4 = .ok (.iload_n 1, 1) := by decide +kernel
theorem d_X0_melting_5 : decode prog_2_method_18_code 5 = .ok (.iaload, 1) := by decide +kernel
theorem d_X0_melting_6 : decode prog_2_method_18_code 6 = .ok (.istore_n 2, 1) := by decide +kernel
theorem d_X0_melting_7 : decode prog_2_method_18_code 7 = .ok (.aload_n 0, 1) := by decide +kernel
theorem d_X0_melting_8 : decode prog_2_method_18_code 8 = .ok (.iconst 0, 1) := by decide +kernel
theorem d_X0_melting_9 : decode prog_2_method_18_code 9 = .ok (.iload_n 1, 1) := by decide +kernel
theorem d_X0_melting_10 : decode prog_2_method_18_code 10 = .ok (.invokevirtual 106, 3) := by decide +kernel
theorem d_X0_melting_13 : decode prog_2_method_18_code 13 = .ok (.istore_n 3, 1) := by decide +kernel
theorem d_X0_melting_14 : decode prog_2_method_18_code 14 = .ok (.aload_n 0, 1) := by decide +kernel
theorem d_X0_melting_15 : decode prog_2_method_18_code 15 = .ok (.getfield 9, 3) := by decide +kernel
theorem d_X0_melting_18 : decode prog_2_method_18_code 18 = .ok (.iload_n 2, 1) := by decide +kernel
theorem d_X0_melting_19 : decode prog_2_method_18_code 19 = .ok (.iaload, 1) := by decide +kernel
theorem d_X0_melting_20 : decode prog_2_method_18_code 20 = .ok (.tableswitch 104 2 5 #[32, 41, 64, 97], 32) := by decide +kernel
theorem d_X0_melting_52 : decode prog_2_method_18_code 52 = .ok (.iload_n 3, 1) := by decide +kernel
theorem d_X0_melting_53 : decode prog_2_method_18_code 53 = .ok (.aload_n 0, 1) := by decide +kernel
theorem d_X0_melting_54 : decode prog_2_method_18_code 54 = .ok (.getfield 15, 3) := by decide +kernel
theorem d_X0_melting_57 : decode prog_2_method_18_code 57 = .ok (.iload_n 2, 1) := by decide +kernel
theorem d_X0_melting_58 : decode prog_2_method_18_code 58 = .ok (.iaload, 1) := by decide +kernel
theorem d_X0_melting_59 : decode prog_2_method_18_code 59 = .ok (.iadd, 1) := by decide +kernel
theorem d_X0_melting_60 : decode prog_2_method_18_code 60 = .ok (.ireturn, 1) := by decide +kernel
theorem d_X0_melting_61 : decode prog_2_method_18_code 61 = .ok (.aload_n 0, 1) := by decide +kernel
theorem d_X0_melting_62 : decode prog_2_method_18_code 62 = .ok (.getfield 53, 3) := by decide +kernel
theorem d_X0_melting_65 : decode prog_2_method_18_code 65 = .ok (.bipush 7, 2) := by decide +kernel
theorem d_X0_melting_67 : decode prog_2_method_18_code 67 = .ok (.irem, 1) := by decide +kernel
theorem d_X0_melting_68 : decode prog_2_method_18_code 68 = .ok (.aload_n 0, 1) := by decide +kernel
theorem d_X0_melting_69 : decode prog_2_method_18_code 69 = .ok (.getfield 15, 3) := by decide +kernel
theorem d_X0_melting_72 : decode prog_2_method_18_code 72 = .ok (.iload_n 2, 1) := by decide +kernel
theorem d_X0_melting_73 : decode prog_2_method_18_code 73 = .ok (.iaload, 1) := by decide +kernel
theorem d_X0_melting_74 : decode prog_2_method_18_code 74 = .ok (.if_icmp .ne 8, 3) := by decide +kernel
theorem d_X0_melting_77 : decode prog_2_method_18_code 77 = .ok (.bipush 99, 2) := by decide +kernel
theorem d_X0_melting_79 : decode prog_2_method_18_code 79 = .ok (.goto 4, 3) := by decide +kernel
theorem d_X0_melting_82 : decode prog_2_method_18_code 82 = .ok (.iload_n 3, 1) := by decide +kernel
theorem d_X0_melting_83 : decode prog_2_method_18_code 83 = .ok (.ireturn, 1) := by decide +kernel
theorem d_X0_melting_84 : decode prog_2_method_18_code 84 = .ok (.aload_n 0, 1) := by decide +kernel
theorem d_X0_melting_85 : decode prog_2_method_18_code 85 = .ok (.getfield 21, 3) := by decide +kernel
theorem d_X0_melting_88 : decode prog_2_method_18_code 88 = .ok (.iload_n 2, 1) := by decide +kernel
theorem d_X0_melting_89 : decode prog_2_method_18_code 89 = .ok (.iaload, 1) := by decide +kernel
theorem d_X0_melting_90 : decode prog_2_method_18_code 90 = .ok (.bipush 20, 2) := by decide +kernel
theorem d_X0_melting_92 : decode prog_2_method_18_code 92 = .ok (.if_icmp .le 16, 3) := by decide +kernel
theorem d_X0_melting_95 : decode prog_2_method_18_code 95 = .ok (.iload_n 3, 1) := by decide +kernel
theorem d_X0_melting_96 : decode prog_2_method_18_code 96 = .ok (.aload_n 0, 1) := by decide +kernel
theorem d_X0_melting_97 : decode prog_2_method_18_code 97 = .ok (.getfield 15, 3) := by decide +kernel
theorem d_X0_melting_100 : decode prog_2_method_18_code 100 = .ok (.iload_n 2, 1) := by decide +kernel
theorem d_X0_melting_101 : decode prog_2_method_18_code 101 = .ok (.iaload, 1) := by decide +kernel
theorem d_X0_melting_102 : decode prog_2_method_18_code 102 = .ok (.iadd, 1) := by decide +kernel
theorem d_X0_melting_103 : decode prog_2_method_18_code 103 = .ok (.iconst 3, 1) := by decide +kernel
theorem d_X0_melting_104 : decode prog_2_method_18_code 104 = .ok (.idiv, 1) := by decide +kernel
theorem d_X0_melting_105 : decode prog_2_method_18_code 105 = .ok (.goto 11, 3) := by decide +kernel
theorem d_X0_melting_108 : decode prog_2_method_18_code 108 = .ok (.iload_n 3, 1) := by decide +kernel
theorem d_X0_melting_109 : decode prog_2_method_18_code 109 = .ok (.aload_n 0, 1) := by decide +kernel
theorem d_X0_melting_110 : decode prog_2_method_18_code 110 = .ok (.getfield 15, 3) := by decide +kernel
theorem d_X0_melting_113 : decode prog_2_method_18_code 113 = .ok (.iload_n 2, 1) := by decide +kernel
theorem d_X0_melting_114 : decode prog_2_method_18_code 114 = .ok (.iaload, 1) := by decide +kernel
theorem d_X0_melting_115 : decode prog_2_method_18_code 115 = .ok (.iadd, 1) := by decide +kernel
theorem d_X0_melting_116 : decode prog_2_method_18_code 116 = .ok (.ireturn, 1) := by decide +kernel
theorem d_X0_melting_117 : decode prog_2_method_18_code 117 = .ok (.aload_n 0, 1) := by decide +kernel
theorem d_X0_melting_118 : decode prog_2_method_18_code 118 = .ok (.getfield 15, 3) := by decide +kernel
theorem d_X0_melting_121 : decode prog_2_method_18_code 121 = .ok (.iload_n 2, 1) := by decide +kernel
theorem d_X0_melting_122 : decode prog_2_method_18_code 122 = .ok (.iaload, 1) := by decide +kernel
theorem d_X0_melting_123 : decode prog_2_method_18_code 123 = .ok (.ireturn, 1) := by decide +kernel
theorem d_X0_melting_124 : decode prog_2_method_18_code 124 = .ok (.iload_n 3, 1) := by decide +kernel
theorem d_X0_melting_125 : decode prog_2_method_18_code 125 = .ok (.ireturn, 1) := by decide +kernel
def f_X0_melting (κ : it_KK) (u : Nat) (x1 : Int32) (S : it_SS) : Option (Int32 × it_SS) :=
if it_bd x1 10 = true then
it_bi (f_X0_saying κ u 0 x1 S) (fun r3 S2 =>
if it_bd (S (u + 5) (x1 : Int32).toNatClampNeg) 6 = true then
if (S2 (u + 1) ((S (u + 5) (x1 : Int32).toNatClampNeg) : Int32).toNatClampNeg) = 2 then
some ((r3 + (S2 (u + 2) ((S (u + 5) (x1 : Int32).toNatClampNeg) : Int32).toNatClampNeg)), S2)
else if (S2 (u + 1) ((S (u + 5) (x1 : Int32).toNatClampNeg) : Int32).toNatClampNeg) = 3 then
if ((S2 u 9) - (S2 u 9) / 7 * 7) = (S2 (u + 2) ((S (u + 5) (x1 : Int32).toNatClampNeg) : Int32).toNatClampNeg) then
some (99, S2)
else
some (r3, S2)
else if (S2 (u + 1) ((S (u + 5) (x1 : Int32).toNatClampNeg) : Int32).toNatClampNeg) = 4 then
if (S2 (u + 4) ((S (u + 5) (x1 : Int32).toNatClampNeg) : Int32).toNatClampNeg) ≤ 20 then
some ((r3 + (S2 (u + 2) ((S (u + 5) (x1 : Int32).toNatClampNeg) : Int32).toNatClampNeg)), S2)
else
some (((r3 + (S2 (u + 2) ((S (u + 5) (x1 : Int32).toNatClampNeg) : Int32).toNatClampNeg)) / 3), S2)
else if (S2 (u + 1) ((S (u + 5) (x1 : Int32).toNatClampNeg) : Int32).toNatClampNeg) = 5 then
some ((S2 (u + 2) ((S (u + 5) (x1 : Int32).toNatClampNeg) : Int32).toNatClampNeg), S2)
else 
some (r3, S2)
else none)
else none
set_option maxHeartbeats 4000000 in
set_option maxRecDepth 100000 in
theorem L_X0_melting {g : it_G} {l : Launch} {κ : it_KK} {u : Nat} {x1 : Int32} (hb : it_wb κ) (hh : it_hs κ u) {S : it_SS} {P : Int32 → it_SS → Prop} (h : it_ok (f_X0_melting κ u x1 S) P) : it_Cn g l 4 it_m_X0_melting [.ref u, .int x1] κ S (it_pi κ P) := by
  refine it_Cn.of (by decide +kernel) (Nat.le_of_ble_eq_true rfl) ?_
  rw [f_X0_melting] at h
  show it_Ev g l 4 it_m_X0_melting 0 0 0 [some (.ref u), some (.int x1), none, none] [] κ S (it_pi κ P)
  refine ev_aload_n d_X0_melting_0 rfl ?_
  refine ev_getRr (r := (u + 5)) rfl d_X0_melting_1 fl_IcedTooSoon_House_24 (hh).1 rfl ?_
  refine ev_iload_n d_X0_melting_4 rfl ?_
  obtain ⟨hb1, h⟩ := it_ok_g h
  refine ev_iald d_X0_melting_5 (hh).2.2.2.2.2.1 (it_bd_in hb1) ?_
  refine ev_istore_n d_X0_melting_6 (by decide) ?_
  show it_Ev g l 4 it_m_X0_melting 0 0 7 [some (.ref u), some (.int x1), some (.int (S (u + 5) (x1 : Int32).toNatClampNeg)), none] [] κ S (it_pi κ P)
  refine ev_aload_n d_X0_melting_7 rfl ?_
  refine ev_iconst d_X0_melting_8 kv_iconst_0 ?_
  refine ev_iload_n d_X0_melting_9 rfl ?_
  refine ev_callV (ci := 0) (b := u) (M' := it_m_X0_saying) (d' := 3) (As := [.int 0, .int x1]) d_X0_melting_10 ml_IcedTooSoon_House_106 (hh).1.1 (hh).1.2.1 ⟨_, rfl, rfl⟩ rfl rfl (Nat.le_of_ble_eq_true rfl) (by decide) (by decide) (by decide) (L_X0_saying hb hh (it_ok_b h)) (fun _ _ _ _ q => by cases q.1; rfl) ?_
  rintro _ _ S2 ⟨rfl, r3, rfl, h⟩
  show it_Ev g l 4 it_m_X0_melting 0 0 13 [some (.ref u), some (.int x1), some (.int (S (u + 5) (x1 : Int32).toNatClampNeg)), none] [.int r3] κ S2 (it_pi κ P)
  refine ev_istore_n d_X0_melting_13 (by decide) ?_
  show it_Ev g l 4 it_m_X0_melting 0 0 14 [some (.ref u), some (.int x1), some (.int (S (u + 5) (x1 : Int32).toNatClampNeg)), some (.int r3)] [] κ S2 (it_pi κ P)
  refine ev_aload_n d_X0_melting_14 rfl ?_
  refine ev_getRr (r := (u + 1)) rfl d_X0_melting_15 fl_IcedTooSoon_House_9 (hh).1 rfl ?_
  refine ev_iload_n d_X0_melting_18 rfl ?_
  obtain ⟨hb4, h⟩ := it_ok_g h
  refine ev_iald d_X0_melting_19 (hh).2.1 (it_bd_in hb4) ?_
  rcases Classical.em ((S2 (u + 1) ((S (u + 5) (x1 : Int32).toNatClampNeg) : Int32).toNatClampNeg) = 2) with hc5 | hc5
  · have h := it_ok_t h hc5
    refine ev_table (c1 := 2) (off := 32) (tgt := 52) hc5 d_X0_melting_20 (by decide) (by decide) (by decide) (by decide) ?_
    refine ev_iload_n d_X0_melting_52 rfl ?_
    refine ev_aload_n d_X0_melting_53 rfl ?_
    refine ev_getRr (r := (u + 2)) rfl d_X0_melting_54 fl_IcedTooSoon_House_15 (hh).1 rfl ?_
    refine ev_iload_n d_X0_melting_57 rfl ?_
    refine ev_iald d_X0_melting_58 (hh).2.2.1 (it_bd_in hb4) ?_
    refine ev_iadd d_X0_melting_59 ?_
    exact ev_ret (v := some (.int _)) ⟨d_X0_melting_60, _, rfl, rfl⟩ (by decide) (by decide) ⟨rfl, _, rfl, it_ok_r h⟩
  · have h := it_ok_f h hc5
    rcases Classical.em ((S2 (u + 1) ((S (u + 5) (x1 : Int32).toNatClampNeg) : Int32).toNatClampNeg) = 3) with hc6 | hc6
    · have h := it_ok_t h hc6
      refine ev_table (c1 := 3) (off := 41) (tgt := 61) hc6 d_X0_melting_20 (by decide) (by decide) (by decide) (by decide) ?_
      refine ev_aload_n d_X0_melting_61 rfl ?_
      refine ev_getI d_X0_melting_62 fl_IcedTooSoon_House_53 (hh).1 rfl ?_
      refine ev_bipush d_X0_melting_65 kv_bipush_7 ?_
      refine ev_irem d_X0_melting_67 (by decide) ?_
      refine ev_aload_n d_X0_melting_68 rfl ?_
      refine ev_getRr (r := (u + 2)) rfl d_X0_melting_69 fl_IcedTooSoon_House_15 (hh).1 rfl ?_
      refine ev_iload_n d_X0_melting_72 rfl ?_
      refine ev_iald d_X0_melting_73 (hh).2.2.1 (it_bd_in hb4) ?_
      refine ev_icmp_ne (tgt := 82) d_X0_melting_74 (by decide) (fun hc7 => ?_) (fun hc7 => ?_)
      · have h := it_ok_f h hc7
        refine ev_iload_n d_X0_melting_82 rfl ?_
        exact ev_ret (v := some (.int _)) ⟨d_X0_melting_83, _, rfl, rfl⟩ (by decide) (by decide) ⟨rfl, _, rfl, it_ok_r h⟩
      · have h := it_ok_t h hc7
        refine ev_bipush d_X0_melting_77 kv_bipush_99 ?_
        refine ev_goto (tgt := 83) d_X0_melting_79 (by decide) ?_
        exact ev_ret (v := some (.int _)) ⟨d_X0_melting_83, _, rfl, rfl⟩ (by decide) (by decide) ⟨rfl, _, rfl, it_ok_r h⟩
    · have h := it_ok_f h hc6
      rcases Classical.em ((S2 (u + 1) ((S (u + 5) (x1 : Int32).toNatClampNeg) : Int32).toNatClampNeg) = 4) with hc8 | hc8
      · have h := it_ok_t h hc8
        refine ev_table (c1 := 4) (off := 64) (tgt := 84) hc8 d_X0_melting_20 (by decide) (by decide) (by decide) (by decide) ?_
        refine ev_aload_n d_X0_melting_84 rfl ?_
        refine ev_getRr (r := (u + 4)) rfl d_X0_melting_85 fl_IcedTooSoon_House_21 (hh).1 rfl ?_
        refine ev_iload_n d_X0_melting_88 rfl ?_
        refine ev_iald d_X0_melting_89 (hh).2.2.2.2.1 (it_bd_in hb4) ?_
        refine ev_bipush d_X0_melting_90 kv_bipush_20 ?_
        refine ev_icmp_le (tgt := 108) d_X0_melting_92 (by decide) (fun hc9 => ?_) (fun hc9 => ?_)
        · have h := it_ok_t h hc9
          refine ev_iload_n d_X0_melting_108 rfl ?_
          refine ev_aload_n d_X0_melting_109 rfl ?_
          refine ev_getRr (r := (u + 2)) rfl d_X0_melting_110 fl_IcedTooSoon_House_15 (hh).1 rfl ?_
          refine ev_iload_n d_X0_melting_113 rfl ?_
          refine ev_iald d_X0_melting_114 (hh).2.2.1 (it_bd_in hb4) ?_
          refine ev_iadd d_X0_melting_115 ?_
          exact ev_ret (v := some (.int _)) ⟨d_X0_melting_116, _, rfl, rfl⟩ (by decide) (by decide) ⟨rfl, _, rfl, it_ok_r h⟩
        · have h := it_ok_f h hc9
          refine ev_iload_n d_X0_melting_95 rfl ?_
          refine ev_aload_n d_X0_melting_96 rfl ?_
          refine ev_getRr (r := (u + 2)) rfl d_X0_melting_97 fl_IcedTooSoon_House_15 (hh).1 rfl ?_
          refine ev_iload_n d_X0_melting_100 rfl ?_
          refine ev_iald d_X0_melting_101 (hh).2.2.1 (it_bd_in hb4) ?_
          refine ev_iadd d_X0_melting_102 ?_
          refine ev_iconst d_X0_melting_103 kv_iconst_3 ?_
          refine ev_idiv d_X0_melting_104 (by decide) ?_
          refine ev_goto (tgt := 116) d_X0_melting_105 (by decide) ?_
          exact ev_ret (v := some (.int _)) ⟨d_X0_melting_116, _, rfl, rfl⟩ (by decide) (by decide) ⟨rfl, _, rfl, it_ok_r h⟩
      · have h := it_ok_f h hc8
        rcases Classical.em ((S2 (u + 1) ((S (u + 5) (x1 : Int32).toNatClampNeg) : Int32).toNatClampNeg) = 5) with hc10 | hc10
        · have h := it_ok_t h hc10
          refine ev_table (c1 := 5) (off := 97) (tgt := 117) hc10 d_X0_melting_20 (by decide) (by decide) (by decide) (by decide) ?_
          refine ev_aload_n d_X0_melting_117 rfl ?_
          refine ev_getRr (r := (u + 2)) rfl d_X0_melting_118 fl_IcedTooSoon_House_15 (hh).1 rfl ?_
          refine ev_iload_n d_X0_melting_121 rfl ?_
          refine ev_iald d_X0_melting_122 (hh).2.2.1 (it_bd_in hb4) ?_
          exact ev_ret (v := some (.int _)) ⟨d_X0_melting_123, _, rfl, rfl⟩ (by decide) (by decide) ⟨rfl, _, rfl, it_ok_r h⟩
        · have h := it_ok_f h hc10
          refine ev_tableOut (tgt := 124) d_X0_melting_20 (it_sw (fun h1 h2 => ?_)) (by decide) ?_
          · rcases (by omega : ((S2 (u + 1) ((S (u + 5) (x1 : Int32).toNatClampNeg) : Int32).toNatClampNeg)).toInt = 2 ∨ ((S2 (u + 1) ((S (u + 5) (x1 : Int32).toNatClampNeg) : Int32).toNatClampNeg)).toInt = 3 ∨ ((S2 (u + 1) ((S (u + 5) (x1 : Int32).toNatClampNeg) : Int32).toNatClampNeg)).toInt = 4 ∨ ((S2 (u + 1) ((S (u + 5) (x1 : Int32).toNatClampNeg) : Int32).toNatClampNeg)).toInt = 5) with q | q | q | q
            · exact hc5 (Int32.toInt_inj.mp (q.trans (by decide)))
            · exact hc6 (Int32.toInt_inj.mp (q.trans (by decide)))
            · exact hc8 (Int32.toInt_inj.mp (q.trans (by decide)))
            · exact hc10 (Int32.toInt_inj.mp (q.trans (by decide)))
          · skip
            refine ev_iload_n d_X0_melting_124 rfl ?_
            exact ev_ret (v := some (.int _)) ⟨d_X0_melting_125, _, rfl, rfl⟩ (by decide) (by decide) ⟨rfl, _, rfl, it_ok_r h⟩
theorem d_X0_feeling_0 : decode prog_2_method_19_code 0 = .ok (.aload_n 0, 1) := by decide +kernel
theorem d_X0_feeling_1 : decode prog_2_method_19_code 1 = .ok (.getfield 24, 3) := by decide +kernel
theorem d_X0_feeling_4 : decode prog_2_method_19_code 4 = .ok (.iload_n 1, 1) := by decide +kernel
theorem d_X0_feeling_5 : decode prog_2_method_19_code 5 = .ok (.iaload, 1) := by decide +kernel
theorem d_X0_feeling_6 : decode prog_2_method_19_code 6 = .ok (.istore_n 2, 1) := by decide +kernel
theorem d_X0_feeling_7 : decode prog_2_method_19_code 7 = .ok (.aload_n 0, 1) := by decide +kernel
theorem d_X0_feeling_8 : decode prog_2_method_19_code 8 = .ok (.iconst 1, 1) := by decide +kernel
theorem d_X0_feeling_9 : decode prog_2_method_19_code 9 = .ok (.iload_n 1, 1) := by decide +kernel
theorem d_X0_feeling_10 : decode prog_2_method_19_code 10 = .ok (.invokevirtual 106, 3) := by decide +kernel
theorem d_X0_feeling_13 : decode prog_2_method_19_code 13 = .ok (.istore_n 3, 1) := by decide +kernel
theorem d_X0_feeling_14 : decode prog_2_method_19_code 14 = .ok (.iload_n 3, 1) := by decide +kernel
theorem d_X0_feeling_15 : decode prog_2_method_19_code 15 = .ok (.ifCond .le 14, 3) := by decide +kernel
theorem d_X0_feeling_18 : decode prog_2_method_19_code 18 = .ok (.iload_n 3, 1) := by decide +kernel
theorem d_X0_feeling_19 : decode prog_2_method_19_code 19 = .ok (.aload_n 0, 1) := by decide +kernel
theorem d_X0_feeling_20 : decode prog_2_method_19_code 20 = .ok (.getfield 15, 3) := by decide +kernel
theorem d_X0_feeling_23 : decode prog_2_method_19_code 23 = .ok (.iload_n 2, 1) := by decide +kernel
theorem d_X0_feeling_24 : decode prog_2_method_19_code 24 = .ok (.iaload, 1) := by decide +kernel
theorem d_X0_feeling_25 : decode prog_2_method_19_code 25 = .ok (.iadd, 1) := by decide +kernel
theorem d_X0_feeling_26 : decode prog_2_method_19_code 26 = .ok (.goto 4, 3) := by decide +kernel
theorem d_X0_feeling_29 : decode prog_2_method_19_code 29 = .ok (.iload_n 3, 1) := by decide +kernel
theorem d_X0_feeling_30 : decode prog_2_method_19_code 30 = .ok (.istore 4, 2) := by decide +kernel
theorem d_X0_feeling_32 : decode prog_2_method_19_code 32 = .ok (.aload_n 0, 1) := by decide +kernel
theorem d_X0_feeling_33 : decode prog_2_method_19_code 33 = .ok (.getfield 9, 3) := by decide +kernel
theorem d_X0_feeling_36 : decode prog_2_method_19_code 36 = .ok (.iload_n 2, 1) := by decide +kernel
theorem d_X0_feeling_37 : decode prog_2_method_19_code 37 = .ok (.iaload, 1) := by decide +kernel
theorem d_X0_feeling_38 : decode prog_2_method_19_code 38 = .ok (.tableswitch 64 1 5 #[34, 37, 56, 37, 61], 34) := by decide +kernel
theorem d_X0_feeling_72 : decode prog_2_method_19_code 72 = .ok (.iload 4, 2) := by decide +kernel
theorem d_X0_feeling_74 : decode prog_2_method_19_code 74 = .ok (.ireturn, 1) := by decide +kernel
theorem d_X0_feeling_75 : decode prog_2_method_19_code 75 = .ok (.aload_n 0, 1) := by decide +kernel
theorem d_X0_feeling_76 : decode prog_2_method_19_code 76 = .ok (.getfield 21, 3) := by decide +kernel
theorem d_X0_feeling_79 : decode prog_2_method_19_code 79 = .ok (.iload_n 2, 1) := by decide +kernel
theorem d_X0_feeling_80 : decode prog_2_method_19_code 80 = .ok (.iaload, 1) := by decide +kernel
theorem d_X0_feeling_81 : decode prog_2_method_19_code 81 = .ok (.bipush 50, 2) := by decide +kernel
theorem d_X0_feeling_83 : decode prog_2_method_19_code 83 = .ok (.if_icmp .le 7, 3) := by decide +kernel
theorem d_X0_feeling_86 : decode prog_2_method_19_code 86 = .ok (.iconst 0, 1) := by decide +kernel
theorem d_X0_feeling_87 : decode prog_2_method_19_code 87 = .ok (.goto 6, 3) := by decide +kernel
theorem d_X0_feeling_90 : decode prog_2_method_19_code 90 = .ok (.iload_n 3, 1) := by decide +kernel
theorem d_X0_feeling_91 : decode prog_2_method_19_code 91 = .ok (.iconst 2, 1) := by decide +kernel
theorem d_X0_feeling_92 : decode prog_2_method_19_code 92 = .ok (.idiv, 1) := by decide +kernel
theorem d_X0_feeling_93 : decode prog_2_method_19_code 93 = .ok (.ireturn, 1) := by decide +kernel
theorem d_X0_feeling_94 : decode prog_2_method_19_code 94 = .ok (.iconst 2, 1) := by decide +kernel
theorem d_X0_feeling_95 : decode prog_2_method_19_code 95 = .ok (.iload 4, 2) := by decide +kernel
theorem d_X0_feeling_97 : decode prog_2_method_19_code 97 = .ok (.imul, 1) := by decide +kernel
theorem d_X0_feeling_98 : decode prog_2_method_19_code 98 = .ok (.ireturn, 1) := by decide +kernel
theorem d_X0_feeling_99 : decode prog_2_method_19_code 99 = .ok (.iload_n 3, 1) := by decide +kernel
theorem d_X0_feeling_100 : decode prog_2_method_19_code 100 = .ok (.ineg, 1) := by decide +kernel
theorem d_X0_feeling_101 : decode prog_2_method_19_code 101 = .ok (.ireturn, 1) := by decide +kernel
theorem d_X0_feeling_102 : decode prog_2_method_19_code 102 = .ok (.iload_n 3, 1) := by decide +kernel
theorem d_X0_feeling_103 : decode prog_2_method_19_code 103 = .ok (.ireturn, 1) := by decide +kernel
def f_X0_feeling (κ : it_KK) (u : Nat) (x1 : Int32) (S : it_SS) : Option (Int32 × it_SS) :=
if it_bd x1 10 = true then
it_bi (f_X0_saying κ u 1 x1 S) (fun r3 S2 =>
if r3 ≤ 0 then
if it_bd (S (u + 5) (x1 : Int32).toNatClampNeg) 6 = true then
if (S2 (u + 1) ((S (u + 5) (x1 : Int32).toNatClampNeg) : Int32).toNatClampNeg) = 1 then
some (r3, S2)
else if (S2 (u + 1) ((S (u + 5) (x1 : Int32).toNatClampNeg) : Int32).toNatClampNeg) = 2 then
if (S2 (u + 4) ((S (u + 5) (x1 : Int32).toNatClampNeg) : Int32).toNatClampNeg) ≤ 50 then
some ((r3 / 2), S2)
else
some (0, S2)
else if (S2 (u + 1) ((S (u + 5) (x1 : Int32).toNatClampNeg) : Int32).toNatClampNeg) = 3 then
some ((2 * r3), S2)
else if (S2 (u + 1) ((S (u + 5) (x1 : Int32).toNatClampNeg) : Int32).toNatClampNeg) = 4 then
if (S2 (u + 4) ((S (u + 5) (x1 : Int32).toNatClampNeg) : Int32).toNatClampNeg) ≤ 50 then
some ((r3 / 2), S2)
else
some (0, S2)
else if (S2 (u + 1) ((S (u + 5) (x1 : Int32).toNatClampNeg) : Int32).toNatClampNeg) = 5 then
some ((-r3), S2)
else 
some (r3, S2)
else none
else
if it_bd (S (u + 5) (x1 : Int32).toNatClampNeg) 6 = true then
if (S2 (u + 1) ((S (u + 5) (x1 : Int32).toNatClampNeg) : Int32).toNatClampNeg) = 1 then
some ((r3 + (S2 (u + 2) ((S (u + 5) (x1 : Int32).toNatClampNeg) : Int32).toNatClampNeg)), S2)
else if (S2 (u + 1) ((S (u + 5) (x1 : Int32).toNatClampNeg) : Int32).toNatClampNeg) = 2 then
if (S2 (u + 4) ((S (u + 5) (x1 : Int32).toNatClampNeg) : Int32).toNatClampNeg) ≤ 50 then
some ((r3 / 2), S2)
else
some (0, S2)
else if (S2 (u + 1) ((S (u + 5) (x1 : Int32).toNatClampNeg) : Int32).toNatClampNeg) = 3 then
some ((2 * (r3 + (S2 (u + 2) ((S (u + 5) (x1 : Int32).toNatClampNeg) : Int32).toNatClampNeg))), S2)
else if (S2 (u + 1) ((S (u + 5) (x1 : Int32).toNatClampNeg) : Int32).toNatClampNeg) = 4 then
if (S2 (u + 4) ((S (u + 5) (x1 : Int32).toNatClampNeg) : Int32).toNatClampNeg) ≤ 50 then
some ((r3 / 2), S2)
else
some (0, S2)
else if (S2 (u + 1) ((S (u + 5) (x1 : Int32).toNatClampNeg) : Int32).toNatClampNeg) = 5 then
some ((-r3), S2)
else 
some (r3, S2)
else none)
else none
set_option maxHeartbeats 4000000 in
set_option maxRecDepth 100000 in
theorem L_X0_feeling {g : it_G} {l : Launch} {κ : it_KK} {u : Nat} {x1 : Int32} (hb : it_wb κ) (hh : it_hs κ u) {S : it_SS} {P : Int32 → it_SS → Prop} (h : it_ok (f_X0_feeling κ u x1 S) P) : it_Cn g l 4 it_m_X0_feeling [.ref u, .int x1] κ S (it_pi κ P) := by
  refine it_Cn.of (by decide +kernel) (Nat.le_of_ble_eq_true rfl) ?_
  rw [f_X0_feeling] at h
  show it_Ev g l 4 it_m_X0_feeling 0 0 0 [some (.ref u), some (.int x1), none, none, none] [] κ S (it_pi κ P)
  refine ev_aload_n d_X0_feeling_0 rfl ?_
  refine ev_getRr (r := (u + 5)) rfl d_X0_feeling_1 fl_IcedTooSoon_House_24 (hh).1 rfl ?_
  refine ev_iload_n d_X0_feeling_4 rfl ?_
  obtain ⟨hb1, h⟩ := it_ok_g h
  refine ev_iald d_X0_feeling_5 (hh).2.2.2.2.2.1 (it_bd_in hb1) ?_
  refine ev_istore_n d_X0_feeling_6 (by decide) ?_
  show it_Ev g l 4 it_m_X0_feeling 0 0 7 [some (.ref u), some (.int x1), some (.int (S (u + 5) (x1 : Int32).toNatClampNeg)), none, none] [] κ S (it_pi κ P)
  refine ev_aload_n d_X0_feeling_7 rfl ?_
  refine ev_iconst d_X0_feeling_8 kv_iconst_1 ?_
  refine ev_iload_n d_X0_feeling_9 rfl ?_
  refine ev_callV (ci := 0) (b := u) (M' := it_m_X0_saying) (d' := 3) (As := [.int 1, .int x1]) d_X0_feeling_10 ml_IcedTooSoon_House_106 (hh).1.1 (hh).1.2.1 ⟨_, rfl, rfl⟩ rfl rfl (Nat.le_of_ble_eq_true rfl) (by decide) (by decide) (by decide) (L_X0_saying hb hh (it_ok_b h)) (fun _ _ _ _ q => by cases q.1; rfl) ?_
  rintro _ _ S2 ⟨rfl, r3, rfl, h⟩
  show it_Ev g l 4 it_m_X0_feeling 0 0 13 [some (.ref u), some (.int x1), some (.int (S (u + 5) (x1 : Int32).toNatClampNeg)), none, none] [.int r3] κ S2 (it_pi κ P)
  refine ev_istore_n d_X0_feeling_13 (by decide) ?_
  show it_Ev g l 4 it_m_X0_feeling 0 0 14 [some (.ref u), some (.int x1), some (.int (S (u + 5) (x1 : Int32).toNatClampNeg)), some (.int r3), none] [] κ S2 (it_pi κ P)
  refine ev_iload_n d_X0_feeling_14 rfl ?_
  refine ev_if_le (tgt := 29) d_X0_feeling_15 (by decide) (fun hc4 => ?_) (fun hc4 => ?_)
  · have h := it_ok_t h hc4
    refine ev_iload_n d_X0_feeling_29 rfl ?_
    refine ev_istore d_X0_feeling_30 (by decide) ?_
    show it_Ev g l 4 it_m_X0_feeling 0 0 32 [some (.ref u), some (.int x1), some (.int (S (u + 5) (x1 : Int32).toNatClampNeg)), some (.int r3), some (.int r3)] [] κ S2 (it_pi κ P)
    refine ev_aload_n d_X0_feeling_32 rfl ?_
    refine ev_getRr (r := (u + 1)) rfl d_X0_feeling_33 fl_IcedTooSoon_House_9 (hh).1 rfl ?_
    refine ev_iload_n d_X0_feeling_36 rfl ?_
    obtain ⟨hb5, h⟩ := it_ok_g h
    refine ev_iald d_X0_feeling_37 (hh).2.1 (it_bd_in hb5) ?_
    rcases Classical.em ((S2 (u + 1) ((S (u + 5) (x1 : Int32).toNatClampNeg) : Int32).toNatClampNeg) = 1) with hc6 | hc6
    · have h := it_ok_t h hc6
      refine ev_table (c1 := 1) (off := 34) (tgt := 72) hc6 d_X0_feeling_38 (by decide) (by decide) (by decide) (by decide) ?_
      refine ev_iload d_X0_feeling_72 rfl ?_
      exact ev_ret (v := some (.int _)) ⟨d_X0_feeling_74, _, rfl, rfl⟩ (by decide) (by decide) ⟨rfl, _, rfl, it_ok_r h⟩
    · have h := it_ok_f h hc6
      rcases Classical.em ((S2 (u + 1) ((S (u + 5) (x1 : Int32).toNatClampNeg) : Int32).toNatClampNeg) = 2) with hc7 | hc7
      · have h := it_ok_t h hc7
        refine ev_table (c1 := 2) (off := 37) (tgt := 75) hc7 d_X0_feeling_38 (by decide) (by decide) (by decide) (by decide) ?_
        refine ev_aload_n d_X0_feeling_75 rfl ?_
        refine ev_getRr (r := (u + 4)) rfl d_X0_feeling_76 fl_IcedTooSoon_House_21 (hh).1 rfl ?_
        refine ev_iload_n d_X0_feeling_79 rfl ?_
        refine ev_iald d_X0_feeling_80 (hh).2.2.2.2.1 (it_bd_in hb5) ?_
        refine ev_bipush d_X0_feeling_81 kv_bipush_50 ?_
        refine ev_icmp_le (tgt := 90) d_X0_feeling_83 (by decide) (fun hc8 => ?_) (fun hc8 => ?_)
        · have h := it_ok_t h hc8
          refine ev_iload_n d_X0_feeling_90 rfl ?_
          refine ev_iconst d_X0_feeling_91 kv_iconst_2 ?_
          refine ev_idiv d_X0_feeling_92 (by decide) ?_
          exact ev_ret (v := some (.int _)) ⟨d_X0_feeling_93, _, rfl, rfl⟩ (by decide) (by decide) ⟨rfl, _, rfl, it_ok_r h⟩
        · have h := it_ok_f h hc8
          refine ev_iconst d_X0_feeling_86 kv_iconst_0 ?_
          refine ev_goto (tgt := 93) d_X0_feeling_87 (by decide) ?_
          exact ev_ret (v := some (.int _)) ⟨d_X0_feeling_93, _, rfl, rfl⟩ (by decide) (by decide) ⟨rfl, _, rfl, it_ok_r h⟩
      · have h := it_ok_f h hc7
        rcases Classical.em ((S2 (u + 1) ((S (u + 5) (x1 : Int32).toNatClampNeg) : Int32).toNatClampNeg) = 3) with hc9 | hc9
        · have h := it_ok_t h hc9
          refine ev_table (c1 := 3) (off := 56) (tgt := 94) hc9 d_X0_feeling_38 (by decide) (by decide) (by decide) (by decide) ?_
          refine ev_iconst d_X0_feeling_94 kv_iconst_2 ?_
          refine ev_iload d_X0_feeling_95 rfl ?_
          refine ev_imul d_X0_feeling_97 ?_
          exact ev_ret (v := some (.int _)) ⟨d_X0_feeling_98, _, rfl, rfl⟩ (by decide) (by decide) ⟨rfl, _, rfl, it_ok_r h⟩
        · have h := it_ok_f h hc9
          rcases Classical.em ((S2 (u + 1) ((S (u + 5) (x1 : Int32).toNatClampNeg) : Int32).toNatClampNeg) = 4) with hc10 | hc10
          · have h := it_ok_t h hc10
            refine ev_table (c1 := 4) (off := 37) (tgt := 75) hc10 d_X0_feeling_38 (by decide) (by decide) (by decide) (by decide) ?_
            refine ev_aload_n d_X0_feeling_75 rfl ?_
            refine ev_getRr (r := (u + 4)) rfl d_X0_feeling_76 fl_IcedTooSoon_House_21 (hh).1 rfl ?_
            refine ev_iload_n d_X0_feeling_79 rfl ?_
            refine ev_iald d_X0_feeling_80 (hh).2.2.2.2.1 (it_bd_in hb5) ?_
            refine ev_bipush d_X0_feeling_81 kv_bipush_50 ?_
            refine ev_icmp_le (tgt := 90) d_X0_feeling_83 (by decide) (fun hc11 => ?_) (fun hc11 => ?_)
            · have h := it_ok_t h hc11
              refine ev_iload_n d_X0_feeling_90 rfl ?_
              refine ev_iconst d_X0_feeling_91 kv_iconst_2 ?_
              refine ev_idiv d_X0_feeling_92 (by decide) ?_
              exact ev_ret (v := some (.int _)) ⟨d_X0_feeling_93, _, rfl, rfl⟩ (by decide) (by decide) ⟨rfl, _, rfl, it_ok_r h⟩
            · have h := it_ok_f h hc11
              refine ev_iconst d_X0_feeling_86 kv_iconst_0 ?_
              refine ev_goto (tgt := 93) d_X0_feeling_87 (by decide) ?_
              exact ev_ret (v := some (.int _)) ⟨d_X0_feeling_93, _, rfl, rfl⟩ (by decide) (by decide) ⟨rfl, _, rfl, it_ok_r h⟩
          · have h := it_ok_f h hc10
            rcases Classical.em ((S2 (u + 1) ((S (u + 5) (x1 : Int32).toNatClampNeg) : Int32).toNatClampNeg) = 5) with hc12 | hc12
            · have h := it_ok_t h hc12
              refine ev_table (c1 := 5) (off := 61) (tgt := 99) hc12 d_X0_feeling_38 (by decide) (by decide) (by decide) (by decide) ?_
              refine ev_iload_n d_X0_feeling_99 rfl ?_
              refine ev_ineg d_X0_feeling_100 ?_
              exact ev_ret (v := some (.int _)) ⟨d_X0_feeling_101, _, rfl, rfl⟩ (by decide) (by decide) ⟨rfl, _, rfl, it_ok_r h⟩
            · have h := it_ok_f h hc12
              refine ev_tableOut (tgt := 102) d_X0_feeling_38 (it_sw (fun h1 h2 => ?_)) (by decide) ?_
              · rcases (by omega : ((S2 (u + 1) ((S (u + 5) (x1 : Int32).toNatClampNeg) : Int32).toNatClampNeg)).toInt = 1 ∨ ((S2 (u + 1) ((S (u + 5) (x1 : Int32).toNatClampNeg) : Int32).toNatClampNeg)).toInt = 2 ∨ ((S2 (u + 1) ((S (u + 5) (x1 : Int32).toNatClampNeg) : Int32).toNatClampNeg)).toInt = 3 ∨ ((S2 (u + 1) ((S (u + 5) (x1 : Int32).toNatClampNeg) : Int32).toNatClampNeg)).toInt = 4 ∨ ((S2 (u + 1) ((S (u + 5) (x1 : Int32).toNatClampNeg) : Int32).toNatClampNeg)).toInt = 5) with q | q | q | q | q
                · exact hc6 (Int32.toInt_inj.mp (q.trans (by decide)))
                · exact hc7 (Int32.toInt_inj.mp (q.trans (by decide)))
                · exact hc9 (Int32.toInt_inj.mp (q.trans (by decide)))
                · exact hc10 (Int32.toInt_inj.mp (q.trans (by decide)))
                · exact hc12 (Int32.toInt_inj.mp (q.trans (by decide)))
              · skip
                refine ev_iload_n d_X0_feeling_102 rfl ?_
                exact ev_ret (v := some (.int _)) ⟨d_X0_feeling_103, _, rfl, rfl⟩ (by decide) (by decide) ⟨rfl, _, rfl, it_ok_r h⟩
  · have h := it_ok_f h hc4
    refine ev_iload_n d_X0_feeling_18 rfl ?_
    refine ev_aload_n d_X0_feeling_19 rfl ?_
    refine ev_getRr (r := (u + 2)) rfl d_X0_feeling_20 fl_IcedTooSoon_House_15 (hh).1 rfl ?_
    refine ev_iload_n d_X0_feeling_23 rfl ?_
    obtain ⟨hb13, h⟩ := it_ok_g h
    refine ev_iald d_X0_feeling_24 (hh).2.2.1 (it_bd_in hb13) ?_
    refine ev_iadd d_X0_feeling_25 ?_
    refine ev_goto (tgt := 30) d_X0_feeling_26 (by decide) ?_
    refine ev_istore d_X0_feeling_30 (by decide) ?_
    show it_Ev g l 4 it_m_X0_feeling 0 0 32 [some (.ref u), some (.int x1), some (.int (S (u + 5) (x1 : Int32).toNatClampNeg)), some (.int r3), some (.int (r3 + (S2 (u + 2) ((S (u + 5) (x1 : Int32).toNatClampNeg) : Int32).toNatClampNeg)))] [] κ S2 (it_pi κ P)
    refine ev_aload_n d_X0_feeling_32 rfl ?_
    refine ev_getRr (r := (u + 1)) rfl d_X0_feeling_33 fl_IcedTooSoon_House_9 (hh).1 rfl ?_
    refine ev_iload_n d_X0_feeling_36 rfl ?_
    refine ev_iald d_X0_feeling_37 (hh).2.1 (it_bd_in hb13) ?_
    rcases Classical.em ((S2 (u + 1) ((S (u + 5) (x1 : Int32).toNatClampNeg) : Int32).toNatClampNeg) = 1) with hc14 | hc14
    · have h := it_ok_t h hc14
      refine ev_table (c1 := 1) (off := 34) (tgt := 72) hc14 d_X0_feeling_38 (by decide) (by decide) (by decide) (by decide) ?_
      refine ev_iload d_X0_feeling_72 rfl ?_
      exact ev_ret (v := some (.int _)) ⟨d_X0_feeling_74, _, rfl, rfl⟩ (by decide) (by decide) ⟨rfl, _, rfl, it_ok_r h⟩
    · have h := it_ok_f h hc14
      rcases Classical.em ((S2 (u + 1) ((S (u + 5) (x1 : Int32).toNatClampNeg) : Int32).toNatClampNeg) = 2) with hc15 | hc15
      · have h := it_ok_t h hc15
        refine ev_table (c1 := 2) (off := 37) (tgt := 75) hc15 d_X0_feeling_38 (by decide) (by decide) (by decide) (by decide) ?_
        refine ev_aload_n d_X0_feeling_75 rfl ?_
        refine ev_getRr (r := (u + 4)) rfl d_X0_feeling_76 fl_IcedTooSoon_House_21 (hh).1 rfl ?_
        refine ev_iload_n d_X0_feeling_79 rfl ?_
        refine ev_iald d_X0_feeling_80 (hh).2.2.2.2.1 (it_bd_in hb13) ?_
        refine ev_bipush d_X0_feeling_81 kv_bipush_50 ?_
        refine ev_icmp_le (tgt := 90) d_X0_feeling_83 (by decide) (fun hc16 => ?_) (fun hc16 => ?_)
        · have h := it_ok_t h hc16
          refine ev_iload_n d_X0_feeling_90 rfl ?_
          refine ev_iconst d_X0_feeling_91 kv_iconst_2 ?_
          refine ev_idiv d_X0_feeling_92 (by decide) ?_
          exact ev_ret (v := some (.int _)) ⟨d_X0_feeling_93, _, rfl, rfl⟩ (by decide) (by decide) ⟨rfl, _, rfl, it_ok_r h⟩
        · have h := it_ok_f h hc16
          refine ev_iconst d_X0_feeling_86 kv_iconst_0 ?_
          refine ev_goto (tgt := 93) d_X0_feeling_87 (by decide) ?_
          exact ev_ret (v := some (.int _)) ⟨d_X0_feeling_93, _, rfl, rfl⟩ (by decide) (by decide) ⟨rfl, _, rfl, it_ok_r h⟩
      · have h := it_ok_f h hc15
        rcases Classical.em ((S2 (u + 1) ((S (u + 5) (x1 : Int32).toNatClampNeg) : Int32).toNatClampNeg) = 3) with hc17 | hc17
        · have h := it_ok_t h hc17
          refine ev_table (c1 := 3) (off := 56) (tgt := 94) hc17 d_X0_feeling_38 (by decide) (by decide) (by decide) (by decide) ?_
          refine ev_iconst d_X0_feeling_94 kv_iconst_2 ?_
          refine ev_iload d_X0_feeling_95 rfl ?_
          refine ev_imul d_X0_feeling_97 ?_
          exact ev_ret (v := some (.int _)) ⟨d_X0_feeling_98, _, rfl, rfl⟩ (by decide) (by decide) ⟨rfl, _, rfl, it_ok_r h⟩
        · have h := it_ok_f h hc17
          rcases Classical.em ((S2 (u + 1) ((S (u + 5) (x1 : Int32).toNatClampNeg) : Int32).toNatClampNeg) = 4) with hc18 | hc18
          · have h := it_ok_t h hc18
            refine ev_table (c1 := 4) (off := 37) (tgt := 75) hc18 d_X0_feeling_38 (by decide) (by decide) (by decide) (by decide) ?_
            refine ev_aload_n d_X0_feeling_75 rfl ?_
            refine ev_getRr (r := (u + 4)) rfl d_X0_feeling_76 fl_IcedTooSoon_House_21 (hh).1 rfl ?_
            refine ev_iload_n d_X0_feeling_79 rfl ?_
            refine ev_iald d_X0_feeling_80 (hh).2.2.2.2.1 (it_bd_in hb13) ?_
            refine ev_bipush d_X0_feeling_81 kv_bipush_50 ?_
            refine ev_icmp_le (tgt := 90) d_X0_feeling_83 (by decide) (fun hc19 => ?_) (fun hc19 => ?_)
            · have h := it_ok_t h hc19
              refine ev_iload_n d_X0_feeling_90 rfl ?_
              refine ev_iconst d_X0_feeling_91 kv_iconst_2 ?_
              refine ev_idiv d_X0_feeling_92 (by decide) ?_
              exact ev_ret (v := some (.int _)) ⟨d_X0_feeling_93, _, rfl, rfl⟩ (by decide) (by decide) ⟨rfl, _, rfl, it_ok_r h⟩
            · have h := it_ok_f h hc19
              refine ev_iconst d_X0_feeling_86 kv_iconst_0 ?_
              refine ev_goto (tgt := 93) d_X0_feeling_87 (by decide) ?_
              exact ev_ret (v := some (.int _)) ⟨d_X0_feeling_93, _, rfl, rfl⟩ (by decide) (by decide) ⟨rfl, _, rfl, it_ok_r h⟩
          · have h := it_ok_f h hc18
            rcases Classical.em ((S2 (u + 1) ((S (u + 5) (x1 : Int32).toNatClampNeg) : Int32).toNatClampNeg) = 5) with hc20 | hc20
            · have h := it_ok_t h hc20
              refine ev_table (c1 := 5) (off := 61) (tgt := 99) hc20 d_X0_feeling_38 (by decide) (by decide) (by decide) (by decide) ?_
              refine ev_iload_n d_X0_feeling_99 rfl ?_
              refine ev_ineg d_X0_feeling_100 ?_
              exact ev_ret (v := some (.int _)) ⟨d_X0_feeling_101, _, rfl, rfl⟩ (by decide) (by decide) ⟨rfl, _, rfl, it_ok_r h⟩
            · have h := it_ok_f h hc20
              refine ev_tableOut (tgt := 102) d_X0_feeling_38 (it_sw (fun h1 h2 => ?_)) (by decide) ?_
              · rcases (by omega : ((S2 (u + 1) ((S (u + 5) (x1 : Int32).toNatClampNeg) : Int32).toNatClampNeg)).toInt = 1 ∨ ((S2 (u + 1) ((S (u + 5) (x1 : Int32).toNatClampNeg) : Int32).toNatClampNeg)).toInt = 2 ∨ ((S2 (u + 1) ((S (u + 5) (x1 : Int32).toNatClampNeg) : Int32).toNatClampNeg)).toInt = 3 ∨ ((S2 (u + 1) ((S (u + 5) (x1 : Int32).toNatClampNeg) : Int32).toNatClampNeg)).toInt = 4 ∨ ((S2 (u + 1) ((S (u + 5) (x1 : Int32).toNatClampNeg) : Int32).toNatClampNeg)).toInt = 5) with q | q | q | q | q
                · exact hc14 (Int32.toInt_inj.mp (q.trans (by decide)))
                · exact hc15 (Int32.toInt_inj.mp (q.trans (by decide)))
                · exact hc17 (Int32.toInt_inj.mp (q.trans (by decide)))
                · exact hc18 (Int32.toInt_inj.mp (q.trans (by decide)))
                · exact hc20 (Int32.toInt_inj.mp (q.trans (by decide)))
              · skip
                refine ev_iload_n d_X0_feeling_102 rfl ?_
                exact ev_ret (v := some (.int _)) ⟨d_X0_feeling_103, _, rfl, rfl⟩ (by decide) (by decide) ⟨rfl, _, rfl, it_ok_r h⟩
theorem d_X0_chilling_0 : decode prog_2_method_20_code 0 = .ok (.aload_n 0, 1) := by decide +kernel
theorem d_X0_chilling_1 : decode prog_2_method_20_code 1 = .ok (.getfield 24, 3) := by decide +kernel
theorem d_X0_chilling_4 : decode prog_2_method_20_code 4 = .ok (.iload_n 1, 1) := by decide +kernel
theorem d_X0_chilling_5 : decode prog_2_method_20_code 5 = .ok (.iaload, 1) := by decide +kernel
theorem d_X0_chilling_6 : decode prog_2_method_20_code 6 = .ok (.istore_n 2, 1) := by decide +kernel
theorem d_X0_chilling_7 : decode prog_2_method_20_code 7 = .ok (.aload_n 0, 1) := by decide +kernel
theorem d_X0_chilling_8 : decode prog_2_method_20_code 8 = .ok (.iconst 2, 1) := by decide +kernel
theorem d_X0_chilling_9 : decode prog_2_method_20_code 9 = .ok (.iload_n 1, 1) := by decide +kernel
theorem d_X0_chilling_10 : decode prog_2_method_20_code 10 = .ok (.invokevirtual 106, 3) := by decide +kernel
theorem d_X0_chilling_13 : decode prog_2_method_20_code 13 = .ok (.istore_n 3, 1) := by decide +kernel
theorem d_X0_chilling_14 : decode prog_2_method_20_code 14 = .ok (.aload_n 0, 1) := by decide +kernel
theorem d_X0_chilling_15 : decode prog_2_method_20_code 15 = .ok (.getfield 9, 3) := by decide +kernel
theorem d_X0_chilling_18 : decode prog_2_method_20_code 18 = .ok (.iload_n 2, 1) := by decide +kernel
theorem d_X0_chilling_19 : decode prog_2_method_20_code 19 = .ok (.iaload, 1) := by decide +kernel
theorem d_X0_chilling_20 : decode prog_2_method_20_code 20 = .ok (.tableswitch 45 1 4 #[32, 45, 32, 36], 32) := by decide +kernel
theorem d_X0_chilling_52 : decode prog_2_method_20_code 52 = .ok (.iload_n 3, 1) := by decide +kernel
theorem d_X0_chilling_53 : decode prog_2_method_20_code 53 = .ok (.iconst 2, 1) := by decide +kernel
theorem d_X0_chilling_54 : decode prog_2_method_20_code 54 = .ok (.idiv, 1) := by decide +kernel
theorem d_X0_chilling_55 : decode prog_2_method_20_code 55 = .ok (.ireturn, 1) := by decide +kernel
theorem d_X0_chilling_56 : decode prog_2_method_20_code 56 = .ok (.iload_n 3, 1) := by decide +kernel
theorem d_X0_chilling_57 : decode prog_2_method_20_code 57 = .ok (.aload_n 0, 1) := by decide +kernel
theorem d_X0_chilling_58 : decode prog_2_method_20_code 58 = .ok (.getfield 15, 3) := by decide +kernel
theorem d_X0_chilling_61 : decode prog_2_method_20_code 61 = .ok (.iload_n 2, 1) := by decide +kernel
theorem d_X0_chilling_62 : decode prog_2_method_20_code 62 = .ok (.iaload, 1) := by decide +kernel
theorem d_X0_chilling_63 : decode prog_2_method_20_code 63 = .ok (.iadd, 1) := by decide +kernel
theorem d_X0_chilling_64 : decode prog_2_method_20_code 64 = .ok (.ireturn, 1) := by decide +kernel
theorem d_X0_chilling_65 : decode prog_2_method_20_code 65 = .ok (.iload_n 3, 1) := by decide +kernel
theorem d_X0_chilling_66 : decode prog_2_method_20_code 66 = .ok (.ireturn, 1) := by decide +kernel
def f_X0_chilling (κ : it_KK) (u : Nat) (x1 : Int32) (S : it_SS) : Option (Int32 × it_SS) :=
if it_bd x1 10 = true then
it_bi (f_X0_saying κ u 2 x1 S) (fun r3 S2 =>
if it_bd (S (u + 5) (x1 : Int32).toNatClampNeg) 6 = true then
if (S2 (u + 1) ((S (u + 5) (x1 : Int32).toNatClampNeg) : Int32).toNatClampNeg) = 1 then
some ((r3 / 2), S2)
else if (S2 (u + 1) ((S (u + 5) (x1 : Int32).toNatClampNeg) : Int32).toNatClampNeg) = 2 then
some (r3, S2)
else if (S2 (u + 1) ((S (u + 5) (x1 : Int32).toNatClampNeg) : Int32).toNatClampNeg) = 3 then
some ((r3 / 2), S2)
else if (S2 (u + 1) ((S (u + 5) (x1 : Int32).toNatClampNeg) : Int32).toNatClampNeg) = 4 then
some ((r3 + (S2 (u + 2) ((S (u + 5) (x1 : Int32).toNatClampNeg) : Int32).toNatClampNeg)), S2)
else 
some (r3, S2)
else none)
else none
set_option maxHeartbeats 4000000 in
set_option maxRecDepth 100000 in
theorem L_X0_chilling {g : it_G} {l : Launch} {κ : it_KK} {u : Nat} {x1 : Int32} (hb : it_wb κ) (hh : it_hs κ u) {S : it_SS} {P : Int32 → it_SS → Prop} (h : it_ok (f_X0_chilling κ u x1 S) P) : it_Cn g l 4 it_m_X0_chilling [.ref u, .int x1] κ S (it_pi κ P) := by
  refine it_Cn.of (by decide +kernel) (Nat.le_of_ble_eq_true rfl) ?_
  rw [f_X0_chilling] at h
  show it_Ev g l 4 it_m_X0_chilling 0 0 0 [some (.ref u), some (.int x1), none, none] [] κ S (it_pi κ P)
  refine ev_aload_n d_X0_chilling_0 rfl ?_
  refine ev_getRr (r := (u + 5)) rfl d_X0_chilling_1 fl_IcedTooSoon_House_24 (hh).1 rfl ?_
  refine ev_iload_n d_X0_chilling_4 rfl ?_
  obtain ⟨hb1, h⟩ := it_ok_g h
  refine ev_iald d_X0_chilling_5 (hh).2.2.2.2.2.1 (it_bd_in hb1) ?_
  refine ev_istore_n d_X0_chilling_6 (by decide) ?_
  show it_Ev g l 4 it_m_X0_chilling 0 0 7 [some (.ref u), some (.int x1), some (.int (S (u + 5) (x1 : Int32).toNatClampNeg)), none] [] κ S (it_pi κ P)
  refine ev_aload_n d_X0_chilling_7 rfl ?_
  refine ev_iconst d_X0_chilling_8 kv_iconst_2 ?_
  refine ev_iload_n d_X0_chilling_9 rfl ?_
  refine ev_callV (ci := 0) (b := u) (M' := it_m_X0_saying) (d' := 3) (As := [.int 2, .int x1]) d_X0_chilling_10 ml_IcedTooSoon_House_106 (hh).1.1 (hh).1.2.1 ⟨_, rfl, rfl⟩ rfl rfl (Nat.le_of_ble_eq_true rfl) (by decide) (by decide) (by decide) (L_X0_saying hb hh (it_ok_b h)) (fun _ _ _ _ q => by cases q.1; rfl) ?_
  rintro _ _ S2 ⟨rfl, r3, rfl, h⟩
  show it_Ev g l 4 it_m_X0_chilling 0 0 13 [some (.ref u), some (.int x1), some (.int (S (u + 5) (x1 : Int32).toNatClampNeg)), none] [.int r3] κ S2 (it_pi κ P)
  refine ev_istore_n d_X0_chilling_13 (by decide) ?_
  show it_Ev g l 4 it_m_X0_chilling 0 0 14 [some (.ref u), some (.int x1), some (.int (S (u + 5) (x1 : Int32).toNatClampNeg)), some (.int r3)] [] κ S2 (it_pi κ P)
  refine ev_aload_n d_X0_chilling_14 rfl ?_
  refine ev_getRr (r := (u + 1)) rfl d_X0_chilling_15 fl_IcedTooSoon_House_9 (hh).1 rfl ?_
  refine ev_iload_n d_X0_chilling_18 rfl ?_
  obtain ⟨hb4, h⟩ := it_ok_g h
  refine ev_iald d_X0_chilling_19 (hh).2.1 (it_bd_in hb4) ?_
  rcases Classical.em ((S2 (u + 1) ((S (u + 5) (x1 : Int32).toNatClampNeg) : Int32).toNatClampNeg) = 1) with hc5 | hc5
  · have h := it_ok_t h hc5
    refine ev_table (c1 := 1) (off := 32) (tgt := 52) hc5 d_X0_chilling_20 (by decide) (by decide) (by decide) (by decide) ?_
    refine ev_iload_n d_X0_chilling_52 rfl ?_
    refine ev_iconst d_X0_chilling_53 kv_iconst_2 ?_
    refine ev_idiv d_X0_chilling_54 (by decide) ?_
    exact ev_ret (v := some (.int _)) ⟨d_X0_chilling_55, _, rfl, rfl⟩ (by decide) (by decide) ⟨rfl, _, rfl, it_ok_r h⟩
  · have h := it_ok_f h hc5
    rcases Classical.em ((S2 (u + 1) ((S (u + 5) (x1 : Int32).toNatClampNeg) : Int32).toNatClampNeg) = 2) with hc6 | hc6
    · have h := it_ok_t h hc6
      refine ev_table (c1 := 2) (off := 45) (tgt := 65) hc6 d_X0_chilling_20 (by decide) (by decide) (by decide) (by decide) ?_
      refine ev_iload_n d_X0_chilling_65 rfl ?_
      exact ev_ret (v := some (.int _)) ⟨d_X0_chilling_66, _, rfl, rfl⟩ (by decide) (by decide) ⟨rfl, _, rfl, it_ok_r h⟩
    · have h := it_ok_f h hc6
      rcases Classical.em ((S2 (u + 1) ((S (u + 5) (x1 : Int32).toNatClampNeg) : Int32).toNatClampNeg) = 3) with hc7 | hc7
      · have h := it_ok_t h hc7
        refine ev_table (c1 := 3) (off := 32) (tgt := 52) hc7 d_X0_chilling_20 (by decide) (by decide) (by decide) (by decide) ?_
        refine ev_iload_n d_X0_chilling_52 rfl ?_
        refine ev_iconst d_X0_chilling_53 kv_iconst_2 ?_
        refine ev_idiv d_X0_chilling_54 (by decide) ?_
        exact ev_ret (v := some (.int _)) ⟨d_X0_chilling_55, _, rfl, rfl⟩ (by decide) (by decide) ⟨rfl, _, rfl, it_ok_r h⟩
      · have h := it_ok_f h hc7
        rcases Classical.em ((S2 (u + 1) ((S (u + 5) (x1 : Int32).toNatClampNeg) : Int32).toNatClampNeg) = 4) with hc8 | hc8
        · have h := it_ok_t h hc8
          refine ev_table (c1 := 4) (off := 36) (tgt := 56) hc8 d_X0_chilling_20 (by decide) (by decide) (by decide) (by decide) ?_
          refine ev_iload_n d_X0_chilling_56 rfl ?_
          refine ev_aload_n d_X0_chilling_57 rfl ?_
          refine ev_getRr (r := (u + 2)) rfl d_X0_chilling_58 fl_IcedTooSoon_House_15 (hh).1 rfl ?_
          refine ev_iload_n d_X0_chilling_61 rfl ?_
          refine ev_iald d_X0_chilling_62 (hh).2.2.1 (it_bd_in hb4) ?_
          refine ev_iadd d_X0_chilling_63 ?_
          exact ev_ret (v := some (.int _)) ⟨d_X0_chilling_64, _, rfl, rfl⟩ (by decide) (by decide) ⟨rfl, _, rfl, it_ok_r h⟩
        · have h := it_ok_f h hc8
          refine ev_tableOut (tgt := 65) d_X0_chilling_20 (it_sw (fun h1 h2 => ?_)) (by decide) ?_
          · rcases (by omega : ((S2 (u + 1) ((S (u + 5) (x1 : Int32).toNatClampNeg) : Int32).toNatClampNeg)).toInt = 1 ∨ ((S2 (u + 1) ((S (u + 5) (x1 : Int32).toNatClampNeg) : Int32).toNatClampNeg)).toInt = 2 ∨ ((S2 (u + 1) ((S (u + 5) (x1 : Int32).toNatClampNeg) : Int32).toNatClampNeg)).toInt = 3 ∨ ((S2 (u + 1) ((S (u + 5) (x1 : Int32).toNatClampNeg) : Int32).toNatClampNeg)).toInt = 4) with q | q | q | q
            · exact hc5 (Int32.toInt_inj.mp (q.trans (by decide)))
            · exact hc6 (Int32.toInt_inj.mp (q.trans (by decide)))
            · exact hc7 (Int32.toInt_inj.mp (q.trans (by decide)))
            · exact hc8 (Int32.toInt_inj.mp (q.trans (by decide)))
          · skip
            refine ev_iload_n d_X0_chilling_65 rfl ?_
            exact ev_ret (v := some (.int _)) ⟨d_X0_chilling_66, _, rfl, rfl⟩ (by decide) (by decide) ⟨rfl, _, rfl, it_ok_r h⟩
theorem d_X0_serve_0 : decode prog_2_method_13_code 0 = .ok (.iconst 0, 1) := by decide +kernel
theorem d_X0_serve_1 : decode prog_2_method_13_code 1 = .ok (.istore 4, 2) := by decide +kernel
theorem d_X0_serve_3 : decode prog_2_method_13_code 3 = .ok (.iload 4, 2) := by decide +kernel
theorem d_X0_serve_5 : decode prog_2_method_13_code 5 = .ok (.bipush 10, 2) := by decide +kernel
theorem d_X0_serve_7 : decode prog_2_method_13_code 7 = .ok (.if_icmp .ge 69, 3) := by decide +kernel
theorem d_X0_serve_10 : decode prog_2_method_13_code 10 = .ok (.aload_n 0, 1) := by decide +kernel
theorem d_X0_serve_11 : decode prog_2_method_13_code 11 = .ok (.iload 4, 2) := by decide +kernel
theorem d_X0_serve_13 : decode prog_2_method_13_code 13 = .ok (.invokevirtual 63, 3) := by decide +kernel
theorem d_X0_serve_16 : decode prog_2_method_13_code 16 = .ok (.ifCond .ne 54, 3) := by decide +kernel
theorem d_X0_serve_19 : decode prog_2_method_13_code 19 = .ok (.aload_n 0, 1) := by decide +kernel
theorem d_X0_serve_20 : decode prog_2_method_13_code 20 = .ok (.getfield 24, 3) := by decide +kernel
theorem d_X0_serve_23 : decode prog_2_method_13_code 23 = .ok (.iload 4, 2) := by decide +kernel
theorem d_X0_serve_25 : decode prog_2_method_13_code 25 = .ok (.iload_n 1, 1) := by decide +kernel
theorem d_X0_serve_26 : decode prog_2_method_13_code 26 = .ok (.iastore, 1) := by decide +kernel
theorem d_X0_serve_27 : decode prog_2_method_13_code 27 = .ok (.aload_n 0, 1) := by decide +kernel
theorem d_X0_serve_28 : decode prog_2_method_13_code 28 = .ok (.getfield 27, 3) := by decide +kernel
theorem d_X0_serve_31 : decode prog_2_method_13_code 31 = .ok (.iload 4, 2) := by decide +kernel
theorem d_X0_serve_33 : decode prog_2_method_13_code 33 = .ok (.iload_n 2, 1) := by decide +kernel
theorem d_X0_serve_34 : decode prog_2_method_13_code 34 = .ok (.iastore, 1) := by decide +kernel
theorem d_X0_serve_35 : decode prog_2_method_13_code 35 = .ok (.aload_n 0, 1) := by decide +kernel
theorem d_X0_serve_36 : decode prog_2_method_13_code 36 = .ok (.getfield 30, 3) := by decide +kernel
theorem d_X0_serve_39 : decode prog_2_method_13_code 39 = .ok (.iload 4, 2) := by decide +kernel
theorem d_X0_serve_41 : decode prog_2_method_13_code 41 = .ok (.iload_n 3, 1) := by decide +kernel
theorem d_X0_serve_42 : decode prog_2_method_13_code 42 = .ok (.iastore, 1) := by decide +kernel
theorem d_X0_serve_43 : decode prog_2_method_13_code 43 = .ok (.aload_n 0, 1) := by decide +kernel
theorem d_X0_serve_44 : decode prog_2_method_13_code 44 = .ok (.getfield 21, 3) := by decide +kernel
theorem d_X0_serve_47 : decode prog_2_method_13_code 47 = .ok (.iload_n 1, 1) := by decide +kernel
theorem d_X0_serve_48 : decode prog_2_method_13_code 48 = .ok (.bipush 99, 2) := by decide +kernel
theorem d_X0_serve_50 : decode prog_2_method_13_code 50 = .ok (.aload_n 0, 1) := by decide +kernel
theorem d_X0_serve_51 : decode prog_2_method_13_code 51 = .ok (.getfield 21, 3) := by decide +kernel
theorem d_X0_serve_54 : decode prog_2_method_13_code 54 = .ok (.iload_n 1, 1) := by decide +kernel
theorem d_X0_serve_55 : decode prog_2_method_13_code 55 = .ok (.iaload, 1) := by decide +kernel
theorem d_X0_serve_56 : decode prog_2_method_13_code 56 = .ok (.aload_n 0, 1) := by decide +kernel
theorem d_X0_serve_57 : decode prog_2_method_13_code 57 = .ok (.iload 4, 2) := by decide +kernel
theorem d_X0_serve_59 : decode prog_2_method_13_code 59 = .ok (.invokevirtual 70, 3) := by decide +kernel
theorem d_X0_serve_62 : decode prog_2_method_13_code 62 = .ok (.iadd, 1) := by decide +kernel
theorem d_X0_serve_63 : decode prog_2_method_13_code 63 = .ok (.invokestatic 74, 3) := by decide +kernel
theorem d_X0_serve_66 : decode prog_2_method_13_code 66 = .ok (.iastore, 1) := by decide +kernel
theorem d_X0_serve_67 : decode prog_2_method_13_code 67 = .ok (.iload 4, 2) := by decide +kernel
theorem d_X0_serve_69 : decode prog_2_method_13_code 69 = .ok (.ireturn, 1) := by decide +kernel
theorem d_X0_serve_70 : decode prog_2_method_13_code 70 = .ok (.iinc 4 1, 3) := by decide +kernel
theorem d_X0_serve_73 : decode prog_2_method_13_code 73 = .ok (.goto (-70), 3) := by decide +kernel
theorem d_X0_serve_76 : decode prog_2_method_13_code 76 = .ok (.bipush (-4), 2) := by decide +kernel
theorem d_X0_serve_78 : decode prog_2_method_13_code 78 = .ok (.ireturn, 1) := by decide +kernel
def lp_X0_serve_3 (κ : it_KK) (u : Nat) (x1 : Int32) (x2 : Int32) (x3 : Int32) (k3 : (it_SS → Option (Int32 × it_SS))) : Nat → Int32 → it_SS → Option (Int32 × it_SS)
  | 0, _, _ => none
  | n3 + 1, v4, S => if 10 ≤ v4 then
k3  S
else
it_bi (f_X0_hasGlass κ u v4 S) (fun r3 S2 =>
if r3 = 0 then
if it_bd v4 10 = true then
if it_bd x1 6 = true then
it_bi (f_X0_chilling κ u v4 (it_up (it_up (it_up S2 (u + 5) (v4 : Int32).toNatClampNeg x1) (u + 6) (v4 : Int32).toNatClampNeg x2) (u + 7) (v4 : Int32).toNatClampNeg x3)) (fun r8 S7 =>
some (v4, it_up S7 (u + 4) (x1 : Int32).toNatClampNeg (if (((it_up (it_up (it_up S2 (u + 5) (v4 : Int32).toNatClampNeg x1) (u + 6) (v4 : Int32).toNatClampNeg x2) (u + 7) (v4 : Int32).toNatClampNeg x3) (u + 4) (x1 : Int32).toNatClampNeg) + r8) < 99 then (((it_up (it_up (it_up S2 (u + 5) (v4 : Int32).toNatClampNeg x1) (u + 6) (v4 : Int32).toNatClampNeg x2) (u + 7) (v4 : Int32).toNatClampNeg x3) (u + 4) (x1 : Int32).toNatClampNeg) + r8) else 99)))
else none
else none
else
lp_X0_serve_3 κ u x1 x2 x3 k3 n3 (v4 + 1) S2)
def f_X0_serve (κ : it_KK) (u : Nat) (x1 : Int32) (x2 : Int32) (x3 : Int32) (S : it_SS) : Option (Int32 × it_SS) :=
lp_X0_serve_3 κ u x1 x2 x3 (fun  S9 =>
some ((-4), S9)) it_FU 0 S
set_option maxHeartbeats 4000000 in
set_option maxRecDepth 100000 in
theorem Llp_X0_serve_3 {g : it_G} {l : Launch} {κ : it_KK} {u : Nat} {x1 : Int32} {x2 : Int32} {x3 : Int32} (hb : it_wb κ) (hh : it_hs κ u) {P : Int32 → it_SS → Prop} {k3 : (it_SS → Option (Int32 × it_SS))} (hk3 : ∀  (S : it_SS), it_ok (k3  S) P → it_Ev g l 5 it_m_X0_serve 0 0 76 [none, none, none, none, none] [] κ S (it_pi κ P)) : ∀ (n : Nat) (v4 : Int32) (S : it_SS), it_ok (lp_X0_serve_3 κ u x1 x2 x3 k3 n v4 S) P → it_Ev g l 5 it_m_X0_serve 0 0 3 [some (.ref u), some (.int x1), some (.int x2), some (.int x3), some (.int v4)] [] κ S (it_pi κ P) := by
  intro n
  induction n with
  | zero =>
    intro _ _ h
    exact (it_ok_n h).elim
  | succ n3 ih3 =>
    intro v4 S h
    rw [lp_X0_serve_3] at h
    refine ev_iload d_X0_serve_3 rfl ?_
    refine ev_bipush d_X0_serve_5 kv_bipush_10 ?_
    refine ev_icmp_ge (tgt := 76) d_X0_serve_7 (by decide) (fun hc1 => ?_) (fun hc1 => ?_)
    · have h := it_ok_t h hc1
      refine ev_keep [false, false, false, false, false] ?_
      exact hk3  _ h
    · have h := it_ok_f h hc1
      refine ev_aload_n d_X0_serve_10 rfl ?_
      refine ev_iload d_X0_serve_11 rfl ?_
      refine ev_callV (ci := 0) (b := u) (M' := it_m_X0_hasGlass) (d' := 2) (As := [.int v4]) d_X0_serve_13 ml_IcedTooSoon_House_63 (hh).1.1 (hh).1.2.1 ⟨_, rfl, rfl⟩ rfl rfl (Nat.le_of_ble_eq_true rfl) (by decide) (by decide) (by decide) (L_X0_hasGlass hb hh (it_ok_b h)) (fun _ _ _ _ q => by cases q.1; rfl) ?_
      rintro _ _ S2 ⟨rfl, r3, rfl, h⟩
      show it_Ev g l 5 it_m_X0_serve 0 0 16 [some (.ref u), some (.int x1), some (.int x2), some (.int x3), some (.int v4)] [.int r3] κ S2 (it_pi κ P)
      refine ev_if_ne (tgt := 70) d_X0_serve_16 (by decide) (fun hc4 => ?_) (fun hc4 => ?_)
      · have h := it_ok_f h hc4
        refine ev_iinc d_X0_serve_70 kv_iconst_1 rfl (by decide) ?_
        show it_Ev g l 5 it_m_X0_serve 0 0 73 [some (.ref u), some (.int x1), some (.int x2), some (.int x3), some (.int (v4 + 1))] [] κ S2 (it_pi κ P)
        refine ev_goto (tgt := 3) d_X0_serve_73 (by decide) ?_
        refine ev_keep [true, true, true, true, true] ?_
        exact ih3 _ _ h
      · have h := it_ok_t h hc4
        refine ev_aload_n d_X0_serve_19 rfl ?_
        refine ev_getRr (r := (u + 5)) rfl d_X0_serve_20 fl_IcedTooSoon_House_24 (hh).1 rfl ?_
        refine ev_iload d_X0_serve_23 rfl ?_
        refine ev_iload_n d_X0_serve_25 rfl ?_
        obtain ⟨hb5, h⟩ := it_ok_g h
        refine ev_iast d_X0_serve_26 (by decide) (hh).2.2.2.2.2.1 (it_bd_in hb5) ?_
        refine ev_aload_n d_X0_serve_27 rfl ?_
        refine ev_getRr (r := (u + 6)) rfl d_X0_serve_28 fl_IcedTooSoon_House_27 (hh).1 rfl ?_
        refine ev_iload d_X0_serve_31 rfl ?_
        refine ev_iload_n d_X0_serve_33 rfl ?_
        refine ev_iast d_X0_serve_34 (by decide) (hh).2.2.2.2.2.2.1 (it_bd_in hb5) ?_
        refine ev_aload_n d_X0_serve_35 rfl ?_
        refine ev_getRr (r := (u + 7)) rfl d_X0_serve_36 fl_IcedTooSoon_House_30 (hh).1 rfl ?_
        refine ev_iload d_X0_serve_39 rfl ?_
        refine ev_iload_n d_X0_serve_41 rfl ?_
        refine ev_iast d_X0_serve_42 (by decide) (hh).2.2.2.2.2.2.2 (it_bd_in hb5) ?_
        refine ev_aload_n d_X0_serve_43 rfl ?_
        refine ev_getRr (r := (u + 4)) rfl d_X0_serve_44 fl_IcedTooSoon_House_21 (hh).1 rfl ?_
        refine ev_iload_n d_X0_serve_47 rfl ?_
        refine ev_bipush d_X0_serve_48 kv_bipush_99 ?_
        refine ev_aload_n d_X0_serve_50 rfl ?_
        refine ev_getRr (r := (u + 4)) rfl d_X0_serve_51 fl_IcedTooSoon_House_21 (hh).1 rfl ?_
        refine ev_iload_n d_X0_serve_54 rfl ?_
        obtain ⟨hb6, h⟩ := it_ok_g h
        refine ev_iald d_X0_serve_55 (hh).2.2.2.2.1 (it_bd_in hb6) ?_
        refine ev_aload_n d_X0_serve_56 rfl ?_
        refine ev_iload d_X0_serve_57 rfl ?_
        refine ev_callV (ci := 0) (b := u) (M' := it_m_X0_chilling) (d' := 4) (As := [.int v4]) d_X0_serve_59 ml_IcedTooSoon_House_70 (hh).1.1 (hh).1.2.1 ⟨_, rfl, rfl⟩ rfl rfl (Nat.le_of_ble_eq_true rfl) (by decide) (by decide) (by decide) (L_X0_chilling hb hh (it_ok_b h)) (fun _ _ _ _ q => by cases q.1; rfl) ?_
        rintro _ _ S7 ⟨rfl, r8, rfl, h⟩
        show it_Ev g l 5 it_m_X0_serve 0 0 62 [some (.ref u), some (.int x1), some (.int x2), some (.int x3), some (.int v4)] [.int r8, .int ((it_up (it_up (it_up S2 (u + 5) (v4 : Int32).toNatClampNeg x1) (u + 6) (v4 : Int32).toNatClampNeg x2) (u + 7) (v4 : Int32).toNatClampNeg x3) (u + 4) (x1 : Int32).toNatClampNeg), .int 99, .int x1, .ref (u + 4)] κ S7 (it_pi κ P)
        refine ev_iadd d_X0_serve_62 ?_
        refine ev_mmin d_X0_serve_63 mp_IcedTooSoon_House_74 (by decide) (Nat.le_of_ble_eq_true rfl) (by decide) (by decide) ?_
        refine ev_iast d_X0_serve_66 (by decide) (hh).2.2.2.2.1 (it_bd_in hb6) ?_
        refine ev_iload d_X0_serve_67 rfl ?_
        exact ev_ret (v := some (.int _)) ⟨d_X0_serve_69, _, rfl, rfl⟩ (by decide) (by decide) ⟨rfl, _, rfl, it_ok_r h⟩
set_option maxHeartbeats 4000000 in
set_option maxRecDepth 100000 in
theorem L_X0_serve {g : it_G} {l : Launch} {κ : it_KK} {u : Nat} {x1 : Int32} {x2 : Int32} {x3 : Int32} (hb : it_wb κ) (hh : it_hs κ u) {S : it_SS} {P : Int32 → it_SS → Prop} (h : it_ok (f_X0_serve κ u x1 x2 x3 S) P) : it_Cn g l 5 it_m_X0_serve [.ref u, .int x1, .int x2, .int x3] κ S (it_pi κ P) := by
  refine it_Cn.of (by decide +kernel) (Nat.le_of_ble_eq_true rfl) ?_
  rw [f_X0_serve] at h
  show it_Ev g l 5 it_m_X0_serve 0 0 0 [some (.ref u), some (.int x1), some (.int x2), some (.int x3), none] [] κ S (it_pi κ P)
  refine ev_iconst d_X0_serve_0 kv_iconst_0 ?_
  refine ev_istore d_X0_serve_1 (by decide) ?_
  show it_Ev g l 5 it_m_X0_serve 0 0 3 [some (.ref u), some (.int x1), some (.int x2), some (.int x3), some (.int 0)] [] κ S (it_pi κ P)
  refine ev_keep [true, true, true, true, true] ?_
  refine Llp_X0_serve_3 hb hh (fun  S9 h => ?_) _ _ _ h
  show it_Ev g l 5 it_m_X0_serve 0 0 76 [none, none, none, none, none] [] κ S9 (it_pi κ P)
  refine ev_bipush d_X0_serve_76 kv_bipush_m4 ?_
  exact ev_ret (v := some (.int _)) ⟨d_X0_serve_78, _, rfl, rfl⟩ (by decide) (by decide) ⟨rfl, _, rfl, it_ok_r h⟩
theorem d_X0_passDay_0 : decode prog_2_method_16_code 0 = .ok (.iconst 0, 1) := by decide +kernel
theorem d_X0_passDay_1 : decode prog_2_method_16_code 1 = .ok (.istore_n 1, 1) := by decide +kernel
theorem d_X0_passDay_2 : decode prog_2_method_16_code 2 = .ok (.iconst 0, 1) := by decide +kernel
theorem d_X0_passDay_3 : decode prog_2_method_16_code 3 = .ok (.istore_n 2, 1) := by decide +kernel
theorem d_X0_passDay_4 : decode prog_2_method_16_code 4 = .ok (.iload_n 2, 1) := by decide +kernel
theorem d_X0_passDay_5 : decode prog_2_method_16_code 5 = .ok (.bipush 10, 2) := by decide +kernel
theorem d_X0_passDay_7 : decode prog_2_method_16_code 7 = .ok (.if_icmp .ge 91, 3) := by decide +kernel
theorem d_X0_passDay_10 : decode prog_2_method_16_code 10 = .ok (.aload_n 0, 1) := by decide +kernel
theorem d_X0_passDay_11 : decode prog_2_method_16_code 11 = .ok (.iload_n 2, 1) := by decide +kernel
theorem d_X0_passDay_12 : decode prog_2_method_16_code 12 = .ok (.invokevirtual 63, 3) := by decide +kernel
theorem d_X0_passDay_15 : decode prog_2_method_16_code 15 = .ok (.ifCond .eq 77, 3) := by decide +kernel
theorem d_X0_passDay_18 : decode prog_2_method_16_code 18 = .ok (.aload_n 0, 1) := by decide +kernel
theorem d_X0_passDay_19 : decode prog_2_method_16_code 19 = .ok (.getfield 30, 3) := by decide +kernel
theorem d_X0_passDay_22 : decode prog_2_method_16_code 22 = .ok (.iload_n 2, 1) := by decide +kernel
theorem d_X0_passDay_23 : decode prog_2_method_16_code 23 = .ok (.iconst 0, 1) := by decide +kernel
theorem d_X0_passDay_24 : decode prog_2_method_16_code 24 = .ok (.aload_n 0, 1) := by decide +kernel
theorem d_X0_passDay_25 : decode prog_2_method_16_code 25 = .ok (.getfield 30, 3) := by decide +kernel
theorem d_X0_passDay_28 : decode prog_2_method_16_code 28 = .ok (.iload_n 2, 1) := by decide +kernel
theorem d_X0_passDay_29 : decode prog_2_method_16_code 29 = .ok (.iaload, 1) := by decide +kernel
theorem d_X0_passDay_30 : decode prog_2_method_16_code 30 = .ok (.aload_n 0, 1) := by decide +kernel
theorem d_X0_passDay_31 : decode prog_2_method_16_code 31 = .ok (.iload_n 2, 1) := by decide +kernel
theorem d_X0_passDay_32 : decode prog_2_method_16_code 32 = .ok (.invokevirtual 80, 3) := by decide +kernel
theorem d_X0_passDay_35 : decode prog_2_method_16_code 35 = .ok (.isub, 1) := by decide +kernel
theorem d_X0_passDay_36 : decode prog_2_method_16_code 36 = .ok (.invokestatic 83, 3) := by decide +kernel
theorem d_X0_passDay_39 : decode prog_2_method_16_code 39 = .ok (.iastore, 1) := by decide +kernel
theorem d_X0_passDay_40 : decode prog_2_method_16_code 40 = .ok (.aload_n 0, 1) := by decide +kernel
theorem d_X0_passDay_41 : decode prog_2_method_16_code 41 = .ok (.getfield 30, 3) := by decide +kernel
theorem d_X0_passDay_44 : decode prog_2_method_16_code 44 = .ok (.iload_n 2, 1) := by decide +kernel
theorem d_X0_passDay_45 : decode prog_2_method_16_code 45 = .ok (.iaload, 1) := by decide +kernel
theorem d_X0_passDay_46 : decode prog_2_method_16_code 46 = .ok (.ifCond .ne 46, 3) := by decide +kernel
theorem d_X0_passDay_49 : decode prog_2_method_16_code 49 = .ok (.aload_n 0, 1) := by decide +kernel
theorem d_X0_passDay_50 : decode prog_2_method_16_code 50 = .ok (.getfield 24, 3) := by decide +kernel
theorem d_X0_passDay_53 : decode prog_2_method_16_code 53 = .ok (.iload_n 2, 1) := by decide +kernel
theorem d_X0_passDay_54 : decode prog_2_method_16_code 54 = .ok (.iaload, 1) := by decide +kernel
theorem d_X0_passDay_55 : decode prog_2_method_16_code 55 = .ok (.istore_n 3, 1) := by decide +kernel
theorem d_X0_passDay_56 : decode prog_2_method_16_code 56 = .ok (.aload_n 0, 1) := by decide +kernel
theorem d_X0_passDay_57 : decode prog_2_method_16_code 57 = .ok (.getfield 18, 3) := by decide +kernel
theorem d_X0_passDay_60 : decode prog_2_method_16_code 60 = .ok (.iload_n 3, 1) := by decide +kernel
theorem d_X0_passDay_61 : decode prog_2_method_16_code 61 = .ok (.aload_n 0, 1) := by decide +kernel
theorem d_X0_passDay_62 : decode prog_2_method_16_code 62 = .ok (.getfield 18, 3) := by decide +kernel
theorem d_X0_passDay_65 : decode prog_2_method_16_code 65 = .ok (.iload_n 3, 1) := by decide +kernel
theorem d_X0_passDay_66 : decode prog_2_method_16_code 66 = .ok (.iaload, 1) := by decide +kernel
theorem d_X0_passDay_67 : decode prog_2_method_16_code 67 = .ok (.aload_n 0, 1) := by decide +kernel
theorem d_X0_passDay_68 : decode prog_2_method_16_code 68 = .ok (.iload_n 2, 1) := by decide +kernel
theorem d_X0_passDay_69 : decode prog_2_method_16_code 69 = .ok (.invokevirtual 86, 3) := by decide +kernel
theorem d_X0_passDay_72 : decode prog_2_method_16_code 72 = .ok (.iadd, 1) := by decide +kernel
theorem d_X0_passDay_73 : decode prog_2_method_16_code 73 = .ok (.bipush (-99), 2) := by decide +kernel
theorem d_X0_passDay_75 : decode prog_2_method_16_code 75 = .ok (.bipush 99, 2) := by decide +kernel
theorem d_X0_passDay_77 : decode prog_2_method_16_code 77 = .ok (.invokestatic 89, 3) := by decide +kernel
theorem d_X0_passDay_80 : decode prog_2_method_16_code 80 = .ok (.iastore, 1) := by decide +kernel
theorem d_X0_passDay_81 : decode prog_2_method_16_code 81 = .ok (.aload_n 0, 1) := by decide +kernel
theorem d_X0_passDay_82 : decode prog_2_method_16_code 82 = .ok (.iload_n 2, 1) := by decide +kernel
theorem d_X0_passDay_83 : decode prog_2_method_16_code 83 = .ok (.invokevirtual 93, 3) := by decide +kernel
theorem d_X0_passDay_86 : decode prog_2_method_16_code 86 = .ok (.iload_n 1, 1) := by decide +kernel
theorem d_X0_passDay_87 : decode prog_2_method_16_code 87 = .ok (.iconst 1, 1) := by decide +kernel
theorem d_X0_passDay_88 : decode prog_2_method_16_code 88 = .ok (.iload_n 2, 1) := by decide +kernel
theorem d_X0_passDay_89 : decode prog_2_method_16_code 89 = .ok (.ishl, 1) := by decide +kernel
theorem d_X0_passDay_90 : decode prog_2_method_16_code 90 = .ok (.ior, 1) := by decide +kernel
theorem d_X0_passDay_91 : decode prog_2_method_16_code 91 = .ok (.istore_n 1, 1) := by decide +kernel
theorem d_X0_passDay_92 : decode prog_2_method_16_code 92 = .ok (.iinc 2 1, 3) := by decide +kernel
theorem d_X0_passDay_95 : decode prog_2_method_16_code 95 = .ok (.goto (-91), 3) := by decide +kernel
theorem d_X0_passDay_98 : decode prog_2_method_16_code 98 = .ok (.iconst 0, 1) := by decide +kernel
theorem d_X0_passDay_99 : decode prog_2_method_16_code 99 = .ok (.istore_n 2, 1) := by decide +kernel
theorem d_X0_passDay_100 : decode prog_2_method_16_code 100 = .ok (.iload_n 2, 1) := by decide +kernel
theorem d_X0_passDay_101 : decode prog_2_method_16_code 101 = .ok (.aload_n 0, 1) := by decide +kernel
theorem d_X0_passDay_102 : decode prog_2_method_16_code 102 = .ok (.getfield 43, 3) := by decide +kernel
theorem d_X0_passDay_105 : decode prog_2_method_16_code 105 = .ok (.if_icmp .ge 27, 3) := by decide +kernel
theorem d_X0_passDay_108 : decode prog_2_method_16_code 108 = .ok (.aload_n 0, 1) := by decide +kernel
theorem d_X0_passDay_109 : decode prog_2_method_16_code 109 = .ok (.getfield 21, 3) := by decide +kernel
theorem d_X0_passDay_112 : decode prog_2_method_16_code 112 = .ok (.iload_n 2, 1) := by decide +kernel
theorem d_X0_passDay_113 : decode prog_2_method_16_code 113 = .ok (.iconst 0, 1) := by decide +kernel
theorem d_X0_passDay_114 : decode prog_2_method_16_code 114 = .ok (.aload_n 0, 1) := by decide +kernel
theorem d_X0_passDay_115 : decode prog_2_method_16_code 115 = .ok (.getfield 21, 3) := by decide +kernel
theorem d_X0_passDay_118 : decode prog_2_method_16_code 118 = .ok (.iload_n 2, 1) := by decide +kernel
theorem d_X0_passDay_119 : decode prog_2_method_16_code 119 = .ok (.iaload, 1) := by decide +kernel
theorem d_X0_passDay_120 : decode prog_2_method_16_code 120 = .ok (.iconst 2, 1) := by decide +kernel
theorem d_X0_passDay_121 : decode prog_2_method_16_code 121 = .ok (.isub, 1) := by decide +kernel
theorem d_X0_passDay_122 : decode prog_2_method_16_code 122 = .ok (.invokestatic 83, 3) := by decide +kernel
theorem d_X0_passDay_125 : decode prog_2_method_16_code 125 = .ok (.iastore, 1) := by decide +kernel
theorem d_X0_passDay_126 : decode prog_2_method_16_code 126 = .ok (.iinc 2 1, 3) := by decide +kernel
theorem d_X0_passDay_129 : decode prog_2_method_16_code 129 = .ok (.goto (-29), 3) := by decide +kernel
theorem d_X0_passDay_132 : decode prog_2_method_16_code 132 = .ok (.aload_n 0, 1) := by decide +kernel
theorem d_X0_passDay_133 : decode prog_2_method_16_code 133 = .ok (.dup, 1) := by decide +kernel
theorem d_X0_passDay_134 : decode prog_2_method_16_code 134 = .ok (.getfield 53, 3) := by decide +kernel
theorem d_X0_passDay_137 : decode prog_2_method_16_code 137 = .ok (.iconst 1, 1) := by decide +kernel
theorem d_X0_passDay_138 : decode prog_2_method_16_code 138 = .ok (.iadd, 1) := by decide +kernel
theorem d_X0_passDay_139 : decode prog_2_method_16_code 139 = .ok (.putfield 53, 3) := by decide +kernel
theorem d_X0_passDay_142 : decode prog_2_method_16_code 142 = .ok (.iload_n 1, 1) := by decide +kernel
theorem d_X0_passDay_143 : decode prog_2_method_16_code 143 = .ok (.ireturn, 1) := by decide +kernel
def lp_X0_passDay_4 (κ : it_KK) (u : Nat) (k4 : (Int32 → it_SS → Option (Int32 × it_SS))) : Nat → Int32 → Int32 → it_SS → Option (Int32 × it_SS)
  | 0, _, _, _ => none
  | n4 + 1, v1, v2, S => if 10 ≤ v2 then
k4 v1 S
else
it_bi (f_X0_hasGlass κ u v2 S) (fun r3 S2 =>
if r3 = 0 then
lp_X0_passDay_4 κ u k4 n4 v1 (v2 + 1) S2
else
if it_bd v2 10 = true then
it_bi (f_X0_melting κ u v2 S2) (fun r7 S6 =>
if ((it_up S6 (u + 7) (v2 : Int32).toNatClampNeg (if 0 < ((S2 (u + 7) (v2 : Int32).toNatClampNeg) - r7) then ((S2 (u + 7) (v2 : Int32).toNatClampNeg) - r7) else 0)) (u + 7) (v2 : Int32).toNatClampNeg) = 0 then
if it_bd ((it_up S6 (u + 7) (v2 : Int32).toNatClampNeg (if 0 < ((S2 (u + 7) (v2 : Int32).toNatClampNeg) - r7) then ((S2 (u + 7) (v2 : Int32).toNatClampNeg) - r7) else 0)) (u + 5) (v2 : Int32).toNatClampNeg) 6 = true then
it_bi (f_X0_feeling κ u v2 (it_up S6 (u + 7) (v2 : Int32).toNatClampNeg (if 0 < ((S2 (u + 7) (v2 : Int32).toNatClampNeg) - r7) then ((S2 (u + 7) (v2 : Int32).toNatClampNeg) - r7) else 0))) (fun r11 S10 =>
it_bi (f_X5_bounded κ (((it_up S6 (u + 7) (v2 : Int32).toNatClampNeg (if 0 < ((S2 (u + 7) (v2 : Int32).toNatClampNeg) - r7) then ((S2 (u + 7) (v2 : Int32).toNatClampNeg) - r7) else 0)) (u + 3) (((it_up S6 (u + 7) (v2 : Int32).toNatClampNeg (if 0 < ((S2 (u + 7) (v2 : Int32).toNatClampNeg) - r7) then ((S2 (u + 7) (v2 : Int32).toNatClampNeg) - r7) else 0)) (u + 5) (v2 : Int32).toNatClampNeg) : Int32).toNatClampNeg) + r11) (-99) 99 S10) (fun r13 S12 =>
it_bi (f_X0_take κ u v2 (it_up S12 (u + 3) (((it_up S6 (u + 7) (v2 : Int32).toNatClampNeg (if 0 < ((S2 (u + 7) (v2 : Int32).toNatClampNeg) - r7) then ((S2 (u + 7) (v2 : Int32).toNatClampNeg) - r7) else 0)) (u + 5) (v2 : Int32).toNatClampNeg) : Int32).toNatClampNeg r13)) (fun _ S14 =>
lp_X0_passDay_4 κ u k4 n4 (v1 ||| (1 <<< (v2 &&& 31))) (v2 + 1) S14)))
else none
else
lp_X0_passDay_4 κ u k4 n4 v1 (v2 + 1) (it_up S6 (u + 7) (v2 : Int32).toNatClampNeg (if 0 < ((S2 (u + 7) (v2 : Int32).toNatClampNeg) - r7) then ((S2 (u + 7) (v2 : Int32).toNatClampNeg) - r7) else 0)))
else none)
def lp_X0_passDay_100 (κ : it_KK) (u : Nat) (k100 : (Int32 → it_SS → Option (Int32 × it_SS))) : Nat → Int32 → Int32 → it_SS → Option (Int32 × it_SS)
  | 0, _, _, _ => none
  | n100 + 1, v1, v2, S => if (S u 1) ≤ v2 then
k100 v1 S
else
if it_bd v2 6 = true then
lp_X0_passDay_100 κ u k100 n100 v1 (v2 + 1) (it_up S (u + 4) (v2 : Int32).toNatClampNeg (if 0 < ((S (u + 4) (v2 : Int32).toNatClampNeg) - 2) then ((S (u + 4) (v2 : Int32).toNatClampNeg) - 2) else 0))
else none
def f_X0_passDay (κ : it_KK) (u : Nat) (S : it_SS) : Option (Int32 × it_SS) :=
lp_X0_passDay_4 κ u (fun v16 S17 =>
lp_X0_passDay_100 κ u (fun v20 S21 =>
some (v20, it_up S21 u 9 ((S21 u 9) + 1))) it_FU v16 0 S17) it_FU 0 0 S
set_option maxHeartbeats 4000000 in
set_option maxRecDepth 100000 in
theorem Llp_X0_passDay_4 {g : it_G} {l : Launch} {κ : it_KK} {u : Nat} (hb : it_wb κ) (hh : it_hs κ u) {P : Int32 → it_SS → Prop} {k4 : (Int32 → it_SS → Option (Int32 × it_SS))} (hk4 : ∀ (v1 : Int32) (S : it_SS), it_ok (k4 v1 S) P → it_Ev g l 5 it_m_X0_passDay 0 0 98 [some (.ref u), some (.int v1), none, none] [] κ S (it_pi κ P)) : ∀ (n : Nat) (v1 : Int32) (v2 : Int32) (S : it_SS), it_ok (lp_X0_passDay_4 κ u k4 n v1 v2 S) P → it_Ev g l 5 it_m_X0_passDay 0 0 4 [some (.ref u), some (.int v1), some (.int v2), none] [] κ S (it_pi κ P) := by
  intro n
  induction n with
  | zero =>
    intro _ _ _ h
    exact (it_ok_n h).elim
  | succ n4 ih4 =>
    intro v1 v2 S h
    rw [lp_X0_passDay_4] at h
    refine ev_iload_n d_X0_passDay_4 rfl ?_
    refine ev_bipush d_X0_passDay_5 kv_bipush_10 ?_
    refine ev_icmp_ge (tgt := 98) d_X0_passDay_7 (by decide) (fun hc1 => ?_) (fun hc1 => ?_)
    · have h := it_ok_t h hc1
      refine ev_keep [true, true, false, false] ?_
      exact hk4 _ _ h
    · have h := it_ok_f h hc1
      refine ev_aload_n d_X0_passDay_10 rfl ?_
      refine ev_iload_n d_X0_passDay_11 rfl ?_
      refine ev_callV (ci := 0) (b := u) (M' := it_m_X0_hasGlass) (d' := 2) (As := [.int v2]) d_X0_passDay_12 ml_IcedTooSoon_House_63 (hh).1.1 (hh).1.2.1 ⟨_, rfl, rfl⟩ rfl rfl (Nat.le_of_ble_eq_true rfl) (by decide) (by decide) (by decide) (L_X0_hasGlass hb hh (it_ok_b h)) (fun _ _ _ _ q => by cases q.1; rfl) ?_
      rintro _ _ S2 ⟨rfl, r3, rfl, h⟩
      show it_Ev g l 5 it_m_X0_passDay 0 0 15 [some (.ref u), some (.int v1), some (.int v2), none] [.int r3] κ S2 (it_pi κ P)
      refine ev_if_eq (tgt := 92) d_X0_passDay_15 (by decide) (fun hc4 => ?_) (fun hc4 => ?_)
      · have h := it_ok_t h hc4
        refine ev_iinc d_X0_passDay_92 kv_iconst_1 rfl (by decide) ?_
        show it_Ev g l 5 it_m_X0_passDay 0 0 95 [some (.ref u), some (.int v1), some (.int (v2 + 1)), none] [] κ S2 (it_pi κ P)
        refine ev_goto (tgt := 4) d_X0_passDay_95 (by decide) ?_
        refine ev_keep [true, true, true, false] ?_
        exact ih4 _ _ _ h
      · have h := it_ok_f h hc4
        refine ev_aload_n d_X0_passDay_18 rfl ?_
        refine ev_getRr (r := (u + 7)) rfl d_X0_passDay_19 fl_IcedTooSoon_House_30 (hh).1 rfl ?_
        refine ev_iload_n d_X0_passDay_22 rfl ?_
        refine ev_iconst d_X0_passDay_23 kv_iconst_0 ?_
        refine ev_aload_n d_X0_passDay_24 rfl ?_
        refine ev_getRr (r := (u + 7)) rfl d_X0_passDay_25 fl_IcedTooSoon_House_30 (hh).1 rfl ?_
        refine ev_iload_n d_X0_passDay_28 rfl ?_
        obtain ⟨hb5, h⟩ := it_ok_g h
        refine ev_iald d_X0_passDay_29 (hh).2.2.2.2.2.2.2 (it_bd_in hb5) ?_
        refine ev_aload_n d_X0_passDay_30 rfl ?_
        refine ev_iload_n d_X0_passDay_31 rfl ?_
        refine ev_callV (ci := 0) (b := u) (M' := it_m_X0_melting) (d' := 4) (As := [.int v2]) d_X0_passDay_32 ml_IcedTooSoon_House_80 (hh).1.1 (hh).1.2.1 ⟨_, rfl, rfl⟩ rfl rfl (Nat.le_of_ble_eq_true rfl) (by decide) (by decide) (by decide) (L_X0_melting hb hh (it_ok_b h)) (fun _ _ _ _ q => by cases q.1; rfl) ?_
        rintro _ _ S6 ⟨rfl, r7, rfl, h⟩
        show it_Ev g l 5 it_m_X0_passDay 0 0 35 [some (.ref u), some (.int v1), some (.int v2), none] [.int r7, .int (S2 (u + 7) (v2 : Int32).toNatClampNeg), .int 0, .int v2, .ref (u + 7)] κ S6 (it_pi κ P)
        refine ev_isub d_X0_passDay_35 ?_
        refine ev_mmax d_X0_passDay_36 mp_IcedTooSoon_House_83 (by decide) (Nat.le_of_ble_eq_true rfl) (by decide) (by decide) ?_
        refine ev_iast d_X0_passDay_39 (by decide) (hh).2.2.2.2.2.2.2 (it_bd_in hb5) ?_
        refine ev_aload_n d_X0_passDay_40 rfl ?_
        refine ev_getRr (r := (u + 7)) rfl d_X0_passDay_41 fl_IcedTooSoon_House_30 (hh).1 rfl ?_
        refine ev_iload_n d_X0_passDay_44 rfl ?_
        refine ev_iald d_X0_passDay_45 (hh).2.2.2.2.2.2.2 (it_bd_in hb5) ?_
        refine ev_if_ne (tgt := 92) d_X0_passDay_46 (by decide) (fun hc8 => ?_) (fun hc8 => ?_)
        · have h := it_ok_f h hc8
          refine ev_iinc d_X0_passDay_92 kv_iconst_1 rfl (by decide) ?_
          show it_Ev g l 5 it_m_X0_passDay 0 0 95 [some (.ref u), some (.int v1), some (.int (v2 + 1)), none] [] κ (it_up S6 (u + 7) (v2 : Int32).toNatClampNeg (if 0 < ((S2 (u + 7) (v2 : Int32).toNatClampNeg) - r7) then ((S2 (u + 7) (v2 : Int32).toNatClampNeg) - r7) else 0)) (it_pi κ P)
          refine ev_goto (tgt := 4) d_X0_passDay_95 (by decide) ?_
          refine ev_keep [true, true, true, false] ?_
          exact ih4 _ _ _ h
        · have h := it_ok_t h hc8
          refine ev_aload_n d_X0_passDay_49 rfl ?_
          refine ev_getRr (r := (u + 5)) rfl d_X0_passDay_50 fl_IcedTooSoon_House_24 (hh).1 rfl ?_
          refine ev_iload_n d_X0_passDay_53 rfl ?_
          refine ev_iald d_X0_passDay_54 (hh).2.2.2.2.2.1 (it_bd_in hb5) ?_
          refine ev_istore_n d_X0_passDay_55 (by decide) ?_
          show it_Ev g l 5 it_m_X0_passDay 0 0 56 [some (.ref u), some (.int v1), some (.int v2), some (.int ((it_up S6 (u + 7) (v2 : Int32).toNatClampNeg (if 0 < ((S2 (u + 7) (v2 : Int32).toNatClampNeg) - r7) then ((S2 (u + 7) (v2 : Int32).toNatClampNeg) - r7) else 0)) (u + 5) (v2 : Int32).toNatClampNeg))] [] κ (it_up S6 (u + 7) (v2 : Int32).toNatClampNeg (if 0 < ((S2 (u + 7) (v2 : Int32).toNatClampNeg) - r7) then ((S2 (u + 7) (v2 : Int32).toNatClampNeg) - r7) else 0)) (it_pi κ P)
          refine ev_aload_n d_X0_passDay_56 rfl ?_
          refine ev_getRr (r := (u + 3)) rfl d_X0_passDay_57 fl_IcedTooSoon_House_18 (hh).1 rfl ?_
          refine ev_iload_n d_X0_passDay_60 rfl ?_
          refine ev_aload_n d_X0_passDay_61 rfl ?_
          refine ev_getRr (r := (u + 3)) rfl d_X0_passDay_62 fl_IcedTooSoon_House_18 (hh).1 rfl ?_
          refine ev_iload_n d_X0_passDay_65 rfl ?_
          obtain ⟨hb9, h⟩ := it_ok_g h
          refine ev_iald d_X0_passDay_66 (hh).2.2.2.1 (it_bd_in hb9) ?_
          refine ev_aload_n d_X0_passDay_67 rfl ?_
          refine ev_iload_n d_X0_passDay_68 rfl ?_
          refine ev_callV (ci := 0) (b := u) (M' := it_m_X0_feeling) (d' := 4) (As := [.int v2]) d_X0_passDay_69 ml_IcedTooSoon_House_86 (hh).1.1 (hh).1.2.1 ⟨_, rfl, rfl⟩ rfl rfl (Nat.le_of_ble_eq_true rfl) (by decide) (by decide) (by decide) (L_X0_feeling hb hh (it_ok_b h)) (fun _ _ _ _ q => by cases q.1; rfl) ?_
          rintro _ _ S10 ⟨rfl, r11, rfl, h⟩
          show it_Ev g l 5 it_m_X0_passDay 0 0 72 [some (.ref u), some (.int v1), some (.int v2), some (.int ((it_up S6 (u + 7) (v2 : Int32).toNatClampNeg (if 0 < ((S2 (u + 7) (v2 : Int32).toNatClampNeg) - r7) then ((S2 (u + 7) (v2 : Int32).toNatClampNeg) - r7) else 0)) (u + 5) (v2 : Int32).toNatClampNeg))] [.int r11, .int ((it_up S6 (u + 7) (v2 : Int32).toNatClampNeg (if 0 < ((S2 (u + 7) (v2 : Int32).toNatClampNeg) - r7) then ((S2 (u + 7) (v2 : Int32).toNatClampNeg) - r7) else 0)) (u + 3) (((it_up S6 (u + 7) (v2 : Int32).toNatClampNeg (if 0 < ((S2 (u + 7) (v2 : Int32).toNatClampNeg) - r7) then ((S2 (u + 7) (v2 : Int32).toNatClampNeg) - r7) else 0)) (u + 5) (v2 : Int32).toNatClampNeg) : Int32).toNatClampNeg), .int ((it_up S6 (u + 7) (v2 : Int32).toNatClampNeg (if 0 < ((S2 (u + 7) (v2 : Int32).toNatClampNeg) - r7) then ((S2 (u + 7) (v2 : Int32).toNatClampNeg) - r7) else 0)) (u + 5) (v2 : Int32).toNatClampNeg), .ref (u + 3)] κ S10 (it_pi κ P)
          refine ev_iadd d_X0_passDay_72 ?_
          refine ev_bipush d_X0_passDay_73 kv_bipush_m99 ?_
          refine ev_bipush d_X0_passDay_75 kv_bipush_99 ?_
          refine ev_callSN (M' := it_m_X5_bounded) (d' := 2) (As := [.int (((it_up S6 (u + 7) (v2 : Int32).toNatClampNeg (if 0 < ((S2 (u + 7) (v2 : Int32).toNatClampNeg) - r7) then ((S2 (u + 7) (v2 : Int32).toNatClampNeg) - r7) else 0)) (u + 3) (((it_up S6 (u + 7) (v2 : Int32).toNatClampNeg (if 0 < ((S2 (u + 7) (v2 : Int32).toNatClampNeg) - r7) then ((S2 (u + 7) (v2 : Int32).toNatClampNeg) - r7) else 0)) (u + 5) (v2 : Int32).toNatClampNeg) : Int32).toNatClampNeg) + r11), .int (-99), .int 99]) d_X0_passDay_77 ml_IcedTooSoon_House_89 rfl rfl (Nat.le_of_ble_eq_true rfl) (by decide) (by decide) (by decide) (L_X5_bounded  (it_ok_b h)) (fun _ _ _ _ q => by cases q.1; rfl) ?_
          rintro _ _ S12 ⟨rfl, r13, rfl, h⟩
          show it_Ev g l 5 it_m_X0_passDay 0 0 80 [some (.ref u), some (.int v1), some (.int v2), some (.int ((it_up S6 (u + 7) (v2 : Int32).toNatClampNeg (if 0 < ((S2 (u + 7) (v2 : Int32).toNatClampNeg) - r7) then ((S2 (u + 7) (v2 : Int32).toNatClampNeg) - r7) else 0)) (u + 5) (v2 : Int32).toNatClampNeg))] [.int r13, .int ((it_up S6 (u + 7) (v2 : Int32).toNatClampNeg (if 0 < ((S2 (u + 7) (v2 : Int32).toNatClampNeg) - r7) then ((S2 (u + 7) (v2 : Int32).toNatClampNeg) - r7) else 0)) (u + 5) (v2 : Int32).toNatClampNeg), .ref (u + 3)] κ S12 (it_pi κ P)
          refine ev_iast d_X0_passDay_80 (by decide) (hh).2.2.2.1 (it_bd_in hb9) ?_
          refine ev_aload_n d_X0_passDay_81 rfl ?_
          refine ev_iload_n d_X0_passDay_82 rfl ?_
          refine ev_callV (ci := 0) (b := u) (M' := it_m_X0_take) (d' := 1) (As := [.int v2]) d_X0_passDay_83 ml_IcedTooSoon_House_93 (hh).1.1 (hh).1.2.1 ⟨_, rfl, rfl⟩ rfl rfl (Nat.le_of_ble_eq_true rfl) (by decide) (by decide) (by decide) (L_X0_take hb hh (it_ok_b h)) (fun _ _ _ _ q => by cases q.1; rfl) ?_
          rintro _ _ S14 ⟨rfl, rfl, h⟩
          show it_Ev g l 5 it_m_X0_passDay 0 0 86 [some (.ref u), some (.int v1), some (.int v2), some (.int ((it_up S6 (u + 7) (v2 : Int32).toNatClampNeg (if 0 < ((S2 (u + 7) (v2 : Int32).toNatClampNeg) - r7) then ((S2 (u + 7) (v2 : Int32).toNatClampNeg) - r7) else 0)) (u + 5) (v2 : Int32).toNatClampNeg))] [] κ S14 (it_pi κ P)
          refine ev_iload_n d_X0_passDay_86 rfl ?_
          refine ev_iconst d_X0_passDay_87 kv_iconst_1 ?_
          refine ev_iload_n d_X0_passDay_88 rfl ?_
          refine ev_ishl d_X0_passDay_89 ?_
          refine ev_ior d_X0_passDay_90 ?_
          refine ev_istore_n d_X0_passDay_91 (by decide) ?_
          show it_Ev g l 5 it_m_X0_passDay 0 0 92 [some (.ref u), some (.int (v1 ||| (1 <<< (v2 &&& 31)))), some (.int v2), some (.int ((it_up S6 (u + 7) (v2 : Int32).toNatClampNeg (if 0 < ((S2 (u + 7) (v2 : Int32).toNatClampNeg) - r7) then ((S2 (u + 7) (v2 : Int32).toNatClampNeg) - r7) else 0)) (u + 5) (v2 : Int32).toNatClampNeg))] [] κ S14 (it_pi κ P)
          refine ev_iinc d_X0_passDay_92 kv_iconst_1 rfl (by decide) ?_
          show it_Ev g l 5 it_m_X0_passDay 0 0 95 [some (.ref u), some (.int (v1 ||| (1 <<< (v2 &&& 31)))), some (.int (v2 + 1)), some (.int ((it_up S6 (u + 7) (v2 : Int32).toNatClampNeg (if 0 < ((S2 (u + 7) (v2 : Int32).toNatClampNeg) - r7) then ((S2 (u + 7) (v2 : Int32).toNatClampNeg) - r7) else 0)) (u + 5) (v2 : Int32).toNatClampNeg))] [] κ S14 (it_pi κ P)
          refine ev_goto (tgt := 4) d_X0_passDay_95 (by decide) ?_
          refine ev_keep [true, true, true, false] ?_
          exact ih4 _ _ _ h
set_option maxHeartbeats 4000000 in
set_option maxRecDepth 100000 in
theorem Llp_X0_passDay_100 {g : it_G} {l : Launch} {κ : it_KK} {u : Nat} (hb : it_wb κ) (hh : it_hs κ u) {P : Int32 → it_SS → Prop} {k100 : (Int32 → it_SS → Option (Int32 × it_SS))} (hk100 : ∀ (v1 : Int32) (S : it_SS), it_ok (k100 v1 S) P → it_Ev g l 5 it_m_X0_passDay 0 0 132 [some (.ref u), some (.int v1), none, none] [] κ S (it_pi κ P)) : ∀ (n : Nat) (v1 : Int32) (v2 : Int32) (S : it_SS), it_ok (lp_X0_passDay_100 κ u k100 n v1 v2 S) P → it_Ev g l 5 it_m_X0_passDay 0 0 100 [some (.ref u), some (.int v1), some (.int v2), none] [] κ S (it_pi κ P) := by
  intro n
  induction n with
  | zero =>
    intro _ _ _ h
    exact (it_ok_n h).elim
  | succ n100 ih100 =>
    intro v1 v2 S h
    rw [lp_X0_passDay_100] at h
    refine ev_iload_n d_X0_passDay_100 rfl ?_
    refine ev_aload_n d_X0_passDay_101 rfl ?_
    refine ev_getI d_X0_passDay_102 fl_IcedTooSoon_House_43 (hh).1 rfl ?_
    refine ev_icmp_ge (tgt := 132) d_X0_passDay_105 (by decide) (fun hc18 => ?_) (fun hc18 => ?_)
    · have h := it_ok_t h hc18
      refine ev_keep [true, true, false, false] ?_
      exact hk100 _ _ h
    · have h := it_ok_f h hc18
      refine ev_aload_n d_X0_passDay_108 rfl ?_
      refine ev_getRr (r := (u + 4)) rfl d_X0_passDay_109 fl_IcedTooSoon_House_21 (hh).1 rfl ?_
      refine ev_iload_n d_X0_passDay_112 rfl ?_
      refine ev_iconst d_X0_passDay_113 kv_iconst_0 ?_
      refine ev_aload_n d_X0_passDay_114 rfl ?_
      refine ev_getRr (r := (u + 4)) rfl d_X0_passDay_115 fl_IcedTooSoon_House_21 (hh).1 rfl ?_
      refine ev_iload_n d_X0_passDay_118 rfl ?_
      obtain ⟨hb19, h⟩ := it_ok_g h
      refine ev_iald d_X0_passDay_119 (hh).2.2.2.2.1 (it_bd_in hb19) ?_
      refine ev_iconst d_X0_passDay_120 kv_iconst_2 ?_
      refine ev_isub d_X0_passDay_121 ?_
      refine ev_mmax d_X0_passDay_122 mp_IcedTooSoon_House_83 (by decide) (Nat.le_of_ble_eq_true rfl) (by decide) (by decide) ?_
      refine ev_iast d_X0_passDay_125 (by decide) (hh).2.2.2.2.1 (it_bd_in hb19) ?_
      refine ev_iinc d_X0_passDay_126 kv_iconst_1 rfl (by decide) ?_
      show it_Ev g l 5 it_m_X0_passDay 0 0 129 [some (.ref u), some (.int v1), some (.int (v2 + 1)), none] [] κ (it_up S (u + 4) (v2 : Int32).toNatClampNeg (if 0 < ((S (u + 4) (v2 : Int32).toNatClampNeg) - 2) then ((S (u + 4) (v2 : Int32).toNatClampNeg) - 2) else 0)) (it_pi κ P)
      refine ev_goto (tgt := 100) d_X0_passDay_129 (by decide) ?_
      refine ev_keep [true, true, true, false] ?_
      exact ih100 _ _ _ h
set_option maxHeartbeats 4000000 in
set_option maxRecDepth 100000 in
theorem L_X0_passDay {g : it_G} {l : Launch} {κ : it_KK} {u : Nat} (hb : it_wb κ) (hh : it_hs κ u) {S : it_SS} {P : Int32 → it_SS → Prop} (h : it_ok (f_X0_passDay κ u S) P) : it_Cn g l 5 it_m_X0_passDay [.ref u] κ S (it_pi κ P) := by
  refine it_Cn.of (by decide +kernel) (Nat.le_of_ble_eq_true rfl) ?_
  rw [f_X0_passDay] at h
  show it_Ev g l 5 it_m_X0_passDay 0 0 0 [some (.ref u), none, none, none] [] κ S (it_pi κ P)
  refine ev_iconst d_X0_passDay_0 kv_iconst_0 ?_
  refine ev_istore_n d_X0_passDay_1 (by decide) ?_
  show it_Ev g l 5 it_m_X0_passDay 0 0 2 [some (.ref u), some (.int 0), none, none] [] κ S (it_pi κ P)
  refine ev_iconst d_X0_passDay_2 kv_iconst_0 ?_
  refine ev_istore_n d_X0_passDay_3 (by decide) ?_
  show it_Ev g l 5 it_m_X0_passDay 0 0 4 [some (.ref u), some (.int 0), some (.int 0), none] [] κ S (it_pi κ P)
  refine ev_keep [true, true, true, false] ?_
  refine Llp_X0_passDay_4 hb hh (fun v16 S17 h => ?_) _ _ _ _ h
  show it_Ev g l 5 it_m_X0_passDay 0 0 98 [some (.ref u), some (.int v16), none, none] [] κ S17 (it_pi κ P)
  refine ev_iconst d_X0_passDay_98 kv_iconst_0 ?_
  refine ev_istore_n d_X0_passDay_99 (by decide) ?_
  show it_Ev g l 5 it_m_X0_passDay 0 0 100 [some (.ref u), some (.int v16), some (.int 0), none] [] κ S17 (it_pi κ P)
  refine ev_keep [true, true, true, false] ?_
  refine Llp_X0_passDay_100 hb hh (fun v20 S21 h => ?_) _ _ _ _ h
  show it_Ev g l 5 it_m_X0_passDay 0 0 132 [some (.ref u), some (.int v20), none, none] [] κ S21 (it_pi κ P)
  refine ev_aload_n d_X0_passDay_132 rfl ?_
  refine ev_dup d_X0_passDay_133 rfl ?_
  refine ev_getI d_X0_passDay_134 fl_IcedTooSoon_House_53 (hh).1 rfl ?_
  refine ev_iconst d_X0_passDay_137 kv_iconst_1 ?_
  refine ev_iadd d_X0_passDay_138 ?_
  refine ev_putI d_X0_passDay_139 (by decide) fl_IcedTooSoon_House_53 fw_0_9 (hh).1 rfl ?_
  refine ev_iload_n d_X0_passDay_142 rfl ?_
  exact ev_ret (v := some (.int _)) ⟨d_X0_passDay_143, _, rfl, rfl⟩ (by decide) (by decide) ⟨rfl, _, rfl, it_ok_r h⟩
theorem d_X0_become_0 : decode prog_2_method_2_code 0 = .ok (.aload_n 0, 1) := by decide +kernel
theorem d_X0_become_1 : decode prog_2_method_2_code 1 = .ok (.aload_n 1, 1) := by decide +kernel
theorem d_X0_become_2 : decode prog_2_method_2_code 2 = .ok (.getfield 43, 3) := by decide +kernel
theorem d_X0_become_5 : decode prog_2_method_2_code 5 = .ok (.putfield 43, 3) := by decide +kernel
theorem d_X0_become_8 : decode prog_2_method_2_code 8 = .ok (.aload_n 1, 1) := by decide +kernel
theorem d_X0_become_9 : decode prog_2_method_2_code 9 = .ok (.getfield 9, 3) := by decide +kernel
theorem d_X0_become_12 : decode prog_2_method_2_code 12 = .ok (.iconst 0, 1) := by decide +kernel
theorem d_X0_become_13 : decode prog_2_method_2_code 13 = .ok (.aload_n 0, 1) := by decide +kernel
theorem d_X0_become_14 : decode prog_2_method_2_code 14 = .ok (.getfield 9, 3) := by decide +kernel
theorem d_X0_become_17 : decode prog_2_method_2_code 17 = .ok (.iconst 0, 1) := by decide +kernel
theorem d_X0_become_18 : decode prog_2_method_2_code 18 = .ok (.bipush 6, 2) := by decide +kernel
theorem d_X0_become_20 : decode prog_2_method_2_code 20 = .ok (.invokestatic 47, 3) := by decide +kernel
theorem d_X0_become_23 : decode prog_2_method_2_code 23 = .ok (.aload_n 1, 1) := by decide +kernel
theorem d_X0_become_24 : decode prog_2_method_2_code 24 = .ok (.getfield 15, 3) := by decide +kernel
theorem d_X0_become_27 : decode prog_2_method_2_code 27 = .ok (.iconst 0, 1) := by decide +kernel
theorem d_X0_become_28 : decode prog_2_method_2_code 28 = .ok (.aload_n 0, 1) := by decide +kernel
theorem d_X0_become_29 : decode prog_2_method_2_code 29 = .ok (.getfield 15, 3) := by decide +kernel
theorem d_X0_become_32 : decode prog_2_method_2_code 32 = .ok (.iconst 0, 1) := by decide +kernel
theorem d_X0_become_33 : decode prog_2_method_2_code 33 = .ok (.bipush 6, 2) := by decide +kernel
theorem d_X0_become_35 : decode prog_2_method_2_code 35 = .ok (.invokestatic 47, 3) := by decide +kernel
theorem d_X0_become_38 : decode prog_2_method_2_code 38 = .ok (.aload_n 1, 1) := by decide +kernel
theorem d_X0_become_39 : decode prog_2_method_2_code 39 = .ok (.getfield 18, 3) := by decide +kernel
theorem d_X0_become_42 : decode prog_2_method_2_code 42 = .ok (.iconst 0, 1) := by decide +kernel
theorem d_X0_become_43 : decode prog_2_method_2_code 43 = .ok (.aload_n 0, 1) := by decide +kernel
theorem d_X0_become_44 : decode prog_2_method_2_code 44 = .ok (.getfield 18, 3) := by decide +kernel
theorem d_X0_become_47 : decode prog_2_method_2_code 47 = .ok (.iconst 0, 1) := by decide +kernel
theorem d_X0_become_48 : decode prog_2_method_2_code 48 = .ok (.bipush 6, 2) := by decide +kernel
theorem d_X0_become_50 : decode prog_2_method_2_code 50 = .ok (.invokestatic 47, 3) := by decide +kernel
theorem d_X0_become_53 : decode prog_2_method_2_code 53 = .ok (.aload_n 1, 1) := by decide +kernel
theorem d_X0_become_54 : decode prog_2_method_2_code 54 = .ok (.getfield 21, 3) := by decide +kernel
theorem d_X0_become_57 : decode prog_2_method_2_code 57 = .ok (.iconst 0, 1) := by decide +kernel
theorem d_X0_become_58 : decode prog_2_method_2_code 58 = .ok (.aload_n 0, 1) := by decide +kernel
theorem d_X0_become_59 : decode prog_2_method_2_code 59 = .ok (.getfield 21, 3) := by decide +kernel
theorem d_X0_become_62 : decode prog_2_method_2_code 62 = .ok (.iconst 0, 1) := by decide +kernel
theorem d_X0_become_63 : decode prog_2_method_2_code 63 = .ok (.bipush 6, 2) := by decide +kernel
theorem d_X0_become_65 : decode prog_2_method_2_code 65 = .ok (.invokestatic 47, 3) := by decide +kernel
theorem d_X0_become_68 : decode prog_2_method_2_code 68 = .ok (.aload_n 1, 1) := by decide +kernel
theorem d_X0_become_69 : decode prog_2_method_2_code 69 = .ok (.getfield 24, 3) := by decide +kernel
theorem d_X0_become_72 : decode prog_2_method_2_code 72 = .ok (.iconst 0, 1) := by decide +kernel
theorem d_X0_become_73 : decode prog_2_method_2_code 73 = .ok (.aload_n 0, 1) := by decide +kernel
theorem d_X0_become_74 : decode prog_2_method_2_code 74 = .ok (.getfield 24, 3) := by decide +kernel
theorem d_X0_become_77 : decode prog_2_method_2_code 77 = .ok (.iconst 0, 1) := by decide +kernel
theorem d_X0_become_78 : decode prog_2_method_2_code 78 = .ok (.bipush 10, 2) := by decide +kernel
theorem d_X0_become_80 : decode prog_2_method_2_code 80 = .ok (.invokestatic 47, 3) := by decide +kernel
theorem d_X0_become_83 : decode prog_2_method_2_code 83 = .ok (.aload_n 1, 1) := by decide +kernel
theorem d_X0_become_84 : decode prog_2_method_2_code 84 = .ok (.getfield 27, 3) := by decide +kernel
theorem d_X0_become_87 : decode prog_2_method_2_code 87 = .ok (.iconst 0, 1) := by decide +kernel
theorem d_X0_become_88 : decode prog_2_method_2_code 88 = .ok (.aload_n 0, 1) := by decide +kernel
theorem d_X0_become_89 : decode prog_2_method_2_code 89 = .ok (.getfield 27, 3) := by decide +kernel
theorem d_X0_become_92 : decode prog_2_method_2_code 92 = .ok (.iconst 0, 1) := by decide +kernel
theorem d_X0_become_93 : decode prog_2_method_2_code 93 = .ok (.bipush 10, 2) := by decide +kernel
theorem d_X0_become_95 : decode prog_2_method_2_code 95 = .ok (.invokestatic 47, 3) := by decide +kernel
theorem d_X0_become_98 : decode prog_2_method_2_code 98 = .ok (.aload_n 1, 1) := by decide +kernel
theorem d_X0_become_99 : decode prog_2_method_2_code 99 = .ok (.getfield 30, 3) := by decide +kernel
theorem d_X0_become_102 : decode prog_2_method_2_code 102 = .ok (.iconst 0, 1) := by decide +kernel
theorem d_X0_become_103 : decode prog_2_method_2_code 103 = .ok (.aload_n 0, 1) := by decide +kernel
theorem d_X0_become_104 : decode prog_2_method_2_code 104 = .ok (.getfield 30, 3) := by decide +kernel
theorem d_X0_become_107 : decode prog_2_method_2_code 107 = .ok (.iconst 0, 1) := by decide +kernel
theorem d_X0_become_108 : decode prog_2_method_2_code 108 = .ok (.bipush 10, 2) := by decide +kernel
theorem d_X0_become_110 : decode prog_2_method_2_code 110 = .ok (.invokestatic 47, 3) := by decide +kernel
theorem d_X0_become_113 : decode prog_2_method_2_code 113 = .ok (.aload_n 0, 1) := by decide +kernel
theorem d_X0_become_114 : decode prog_2_method_2_code 114 = .ok (.aload_n 1, 1) := by decide +kernel
theorem d_X0_become_115 : decode prog_2_method_2_code 115 = .ok (.getfield 53, 3) := by decide +kernel
theorem d_X0_become_118 : decode prog_2_method_2_code 118 = .ok (.putfield 53, 3) := by decide +kernel
theorem d_X0_become_121 : decode prog_2_method_2_code 121 = .ok (.aload_n 0, 1) := by decide +kernel
theorem d_X0_become_122 : decode prog_2_method_2_code 122 = .ok (.aload_n 1, 1) := by decide +kernel
theorem d_X0_become_123 : decode prog_2_method_2_code 123 = .ok (.getfield 56, 3) := by decide +kernel
theorem d_X0_become_126 : decode prog_2_method_2_code 126 = .ok (.putfield 56, 3) := by decide +kernel
theorem d_X0_become_129 : decode prog_2_method_2_code 129 = .ok (.return_, 1) := by decide +kernel
def f_X0_become (κ : it_KK) (u : Nat) (o : Nat) (S : it_SS) : Option (Unit × it_SS) :=
some ((), it_up (it_up (it_cpy (it_cpy (it_cpy (it_cpy (it_cpy (it_cpy (it_cpy (it_up S u 1 (S o 1)) (o + 1) (u + 1) (0 : Int32).toNatClampNeg (0 : Int32).toNatClampNeg (6 : Int32).toNatClampNeg) (o + 2) (u + 2) (0 : Int32).toNatClampNeg (0 : Int32).toNatClampNeg (6 : Int32).toNatClampNeg) (o + 3) (u + 3) (0 : Int32).toNatClampNeg (0 : Int32).toNatClampNeg (6 : Int32).toNatClampNeg) (o + 4) (u + 4) (0 : Int32).toNatClampNeg (0 : Int32).toNatClampNeg (6 : Int32).toNatClampNeg) (o + 5) (u + 5) (0 : Int32).toNatClampNeg (0 : Int32).toNatClampNeg (10 : Int32).toNatClampNeg) (o + 6) (u + 6) (0 : Int32).toNatClampNeg (0 : Int32).toNatClampNeg (10 : Int32).toNatClampNeg) (o + 7) (u + 7) (0 : Int32).toNatClampNeg (0 : Int32).toNatClampNeg (10 : Int32).toNatClampNeg) u 9 ((it_cpy (it_cpy (it_cpy (it_cpy (it_cpy (it_cpy (it_cpy (it_up S u 1 (S o 1)) (o + 1) (u + 1) (0 : Int32).toNatClampNeg (0 : Int32).toNatClampNeg (6 : Int32).toNatClampNeg) (o + 2) (u + 2) (0 : Int32).toNatClampNeg (0 : Int32).toNatClampNeg (6 : Int32).toNatClampNeg) (o + 3) (u + 3) (0 : Int32).toNatClampNeg (0 : Int32).toNatClampNeg (6 : Int32).toNatClampNeg) (o + 4) (u + 4) (0 : Int32).toNatClampNeg (0 : Int32).toNatClampNeg (6 : Int32).toNatClampNeg) (o + 5) (u + 5) (0 : Int32).toNatClampNeg (0 : Int32).toNatClampNeg (10 : Int32).toNatClampNeg) (o + 6) (u + 6) (0 : Int32).toNatClampNeg (0 : Int32).toNatClampNeg (10 : Int32).toNatClampNeg) (o + 7) (u + 7) (0 : Int32).toNatClampNeg (0 : Int32).toNatClampNeg (10 : Int32).toNatClampNeg) o 9)) u 10 ((it_up (it_cpy (it_cpy (it_cpy (it_cpy (it_cpy (it_cpy (it_cpy (it_up S u 1 (S o 1)) (o + 1) (u + 1) (0 : Int32).toNatClampNeg (0 : Int32).toNatClampNeg (6 : Int32).toNatClampNeg) (o + 2) (u + 2) (0 : Int32).toNatClampNeg (0 : Int32).toNatClampNeg (6 : Int32).toNatClampNeg) (o + 3) (u + 3) (0 : Int32).toNatClampNeg (0 : Int32).toNatClampNeg (6 : Int32).toNatClampNeg) (o + 4) (u + 4) (0 : Int32).toNatClampNeg (0 : Int32).toNatClampNeg (6 : Int32).toNatClampNeg) (o + 5) (u + 5) (0 : Int32).toNatClampNeg (0 : Int32).toNatClampNeg (10 : Int32).toNatClampNeg) (o + 6) (u + 6) (0 : Int32).toNatClampNeg (0 : Int32).toNatClampNeg (10 : Int32).toNatClampNeg) (o + 7) (u + 7) (0 : Int32).toNatClampNeg (0 : Int32).toNatClampNeg (10 : Int32).toNatClampNeg) u 9 ((it_cpy (it_cpy (it_cpy (it_cpy (it_cpy (it_cpy (it_cpy (it_up S u 1 (S o 1)) (o + 1) (u + 1) (0 : Int32).toNatClampNeg (0 : Int32).toNatClampNeg (6 : Int32).toNatClampNeg) (o + 2) (u + 2) (0 : Int32).toNatClampNeg (0 : Int32).toNatClampNeg (6 : Int32).toNatClampNeg) (o + 3) (u + 3) (0 : Int32).toNatClampNeg (0 : Int32).toNatClampNeg (6 : Int32).toNatClampNeg) (o + 4) (u + 4) (0 : Int32).toNatClampNeg (0 : Int32).toNatClampNeg (6 : Int32).toNatClampNeg) (o + 5) (u + 5) (0 : Int32).toNatClampNeg (0 : Int32).toNatClampNeg (10 : Int32).toNatClampNeg) (o + 6) (u + 6) (0 : Int32).toNatClampNeg (0 : Int32).toNatClampNeg (10 : Int32).toNatClampNeg) (o + 7) (u + 7) (0 : Int32).toNatClampNeg (0 : Int32).toNatClampNeg (10 : Int32).toNatClampNeg) o 9)) o 10))
set_option maxHeartbeats 4000000 in
set_option maxRecDepth 100000 in
theorem L_X0_become {g : it_G} {l : Launch} {κ : it_KK} {u : Nat} {o : Nat} (hb : it_wb κ) (hh : it_hs κ u) (ho : it_hs κ o) {S : it_SS} {P : Unit → it_SS → Prop} (h : it_ok (f_X0_become κ u o S) P) : it_Cn g l 2 it_m_X0_become [.ref u, .ref o] κ S (it_pv κ P) := by
  refine it_Cn.of (by decide +kernel) (Nat.le_of_ble_eq_true rfl) ?_
  rw [f_X0_become] at h
  show it_Ev g l 2 it_m_X0_become 0 0 0 [some (.ref u), some (.ref o)] [] κ S (it_pv κ P)
  refine ev_aload_n d_X0_become_0 rfl ?_
  refine ev_aload_n d_X0_become_1 rfl ?_
  refine ev_getI d_X0_become_2 fl_IcedTooSoon_House_43 (ho).1 rfl ?_
  refine ev_putI d_X0_become_5 (by decide) fl_IcedTooSoon_House_43 fw_0_1 (hh).1 rfl ?_
  refine ev_aload_n d_X0_become_8 rfl ?_
  refine ev_getRr (r := (o + 1)) rfl d_X0_become_9 fl_IcedTooSoon_House_9 (ho).1 rfl ?_
  refine ev_iconst d_X0_become_12 kv_iconst_0 ?_
  refine ev_aload_n d_X0_become_13 rfl ?_
  refine ev_getRr (r := (u + 1)) rfl d_X0_become_14 fl_IcedTooSoon_House_9 (hh).1 rfl ?_
  refine ev_iconst d_X0_become_17 kv_iconst_0 ?_
  refine ev_bipush d_X0_become_18 kv_bipush_6 ?_
  refine ev_copy d_X0_become_20 (by decide) (by decide) (Nat.le_of_ble_eq_true rfl) ⟨it_in_tb (List.mem_of_getElem? (i := 567) (by decide +kernel)) rfl, it_in_tb (List.mem_of_getElem? (i := 399) (by decide +kernel)) rfl, it_in_tb (List.mem_of_getElem? (i := 398) (by decide +kernel)) rfl, it_in_tb (List.mem_of_getElem? (i := 67) (by decide +kernel)) rfl⟩ (ho).2.1 (hh).2.1 (by decide) (by decide) (by decide) (by decide) (by decide) ?_
  refine ev_aload_n d_X0_become_23 rfl ?_
  refine ev_getRr (r := (o + 2)) rfl d_X0_become_24 fl_IcedTooSoon_House_15 (ho).1 rfl ?_
  refine ev_iconst d_X0_become_27 kv_iconst_0 ?_
  refine ev_aload_n d_X0_become_28 rfl ?_
  refine ev_getRr (r := (u + 2)) rfl d_X0_become_29 fl_IcedTooSoon_House_15 (hh).1 rfl ?_
  refine ev_iconst d_X0_become_32 kv_iconst_0 ?_
  refine ev_bipush d_X0_become_33 kv_bipush_6 ?_
  refine ev_copy d_X0_become_35 (by decide) (by decide) (Nat.le_of_ble_eq_true rfl) ⟨it_in_tb (List.mem_of_getElem? (i := 567) (by decide +kernel)) rfl, it_in_tb (List.mem_of_getElem? (i := 399) (by decide +kernel)) rfl, it_in_tb (List.mem_of_getElem? (i := 398) (by decide +kernel)) rfl, it_in_tb (List.mem_of_getElem? (i := 67) (by decide +kernel)) rfl⟩ (ho).2.2.1 (hh).2.2.1 (by decide) (by decide) (by decide) (by decide) (by decide) ?_
  refine ev_aload_n d_X0_become_38 rfl ?_
  refine ev_getRr (r := (o + 3)) rfl d_X0_become_39 fl_IcedTooSoon_House_18 (ho).1 rfl ?_
  refine ev_iconst d_X0_become_42 kv_iconst_0 ?_
  refine ev_aload_n d_X0_become_43 rfl ?_
  refine ev_getRr (r := (u + 3)) rfl d_X0_become_44 fl_IcedTooSoon_House_18 (hh).1 rfl ?_
  refine ev_iconst d_X0_become_47 kv_iconst_0 ?_
  refine ev_bipush d_X0_become_48 kv_bipush_6 ?_
  refine ev_copy d_X0_become_50 (by decide) (by decide) (Nat.le_of_ble_eq_true rfl) ⟨it_in_tb (List.mem_of_getElem? (i := 567) (by decide +kernel)) rfl, it_in_tb (List.mem_of_getElem? (i := 399) (by decide +kernel)) rfl, it_in_tb (List.mem_of_getElem? (i := 398) (by decide +kernel)) rfl, it_in_tb (List.mem_of_getElem? (i := 67) (by decide +kernel)) rfl⟩ (ho).2.2.2.1 (hh).2.2.2.1 (by decide) (by decide) (by decide) (by decide) (by decide) ?_
  refine ev_aload_n d_X0_become_53 rfl ?_
  refine ev_getRr (r := (o + 4)) rfl d_X0_become_54 fl_IcedTooSoon_House_21 (ho).1 rfl ?_
  refine ev_iconst d_X0_become_57 kv_iconst_0 ?_
  refine ev_aload_n d_X0_become_58 rfl ?_
  refine ev_getRr (r := (u + 4)) rfl d_X0_become_59 fl_IcedTooSoon_House_21 (hh).1 rfl ?_
  refine ev_iconst d_X0_become_62 kv_iconst_0 ?_
  refine ev_bipush d_X0_become_63 kv_bipush_6 ?_
  refine ev_copy d_X0_become_65 (by decide) (by decide) (Nat.le_of_ble_eq_true rfl) ⟨it_in_tb (List.mem_of_getElem? (i := 567) (by decide +kernel)) rfl, it_in_tb (List.mem_of_getElem? (i := 399) (by decide +kernel)) rfl, it_in_tb (List.mem_of_getElem? (i := 398) (by decide +kernel)) rfl, it_in_tb (List.mem_of_getElem? (i := 67) (by decide +kernel)) rfl⟩ (ho).2.2.2.2.1 (hh).2.2.2.2.1 (by decide) (by decide) (by decide) (by decide) (by decide) ?_
  refine ev_aload_n d_X0_become_68 rfl ?_
  refine ev_getRr (r := (o + 5)) rfl d_X0_become_69 fl_IcedTooSoon_House_24 (ho).1 rfl ?_
  refine ev_iconst d_X0_become_72 kv_iconst_0 ?_
  refine ev_aload_n d_X0_become_73 rfl ?_
  refine ev_getRr (r := (u + 5)) rfl d_X0_become_74 fl_IcedTooSoon_House_24 (hh).1 rfl ?_
  refine ev_iconst d_X0_become_77 kv_iconst_0 ?_
  refine ev_bipush d_X0_become_78 kv_bipush_10 ?_
  refine ev_copy d_X0_become_80 (by decide) (by decide) (Nat.le_of_ble_eq_true rfl) ⟨it_in_tb (List.mem_of_getElem? (i := 567) (by decide +kernel)) rfl, it_in_tb (List.mem_of_getElem? (i := 399) (by decide +kernel)) rfl, it_in_tb (List.mem_of_getElem? (i := 398) (by decide +kernel)) rfl, it_in_tb (List.mem_of_getElem? (i := 67) (by decide +kernel)) rfl⟩ (ho).2.2.2.2.2.1 (hh).2.2.2.2.2.1 (by decide) (by decide) (by decide) (by decide) (by decide) ?_
  refine ev_aload_n d_X0_become_83 rfl ?_
  refine ev_getRr (r := (o + 6)) rfl d_X0_become_84 fl_IcedTooSoon_House_27 (ho).1 rfl ?_
  refine ev_iconst d_X0_become_87 kv_iconst_0 ?_
  refine ev_aload_n d_X0_become_88 rfl ?_
  refine ev_getRr (r := (u + 6)) rfl d_X0_become_89 fl_IcedTooSoon_House_27 (hh).1 rfl ?_
  refine ev_iconst d_X0_become_92 kv_iconst_0 ?_
  refine ev_bipush d_X0_become_93 kv_bipush_10 ?_
  refine ev_copy d_X0_become_95 (by decide) (by decide) (Nat.le_of_ble_eq_true rfl) ⟨it_in_tb (List.mem_of_getElem? (i := 567) (by decide +kernel)) rfl, it_in_tb (List.mem_of_getElem? (i := 399) (by decide +kernel)) rfl, it_in_tb (List.mem_of_getElem? (i := 398) (by decide +kernel)) rfl, it_in_tb (List.mem_of_getElem? (i := 67) (by decide +kernel)) rfl⟩ (ho).2.2.2.2.2.2.1 (hh).2.2.2.2.2.2.1 (by decide) (by decide) (by decide) (by decide) (by decide) ?_
  refine ev_aload_n d_X0_become_98 rfl ?_
  refine ev_getRr (r := (o + 7)) rfl d_X0_become_99 fl_IcedTooSoon_House_30 (ho).1 rfl ?_
  refine ev_iconst d_X0_become_102 kv_iconst_0 ?_
  refine ev_aload_n d_X0_become_103 rfl ?_
  refine ev_getRr (r := (u + 7)) rfl d_X0_become_104 fl_IcedTooSoon_House_30 (hh).1 rfl ?_
  refine ev_iconst d_X0_become_107 kv_iconst_0 ?_
  refine ev_bipush d_X0_become_108 kv_bipush_10 ?_
  refine ev_copy d_X0_become_110 (by decide) (by decide) (Nat.le_of_ble_eq_true rfl) ⟨it_in_tb (List.mem_of_getElem? (i := 567) (by decide +kernel)) rfl, it_in_tb (List.mem_of_getElem? (i := 399) (by decide +kernel)) rfl, it_in_tb (List.mem_of_getElem? (i := 398) (by decide +kernel)) rfl, it_in_tb (List.mem_of_getElem? (i := 67) (by decide +kernel)) rfl⟩ (ho).2.2.2.2.2.2.2 (hh).2.2.2.2.2.2.2 (by decide) (by decide) (by decide) (by decide) (by decide) ?_
  refine ev_aload_n d_X0_become_113 rfl ?_
  refine ev_aload_n d_X0_become_114 rfl ?_
  refine ev_getI d_X0_become_115 fl_IcedTooSoon_House_53 (ho).1 rfl ?_
  refine ev_putI d_X0_become_118 (by decide) fl_IcedTooSoon_House_53 fw_0_9 (hh).1 rfl ?_
  refine ev_aload_n d_X0_become_121 rfl ?_
  refine ev_aload_n d_X0_become_122 rfl ?_
  refine ev_getI d_X0_become_123 fl_IcedTooSoon_House_56 (ho).1 rfl ?_
  refine ev_putI d_X0_become_126 (by decide) fl_IcedTooSoon_House_56 fw_0_10 (hh).1 rfl ?_
  exact ev_ret (v := none) ⟨d_X0_become_129, rfl⟩ (by decide) (by decide) ⟨rfl, rfl, it_ok_r h⟩
