section ITC
variable {g : it_G} {l : Launch} {d : Nat} {M : it_M} {kc ks pc : Nat} {L : it_L} {st : List Value} {κ : it_KK} {S : it_SS} {P : Option Value → it_KK → it_SS → Prop}
theorem it_good (w : Cond) (h : w ∈ it_tb) : w ∈ it_tb ∧ ((w.onTables && w.keeps) = true ∨ ∃ ty, w = .arrayClass ty) := ⟨h, good_of_word (it_tb_good h)⟩
/-- what the tables say of a call's target -/
def it_mc (M' : it_M) (n : Nat) : Prop := Cond.code M'.1 M'.2.1 M'.2.2.1 M'.2.2.2.1 ∈ it_tb ∧ Cond.initialized M'.1.cls ∈ it_tb ∧ (M'.1.cls ≠ "java/lang/invoke/MethodHandle" ∧ M'.1.cls ≠ "java/lang/invoke/VarHandle" ∧ (parseMethodDescriptor M'.1.desc).map (fun d => d.parameters.length) = some n) ∧ M'.2.2.1 ≤ 41
def it_mv (own : String) (i : Nat) (M' : it_M) (n : Nat) : Prop := it_mc M' n ∧ Cond.methodLink own i M'.1 ∈ it_tb ∧ Cond.instanceMethod M'.1 ∈ it_tb ∧ Cond.selects M'.1.cls M'.1 M'.1 ∈ it_tb
def it_ms (own : String) (i : Nat) (M' : it_M) (n : Nat) : Prop := it_mc M' n ∧ Cond.methodLink own i M'.1 ∈ it_tb ∧ Cond.static M'.1 ∈ it_tb
def it_mi (own : String) (i : Nat) (M' : it_M) (n : Nat) : Prop := it_mc M' n ∧ Cond.methodLink own i M'.1 ∈ it_tb ∧ Cond.instanceMethod M'.1 ∈ it_tb ∧ M'.1.name = "<init>" ∧ M'.2.2.2.1 = none
def it_msN (own : String) (i : Nat) (M' : it_M) (n : Nat) : Prop := it_mc M' n ∧ (own, i, M'.1) ∈ it_nests ∧ Cond.static M'.1 ∈ it_tb
def it_miN (own : String) (i : Nat) (M' : it_M) (n : Nat) : Prop := it_mc M' n ∧ (own, i, M'.1) ∈ it_nests ∧ Cond.instanceMethod M'.1 ∈ it_tb ∧ M'.1.name = "<init>" ∧ M'.2.2.2.1 = none
theorem it_wds_in {M' : it_M} {n : Nat} (h : it_mc M' n) : ∀ w ∈ it_wds M', w ∈ it_tb := fun w hw => by
  rcases List.mem_cons.mp hw with rfl | hw
  · exact h.1
  · exact hw
theorem it_gi {M' : it_M} {n : Nat} (h : it_mc M' n) : GoodIn it_tb (it_wds M') := fun w hw => it_good w (it_wds_in h w hw)
theorem it_blind {av : List Value} : FrameBlind (va_Pc av (it_wd g κ S)) := fun _ _ _ _ q => ⟨q.1, q.2.calling⟩
theorem it_room {R : Room} {d' : Nat} {M' : it_M} {n : Nat} (h : it_mc M' n) (hdd : d' + 1 ≤ d) (h1 : d ≤ R.frames) (h2 : 60 * d ≤ R.locals) : (it_rm d' M').frames + 1 ≤ R.frames ∧ 8 + (M'.2.2.1 + 11) + (it_rm d' M').locals ≤ R.locals := by
  have h3 := h.2.2.2
  simp only [it_rm]
  omega
theorem ev_callV {M' : it_M} {d' i ci b n n0 : Nat} {As st0 : List Value} {P' : Option Value → it_KK → it_SS → Prop} (hd : decode M.2.1 pc = .ok (.invokevirtual i, 3)) (hm : it_mv M.1.cls i M' n) (hb : b < κ.1) (hk : κ.2.1 b = (ci + 3, n0)) (hci : ∃ q, it_cl[ci]? = some q ∧ q.1 = M'.1.cls) (hn : As.length = n) (hs : st0 = As.reverse ++ .ref b :: st) (hst : (st.map fun v => v.category).sum ≤ 8) (hdd : d' + 1 ≤ d) (hc : kc + M'.2.2.2.2.1 ≤ M.2.2.2.2.1) (hcs : ks + M'.2.2.2.2.2 ≤ M.2.2.2.2.2)
    (hC : it_Cn g l d' M' (.ref b :: As) κ S P') (hex : kc + M'.2.2.2.2.1 < 1000 → ∀ v κ' S', P' v κ' S' → κ'.1 = κ.1 + M'.2.2.2.2.1) (kk : ∀ v κ' S', P' v κ' S' → it_Ev g l d M (kc + M'.2.2.2.2.1) (ks + M'.2.2.2.2.2) (pc + 3) L (v.toList ++ st) κ' S' P) : it_Ev g l d M kc ks pc L st0 κ S P := by
  intro p e R s m args below meth c H locs ls Q C F X hl hq
  subst hs
  obtain ⟨q, q1, q2⟩ := hci
  refine it_after (rest := st) (P' := P') (va_runV (As := As.map (it_tr g)) (C := M'.1.cls) (Ts := it_tb) (own := M.1.cls) (b := g.1 + b) ⟨C.1, C.2.1, C.2.2.1, C.2.2.2.1, C.2.2.2.2.1⟩ hC
    (cwV n C.2.2.2.2.1 (fun w hw => ?_) rfl rfl rfl ⟨rfl, hm.1.2.2.1⟩ (it_room hm.1 hdd C.2.2.2.2.2.2.1 C.2.2.2.2.2.2.2.1))
    ⟨it_blind, ?_, fun U hU hW => ⟨rfl, F.wd hU hW⟩⟩ rfl (by rw [List.length_map]; exact hn) hl.1 (by simp [it_tr]) (lv_room (by rw [it_rest]; exact hst)) hd ⟨Nat.le_trans hc C.2.2.2.2.2.2.2.2.1, Nat.le_trans hcs C.2.2.2.2.2.2.2.2.2⟩) F (fun v κ' S' H1 locs1 hp F1 => ?_)
  · rcases List.mem_append.mp hw with h | h
    · rcases List.mem_cons.mp h with rfl | h
      · exact it_good _ hm.2.1
      · rcases List.mem_cons.mp h with rfl | h
        · exact it_good _ hm.2.2.1
        · rcases List.mem_cons.mp h with rfl | h
          · exact it_good _ hm.2.2.2
          · rcases List.mem_cons.mp h with rfl | h
            · exact it_good _ hm.1.2.1
            · exact absurd h List.not_mem_nil
    · exact it_gi hm.1 w h
  · rw [← q2]
    exact va_recv F.2.2.2.1 F.2.2.1 q1 (q0 := b) (by rw [it_ws_get hb, it_ce_ob hk])
  · refine kk v κ' S' hp p e R s m args below meth c H1 locs1 ls Q C F1 (fun hlt => ?_) hl hq
    rw [hex hlt v κ' S' hp, ← Nat.add_assoc, ← Nat.add_assoc, X (by omega)]
theorem ev_callS {M' : it_M} {d' i n : Nat} {As st0 : List Value} {P' : Option Value → it_KK → it_SS → Prop} (hd : decode M.2.1 pc = .ok (.invokestatic i, 3)) (hm : it_ms M.1.cls i M' n) (hn : As.length = n) (hs : st0 = As.reverse ++ st) (hst : (st.map fun v => v.category).sum ≤ 8) (hdd : d' + 1 ≤ d) (hc : kc + M'.2.2.2.2.1 ≤ M.2.2.2.2.1) (hcs : ks + M'.2.2.2.2.2 ≤ M.2.2.2.2.2)
    (hC : it_Cn g l d' M' As κ S P') (hex : kc + M'.2.2.2.2.1 < 1000 → ∀ v κ' S', P' v κ' S' → κ'.1 = κ.1 + M'.2.2.2.2.1) (kk : ∀ v κ' S', P' v κ' S' → it_Ev g l d M (kc + M'.2.2.2.2.1) (ks + M'.2.2.2.2.2) (pc + 3) L (v.toList ++ st) κ' S' P) : it_Ev g l d M kc ks pc L st0 κ S P := by
  intro p e R s m args below meth c H locs ls Q C F X hl hq
  subst hs
  refine it_after (rest := st) (P' := P') (va_runS (As := As.map (it_tr g)) (Ts := it_tb) (own := M.1.cls) ⟨C.1, C.2.1, C.2.2.1, C.2.2.2.1, C.2.2.2.2.1⟩ hC
    (va_cwS n C.2.2.2.2.1 (fun w hw => ?_) rfl rfl rfl hm.1.2.2.1 (it_room hm.1 hdd C.2.2.2.2.2.2.1 C.2.2.2.2.2.2.2.1))
    ⟨it_blind, fun U hU hW => ⟨rfl, F.wd hU hW⟩⟩ rfl (by rw [List.length_map]; exact hn) hl.1 (by simp) (lv_room (by rw [it_rest]; exact hst)) hd ⟨Nat.le_trans hc C.2.2.2.2.2.2.2.2.1, Nat.le_trans hcs C.2.2.2.2.2.2.2.2.2⟩) F (fun v κ' S' H1 locs1 hp F1 => ?_)
  · rcases List.mem_append.mp hw with h | h
    · rcases List.mem_cons.mp h with rfl | h
      · exact it_good _ hm.2.1
      · rcases List.mem_cons.mp h with rfl | h
        · exact it_good _ hm.2.2
        · rcases List.mem_cons.mp h with rfl | h
          · exact it_good _ hm.1.2.1
          · exact absurd h List.not_mem_nil
    · exact it_gi hm.1 w h
  · refine kk v κ' S' hp p e R s m args below meth c H1 locs1 ls Q C F1 (fun hlt => ?_) hl hq
    rw [hex hlt v κ' S' hp, ← Nat.add_assoc, ← Nat.add_assoc, X (by omega)]
theorem ev_callI {M' : it_M} {d' i b n : Nat} {As st0 : List Value} {P' : Option Value → it_KK → it_SS → Prop} (hd : decode M.2.1 pc = .ok (.invokespecial i, 3)) (hm : it_mi M.1.cls i M' n) (hn : As.length = n) (hs : st0 = As.reverse ++ .ref b :: st) (hst : (st.map fun v => v.category).sum ≤ 8) (hdd : d' + 1 ≤ d) (hc : kc + M'.2.2.2.2.1 ≤ M.2.2.2.2.1) (hcs : ks + M'.2.2.2.2.2 ≤ M.2.2.2.2.2)
    (hC : it_Cn g l d' M' (.ref b :: As) κ S P') (hex : kc + M'.2.2.2.2.1 < 1000 → ∀ v κ' S', P' v κ' S' → κ'.1 = κ.1 + M'.2.2.2.2.1) (kk : ∀ v κ' S', P' v κ' S' → it_Ev g l d M (kc + M'.2.2.2.2.1) (ks + M'.2.2.2.2.2) (pc + 3) L (v.toList ++ st) κ' S' P) : it_Ev g l d M kc ks pc L st0 κ S P := by
  intro p e R s m args below meth c H locs ls Q C F X hl hq
  subst hs
  refine it_after (rest := st) (P' := P') (va_runI (As := As.map (it_tr g)) (Ts := it_tb) (own := M.1.cls) (b := g.1 + b) ⟨C.1, C.2.1, C.2.2.1, C.2.2.2.1, C.2.2.2.2.1⟩ hC
    (cwI n C.2.2.2.2.1 (it_gi hm.1) (by rw [it_wds, hm.2.2.2.2]) rfl rfl (C.2.2.2.2.1 _ hm.1.2.1) (C.2.2.2.2.1 _ hm.2.1) (C.2.2.2.2.1 _ hm.2.2.1) hm.2.2.2.1 hm.1.2.2.1 (it_room hm.1 hdd C.2.2.2.2.2.2.1 C.2.2.2.2.2.2.2.1))
    ⟨it_blind, fun U hU hW => ⟨rfl, F.wd hU hW⟩⟩ rfl (by rw [List.length_map]; exact hn) hl.1 (by simp [it_tr]) (lv_room (by rw [it_rest]; exact hst)) hd ⟨Nat.le_trans hc C.2.2.2.2.2.2.2.2.1, Nat.le_trans hcs C.2.2.2.2.2.2.2.2.2⟩) F (fun v κ' S' H1 locs1 hp F1 => ?_)
  refine kk v κ' S' hp p e R s m args below meth c H1 locs1 ls Q C F1 (fun hlt => ?_) hl hq
  rw [hex hlt v κ' S' hp, ← Nat.add_assoc, ← Nat.add_assoc, X (by omega)]
theorem ev_callSN {M' : it_M} {d' i n : Nat} {As st0 : List Value} {P' : Option Value → it_KK → it_SS → Prop} (hd : decode M.2.1 pc = .ok (.invokestatic i, 3)) (hm : it_msN M.1.cls i M' n) (hn : As.length = n) (hs : st0 = As.reverse ++ st) (hst : (st.map fun v => v.category).sum ≤ 8) (hdd : d' + 1 ≤ d) (hc : kc + M'.2.2.2.2.1 ≤ M.2.2.2.2.1) (hcs : ks + M'.2.2.2.2.2 ≤ M.2.2.2.2.2)
    (hC : it_Cn g l d' M' As κ S P') (hex : kc + M'.2.2.2.2.1 < 1000 → ∀ v κ' S', P' v κ' S' → κ'.1 = κ.1 + M'.2.2.2.2.1) (kk : ∀ v κ' S', P' v κ' S' → it_Ev g l d M (kc + M'.2.2.2.2.1) (ks + M'.2.2.2.2.2) (pc + 3) L (v.toList ++ st) κ' S' P) : it_Ev g l d M kc ks pc L st0 κ S P := by
  intro p e R s m args below meth c H locs ls Q C F X hl hq
  subst hs
  refine it_after (rest := st) (P' := P') (va_runSN (host := "IcedTooSoon") (As := As.map (it_tr g)) (Ts := it_tb) (own := M.1.cls) ⟨C.1, C.2.1, C.2.2.1, C.2.2.2.1, C.2.2.2.2.1⟩ hC
    ⟨va_cnB n C.2.2.2.2.1 (it_gi hm.1) rfl rfl rfl (F.2.2.2.2.1.1.2.2.2 _ hm.2.1) (C.2.2.2.2.1 _ hm.1.2.1) hm.1.2.2.1 (it_room hm.1 hdd C.2.2.2.2.2.2.1 C.2.2.2.2.2.2.2.1), C.2.2.2.2.1 _ hm.2.2, trivial⟩
    ⟨it_blind, fun U hU hW => ⟨rfl, F.wd hU hW⟩⟩ rfl (by rw [List.length_map]; exact hn) hl.1 (by simp) (lv_room (by rw [it_rest]; exact hst)) hd ⟨Nat.le_trans hc C.2.2.2.2.2.2.2.2.1, Nat.le_trans hcs C.2.2.2.2.2.2.2.2.2⟩) F (fun v κ' S' H1 locs1 hp F1 => ?_)
  refine kk v κ' S' hp p e R s m args below meth c H1 locs1 ls Q C F1 (fun hlt => ?_) hl hq
  rw [hex hlt v κ' S' hp, ← Nat.add_assoc, ← Nat.add_assoc, X (by omega)]
theorem ev_callIN {M' : it_M} {d' i b n : Nat} {As st0 : List Value} {P' : Option Value → it_KK → it_SS → Prop} (hd : decode M.2.1 pc = .ok (.invokespecial i, 3)) (hm : it_miN M.1.cls i M' n) (hn : As.length = n) (hs : st0 = As.reverse ++ .ref b :: st) (hst : (st.map fun v => v.category).sum ≤ 8) (hdd : d' + 1 ≤ d) (hc : kc + M'.2.2.2.2.1 ≤ M.2.2.2.2.1) (hcs : ks + M'.2.2.2.2.2 ≤ M.2.2.2.2.2)
    (hC : it_Cn g l d' M' (.ref b :: As) κ S P') (hex : kc + M'.2.2.2.2.1 < 1000 → ∀ v κ' S', P' v κ' S' → κ'.1 = κ.1 + M'.2.2.2.2.1) (kk : ∀ v κ' S', P' v κ' S' → it_Ev g l d M (kc + M'.2.2.2.2.1) (ks + M'.2.2.2.2.2) (pc + 3) L (v.toList ++ st) κ' S' P) : it_Ev g l d M kc ks pc L st0 κ S P := by
  intro p e R s m args below meth c H locs ls Q C F X hl hq
  subst hs
  refine it_after (rest := st) (P' := P') (va_runIN (host := "IcedTooSoon") (As := As.map (it_tr g)) (Ts := it_tb) (own := M.1.cls) (b := g.1 + b) ⟨C.1, C.2.1, C.2.2.1, C.2.2.2.1, C.2.2.2.2.1⟩ hC
    ⟨va_cnB n C.2.2.2.2.1 (it_gi hm.1) (by rw [it_wds, hm.2.2.2.2]) rfl rfl (F.2.2.2.2.1.1.2.2.2 _ hm.2.1) (C.2.2.2.2.1 _ hm.1.2.1) hm.1.2.2.1 (it_room hm.1 hdd C.2.2.2.2.2.2.1 C.2.2.2.2.2.2.2.1), hm.2.2.2.1, C.2.2.2.2.1 _ hm.2.2.1⟩
    ⟨it_blind, fun U hU hW => ⟨rfl, F.wd hU hW⟩⟩ rfl (by rw [List.length_map]; exact hn) hl.1 (by simp [it_tr]) (lv_room (by rw [it_rest]; exact hst)) hd ⟨Nat.le_trans hc C.2.2.2.2.2.2.2.2.1, Nat.le_trans hcs C.2.2.2.2.2.2.2.2.2⟩) F (fun v κ' S' H1 locs1 hp F1 => ?_)
  refine kk v κ' S' hp p e R s m args below meth c H1 locs1 ls Q C F1 (fun hlt => ?_) hl hq
  rw [hex hlt v κ' S' hp, ← Nat.add_assoc, ← Nat.add_assoc, X (by omega)]
theorem ev_objInit {i b : Nat} (hd : decode M.2.1 pc = .ok (.invokespecial i, 3)) (hm : Cond.methodLink M.1.cls i Lib.objectInit ∈ it_tb ∧ Cond.instanceMethod Lib.objectInit ∈ it_tb ∧ Cond.code Lib.objectInit ⟨#[0xb1]⟩ 1 none ∈ it_tb) (hst : (st.map fun v => v.category).sum ≤ 8) (hdd : 1 ≤ d) (kk : it_Ev g l d M kc ks (pc + 3) L st κ S P) : it_Ev g l d M kc ks pc L (.ref b :: st) κ S P := by
  intro p e R s m args below meth c H locs ls Q C F X hl hq
  have h4 := C.2.2.2.2.2.2.2.1
  refine W.objInit C.1 C.2.1 C.2.2.2.1 (C.2.2.2.2.1 _ hm.1) (C.2.2.2.2.1 _ hm.2.1) (C.2.2.2.2.1 _ hm.2.2) rfl (by rw [C.2.2.1]; exact hl.1) rfl hd (Nat.le_trans hdd C.2.2.2.2.2.2.1) ?_ (W.eq (g2 := F0 m (pc + 3) ls (st.map (it_tr g))) rfl (kk p e R s m args below meth c H locs ls Q C F X hl hq))
  have h5 := lv_room (m := m) (pc := pc) (ls := ls) (rest := .ref (g.1 + b) :: st.map (it_tr g)) (st := st.map (it_tr g)) (by rw [it_rest]; exact hst)
  show _ + 12 ≤ R.locals
  exact Nat.le_trans (Nat.add_le_add_right h5 12) (by omega)
theorem ev_widen {kc1 ks1 : Nat} (h1 : kc ≤ kc1) (h2 : ks ≤ ks1) (h3 : 1000 ≤ kc1) (kk : it_Ev g l d M kc1 ks1 pc L st κ S P) : it_Ev g l d M kc ks pc L st κ S P := fun p e R s m args below meth c H locs ls Q C F X hl hq => W.widen h1 h2 (kk p e R s m args below meth c H locs ls Q C F (fun h => absurd h (by omega)) hl hq)
/-! what was there before the run -/
theorem ev_sld {i : Int32} (hd : decode M.2.1 pc = .ok (.iaload, 1)) (hi : vp_in i g.2.2.2.2.1) (kk : it_Ev g l d M kc ks (pc + 1) L (.int (g.2.2.2.2.2 i.toNatClampNeg) :: st) κ S P) : it_Ev g l d M kc ks pc L (.int i :: .retAddr 0 :: st) κ S P := by
  intro p e R s m args below meth c H locs ls Q C F X hl hq
  exact va_sld C.1 C.2.1 F.2.2.2.2.1.2.1 F.2.2.2.2.1.2.2.2.1 (Nat.not_le.mpr F.2.2.2.2.1.2.2.1) F.2.2.2.2.2 hi hd (kk p e R s m args below meth c H locs ls Q C F X hl hq)
theorem ev_slen (hd : decode M.2.1 pc = .ok (.arraylength, 1)) (kk : it_Ev g l d M kc ks (pc + 1) L (.int (Int32.ofNat g.2.2.2.2.1) :: st) κ S P) : it_Ev g l d M kc ks pc L (.retAddr 0 :: st) κ S P := by
  intro p e R s m args below meth c H locs ls Q C F X hl hq
  exact va_slen C.1 C.2.1 F.2.2.2.2.1.2.1 F.2.2.2.2.1.2.2.2.1 (Nat.not_le.mpr F.2.2.2.2.1.2.2.1) F.2.2.2.2.2 hd (kk p e R s m args below meth c H locs ls Q C F X hl hq)
theorem it_fr.tx {s : State} {H : Heap} {locs : List Loc} (F : it_fr g κ S s H locs) : vk_S 3 it_lens it_bytes (fun i => g.2.2.2.1 (1 + i)) (fun i => g.2.2.2.1 (4 + i)) (it_A g) s s.heap := F.2.2.2.2.1.2.2.2.2.1
theorem it_fr.rest {s : State} {H : Heap} {locs : List Loc} (F : it_fr g κ S s H locs) :
    vk_R "IcedTooSoon" 49 it_txt0 (g.2.2.2.1 1) s ∧ vk_R "IcedTooSoon$Tape" 104 it_txt1 (g.2.2.2.1 2) s ∧ vk_R "IcedTooSoon$Tape" 90 it_txt2 (g.2.2.2.1 3) s ∧
  va_Z "IcedTooSoon" "KIND_ABOVE" "[I" (.ref (g.2.2.2.1 7)) (it_A g) s s.heap ∧ va_T .int (g.2.2.2.1 7) 6 (fun j => .int (it_above.getD j 0)) (it_A g) s s.heap ∧
  va_Z "IcedTooSoon$Tape" "WORD_AT" "[I" (.ref (g.2.2.2.1 8)) (it_A g) s s.heap ∧ va_T .int (g.2.2.2.1 8) 13 (fun j => .int (it_wordAt.getD j 0)) (it_A g) s s.heap ∧
  va_Z "java/lang/String" "COMPACT_STRINGS" "Z" (.int 1) (it_A g) s s.heap ∧ (va_Z "jdk/internal/util/Preconditions" "SIOOBE_FORMATTER" "Ljava/util/function/BiFunction;" .null (it_A g) s s.heap ∨ va_Z "jdk/internal/util/Preconditions" "SIOOBE_FORMATTER" "Ljava/util/function/BiFunction;" (.ref (g.2.2.2.1 9)) (it_A g) s s.heap) := F.2.2.2.2.1.2.2.2.2.2
theorem ev_ldc0 (hown : M.1.cls = "IcedTooSoon") (hd : decode M.2.1 pc = .ok (.ldc 49, 2)) (kk : it_Ev g l d M kc ks (pc + 2) L (.retAddr 1 :: st) κ S P) : it_Ev g l d M kc ks pc L st κ S P := fun p e R s m args below meth c H locs ls Q C F X hl hq =>
  va_ldcS (own := "IcedTooSoon") C.1 C.2.1 (by rw [← hown]; exact C.2.2.2.1) F.rest.1 hd (kk p e R s m args below meth c H locs ls Q C F X hl hq)
theorem ev_ldc1 (hown : M.1.cls = "IcedTooSoon$Tape") (hd : decode M.2.1 pc = .ok (.ldc 104, 2)) (kk : it_Ev g l d M kc ks (pc + 2) L (.retAddr 2 :: st) κ S P) : it_Ev g l d M kc ks pc L st κ S P := fun p e R s m args below meth c H locs ls Q C F X hl hq =>
  va_ldcS (own := "IcedTooSoon$Tape") C.1 C.2.1 (by rw [← hown]; exact C.2.2.2.1) F.rest.2.1 hd (kk p e R s m args below meth c H locs ls Q C F X hl hq)
theorem ev_ldcs2 (hown : M.1.cls = "IcedTooSoon$Tape") (hd : decode M.2.1 pc = .ok (.ldc 90, 2)) (kk : it_Ev g l d M kc ks (pc + 2) L (.retAddr 3 :: st) κ S P) : it_Ev g l d M kc ks pc L st κ S P := fun p e R s m args below meth c H locs ls Q C F X hl hq =>
  va_ldcS (own := "IcedTooSoon$Tape") C.1 C.2.1 (by rw [← hown]; exact C.2.2.2.1) F.rest.2.2.1 hd (kk p e R s m args below meth c H locs ls Q C F X hl hq)
theorem ev_above {i : Nat} (hd : decode M.2.1 pc = .ok (.getstatic i, 3)) (hm : Cond.fieldLink M.1.cls i "IcedTooSoon" "KIND_ABOVE" "[I" ∈ it_tb) (kk : it_Ev g l d M kc ks (pc + 3) L (.retAddr 7 :: st) κ S P) : it_Ev g l d M kc ks pc L st κ S P := fun p e R s m args below meth c H locs ls Q C F X hl hq =>
  va_gets C.1 C.2.1 F.rest.2.2.2.1 F.2.2.2.2.2 C.2.2.2.1 (C.2.2.2.2.1 _ hm) (fun _ h => h) hd (kk p e R s m args below meth c H locs ls Q C F X hl hq)
theorem ev_wordAt {i : Nat} (hd : decode M.2.1 pc = .ok (.getstatic i, 3)) (hm : Cond.fieldLink M.1.cls i "IcedTooSoon$Tape" "WORD_AT" "[I" ∈ it_tb) (kk : it_Ev g l d M kc ks (pc + 3) L (.retAddr 8 :: st) κ S P) : it_Ev g l d M kc ks pc L st κ S P := fun p e R s m args below meth c H locs ls Q C F X hl hq =>
  va_gets C.1 C.2.1 F.rest.2.2.2.2.2.1 F.2.2.2.2.2 C.2.2.2.1 (C.2.2.2.2.1 _ hm) (fun _ h => h) hd (kk p e R s m args below meth c H locs ls Q C F X hl hq)
theorem ev_compact {i : Nat} (hd : decode M.2.1 pc = .ok (.getstatic i, 3)) (hm : Cond.fieldLink M.1.cls i "java/lang/String" "COMPACT_STRINGS" "Z" ∈ it_tb) (kk : it_Ev g l d M kc ks (pc + 3) L (.int 1 :: st) κ S P) : it_Ev g l d M kc ks pc L st κ S P := fun p e R s m args below meth c H locs ls Q C F X hl hq =>
  va_gets C.1 C.2.1 F.rest.2.2.2.2.2.2.2.1 F.2.2.2.2.2 C.2.2.2.1 (C.2.2.2.2.1 _ hm) (fun _ h => h) hd (kk p e R s m args below meth c H locs ls Q C F X hl hq)
theorem ev_iald7 {i : Int32} (hd : decode M.2.1 pc = .ok (.iaload, 1)) (hi : vp_in i 6) (kk : it_Ev g l d M kc ks (pc + 1) L (.int (it_above.getD i.toNatClampNeg 0) :: st) κ S P) : it_Ev g l d M kc ks pc L (.int i :: .retAddr 7 :: st) κ S P := fun p e R s m args below meth c H locs ls Q C F X hl hq =>
  va_ti C.1 C.2.1 F.rest.2.2.2.2.1 F.2.2.2.2.2 hi rfl hd (kk p e R s m args below meth c H locs ls Q C F X hl hq)
theorem ev_iald8 {i : Int32} (hd : decode M.2.1 pc = .ok (.iaload, 1)) (hi : vp_in i 13) (kk : it_Ev g l d M kc ks (pc + 1) L (.int (it_wordAt.getD i.toNatClampNeg 0) :: st) κ S P) : it_Ev g l d M kc ks pc L (.int i :: .retAddr 8 :: st) κ S P := fun p e R s m args below meth c H locs ls Q C F X hl hq =>
  va_ti C.1 C.2.1 F.rest.2.2.2.2.2.2.1 F.2.2.2.2.2 hi rfl hd (kk p e R s m args below meth c H locs ls Q C F X hl hq)
theorem ev_bald {t : Nat} {i : Int32} (ht : t < 3) (hd : decode M.2.1 pc = .ok (.baload, 1)) (hi : vp_in i (it_lens.getD t 0)) (kk : it_Ev g l d M kc ks (pc + 1) L (.int ((it_bytes.getD t []).getD i.toNatClampNeg 0) :: st) κ S P) : it_Ev g l d M kc ks pc L (.int i :: .retAddr (4 + t) :: st) κ S P := fun p e R s m args below meth c H locs ls Q C F X hl hq =>
  va_tb C.1 C.2.1 (F.tx.1 t ht).2.2.2 F.2.2.2.2.2 hi rfl hd (kk p e R s m args below meth c H locs ls Q C F X hl hq)
theorem ev_blen {t : Nat} (ht : t < 3) (hd : decode M.2.1 pc = .ok (.arraylength, 1)) (kk : it_Ev g l d M kc ks (pc + 1) L (.int (Int32.ofNat (it_lens.getD t 0)) :: st) κ S P) : it_Ev g l d M kc ks pc L (.retAddr (4 + t) :: st) κ S P := fun p e R s m args below meth c H locs ls Q C F X hl hq =>
  va_tlen C.1 C.2.1 (F.tx.1 t ht).2.2.2 F.2.2.2.2.2 rfl hd (kk p e R s m args below meth c H locs ls Q C F X hl hq)
theorem ev_coder {t i : Nat} (ht : t < 3) (hd : decode M.2.1 pc = .ok (.getfield i, 3)) (hm : Cond.fieldLink M.1.cls i "java/lang/String" "coder" "B" ∈ it_tb) (kk : it_Ev g l d M kc ks (pc + 3) L (.int 0 :: st) κ S P) : it_Ev g l d M kc ks pc L (.retAddr (1 + t) :: st) κ S P := fun p e R s m args below meth c H locs ls Q C F X hl hq =>
  vk_getf C.1 C.2.1 (F.tx.1 t ht).2.1 F.2.2.2.2.2 C.2.2.2.1 (C.2.2.2.2.1 _ hm) (fun _ h => h) hd (kk p e R s m args below meth c H locs ls Q C F X hl hq)
theorem ev_value {t i : Nat} (ht : t < 3) (hd : decode M.2.1 pc = .ok (.getfield i, 3)) (hm : Cond.fieldLink M.1.cls i "java/lang/String" "value" "[B" ∈ it_tb) (kk : it_Ev g l d M kc ks (pc + 3) L (.retAddr (4 + t) :: st) κ S P) : it_Ev g l d M kc ks pc L (.retAddr (1 + t) :: st) κ S P := fun p e R s m args below meth c H locs ls Q C F X hl hq =>
  vk_getf C.1 C.2.1 (F.tx.1 t ht).2.2.1 F.2.2.2.2.2 C.2.2.2.1 (C.2.2.2.2.1 _ hm) (fun _ h => h) hd (kk p e R s m args below meth c H locs ls Q C F X hl hq)
theorem ev_callO {M' : it_M} {d' i t n : Nat} {As st0 : List Value} {P' : Option Value → it_KK → it_SS → Prop} (ht : t < 3) (hd : decode M.2.1 pc = .ok (.invokevirtual i, 3)) (hm : it_mv M.1.cls i M' n) (hci : M'.1.cls = "java/lang/String") (hn : As.length = n) (hs : st0 = As.reverse ++ .retAddr (1 + t) :: st) (hst : (st.map fun v => v.category).sum ≤ 8) (hdd : d' + 1 ≤ d) (hc : kc + M'.2.2.2.2.1 ≤ M.2.2.2.2.1) (hcs : ks + M'.2.2.2.2.2 ≤ M.2.2.2.2.2)
    (hC : it_Cn g l d' M' (.retAddr (1 + t) :: As) κ S P') (hex : kc + M'.2.2.2.2.1 < 1000 → ∀ v κ' S', P' v κ' S' → κ'.1 = κ.1 + M'.2.2.2.2.1) (kk : ∀ v κ' S', P' v κ' S' → it_Ev g l d M (kc + M'.2.2.2.2.1) (ks + M'.2.2.2.2.2) (pc + 3) L (v.toList ++ st) κ' S' P) : it_Ev g l d M kc ks pc L st0 κ S P := by
  intro p e R s m args below meth c H locs ls Q C F X hl hq
  subst hs
  refine it_after (rest := st) (P' := P') (va_runV (As := As.map (it_tr g)) (C := M'.1.cls) (Ts := it_tb) (own := M.1.cls) (b := g.2.2.2.1 (1 + t)) ⟨C.1, C.2.1, C.2.2.1, C.2.2.2.1, C.2.2.2.2.1⟩ hC
    (cwV n C.2.2.2.2.1 (fun w hw => ?_) rfl rfl rfl ⟨rfl, hm.1.2.2.1⟩ (it_room hm.1 hdd C.2.2.2.2.2.2.1 C.2.2.2.2.2.2.2.1))
    ⟨it_blind, ?_, fun U hU hW => ⟨rfl, F.wd hU hW⟩⟩ rfl (by rw [List.length_map]; exact hn) hl.1 (by simp [it_tr]) (lv_room (by rw [it_rest]; exact hst)) hd ⟨Nat.le_trans hc C.2.2.2.2.2.2.2.2.1, Nat.le_trans hcs C.2.2.2.2.2.2.2.2.2⟩) F (fun v κ' S' H1 locs1 hp F1 => ?_)
  · rcases List.mem_append.mp hw with h | h
    · rcases List.mem_cons.mp h with rfl | h
      · exact it_good _ hm.2.1
      · rcases List.mem_cons.mp h with rfl | h
        · exact it_good _ hm.2.2.1
        · rcases List.mem_cons.mp h with rfl | h
          · exact it_good _ hm.2.2.2
          · rcases List.mem_cons.mp h with rfl | h
            · exact it_good _ hm.1.2.1
            · exact absurd h List.not_mem_nil
    · exact it_gi hm.1 w h
  · rw [hci]
    exact vk_recv (adK := fun i => g.2.2.2.1 (1 + i)) (i := t) F.tx ht F.2.2.2.2.2
  · refine kk v κ' S' hp p e R s m args below meth c H1 locs1 ls Q C F1 (fun hlt => ?_) hl hq
    rw [hex hlt v κ' S' hp, ← Nat.add_assoc, ← Nat.add_assoc, X (by omega)]
theorem ev_fmt {i : Nat} (hd : decode M.2.1 pc = .ok (.getstatic i, 3)) (hm : Cond.fieldLink M.1.cls i "jdk/internal/util/Preconditions" "SIOOBE_FORMATTER" "Ljava/util/function/BiFunction;" ∈ it_tb) (kk : ∀ v : Value, v = .null ∨ v = .retAddr 9 → it_Ev g l d M kc ks (pc + 3) L (v :: st) κ S P) : it_Ev g l d M kc ks pc L st κ S P := by
  intro p e R s m args below meth c H locs ls Q C F X hl hq
  rcases F.rest.2.2.2.2.2.2.2.2 with h | h
  · exact va_gets C.1 C.2.1 h F.2.2.2.2.2 C.2.2.2.1 (C.2.2.2.2.1 _ hm) (fun _ h => h) hd (kk .null (Or.inl rfl) p e R s m args below meth c H locs ls Q C F X hl hq)
  · exact va_gets C.1 C.2.1 h F.2.2.2.2.2 C.2.2.2.1 (C.2.2.2.2.1 _ hm) (fun _ h => h) hd (kk (.retAddr 9) (Or.inr rfl) p e R s m args below meth c H locs ls Q C F X hl hq)
end ITC
