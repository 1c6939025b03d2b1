/-! THE CLAIM OUT OF ONE WALK OF THE LAW'S BODY. Your part is whole_start (and what it stands on); all else here is the same for every law, but numbers. -/
def R_law : String := "IcedTooSoonLaw"
def lw_P (b : Addr) (xs : List Int32) (args : Array Value) (s : State) : Prop := args = #[.ref b] ∧ s.IntsAt b xs ∧ xs.length ≤ 3584 ∧ (Jvm.Cond.and given_1 narrow_1).before args s = true
def lw_Q (_ : Array Value) (s : State) (o : Outcome) (t : State) : Prop := o = .returned (some (.int 1)) ∧ Framed s o t [] 600000 7302249
def lw_Z (below : List Frame) (a : Array Value) (s : State) : State → Prop := fun t => ∃ o, t.status = .running ∧ Ended t below o ∧ lw_Q a s o t
/-- the law's own end, with 1 on the stack, nothing written that was there before, its room as the claim has it -/
theorem lw_ret {p : Program} {l : Launch} {e : Env} {s : State} {m : MethodId} {below : List Frame} {meth : Method} {c : Code} {b : Nat} (hx : p.tables.exec = Jvm.exec) (hb : c.code = code) (hr : meth.sig.returnType = ret) (hlocks : meth.locks = false) {pc : Nat} {H : Heap} {ls : Array Slot} (hdg : decode code pc = .ok (.ireturn, 1)) : W p l e room_1 s m #[Value.ref b] below meth c H [] 600000 7302249 (lw_Z below #[Value.ref b] s) (F0 m pc ls [.int 1]) := by
  intro T hT X
  obtain ⟨fs, hret, hrun, hended, hW, hframe⟩ := X.leave (v := some (.int 1)) (hlocks := hlocks) (fun h => by rw [hr] at h; cases h)
  have hmeth' : T.vm.method? m = some meth := X.method'
  refine ⟨T.setFrames fs, ?_, .returned (some (.int 1)), hrun, hended, rfl, ⟨_, rfl⟩, hW, hframe⟩
  jvm_step X.here [X.here.top, hx, hb, hdg, hmeth', hr, ret, narrow_b1]
  (try refine ⟨rfl, ?_⟩); (try refine ⟨rfl, ?_⟩)
  first | (intro acts; rw [hret _ acts rfl rfl rfl]) | rw [hret _ _ rfl rfl rfl]
  exact Steps.refl _
/-- what holds at the law's entry: the machine, the code, the tables' words (any of lw_tbl by 'hts w (by decide +kernel)'), the script of L ints xs at the cell b, what the Statement gives of the start (any of its parts by flat_of_before) -/
def lw_At (p : Program) (s : State) (m : MethodId) (meth : Method) (c : Code) (b L : Nat) (xs : Nat → Int32) : Prop :=
  p.tables.exec = Jvm.exec ∧ c.code = code ∧ meth.sig.returnType = ret ∧ c.maxLocals = 4 ∧ s.vm.findClass R_law = some m.cls ∧ (∀ w ∈ lw_tbl, w.before #[Value.ref b] s = true) ∧ va_X b L xs s s.heap ∧ b < s.heap.size ∧ meth.locks = false ∧ (Jvm.Cond.and given_1 narrow_1).before #[Value.ref b] s = true
def it_tm (i : Nat) : Term := if i = 0 then .string "IcedTooSoon" 49 else if i = 1 then .string "IcedTooSoon$Tape" 104 else .string "IcedTooSoon$Tape" 90
abbrev it_fl0 : List Cond := flatC (Jvm.Cond.and given_1 narrow_1)
theorem m_ex : ∀ i, i < 3 → Cond.exactly (it_tm i) "java/lang/String" ∈ it_fl0 := by decide +kernel
theorem m_co : ∀ i, i < 3 → Cond.eq (.field (it_tm i) "java/lang/String" "coder" "B") (.int 0) ∈ it_fl0 := by decide +kernel
theorem m_ar : ∀ i, i < 3 → Cond.arrayOf (.field (it_tm i) "java/lang/String" "value" "[B") .byte ∈ it_fl0 := by decide +kernel
theorem m_le : ∀ i, i < 3 → Cond.eq (.length (.field (it_tm i) "java/lang/String" "value" "[B")) (.int (Int32.ofNat (it_lens.getD i 0))) ∈ it_fl0 := by decide +kernel
theorem m_el : ∀ i, i < 3 → ∀ j, j < it_lens.getD i 0 → Cond.eq (.elem (.field (it_tm i) "java/lang/String" "value" "[B") (.int (Int32.ofNat j))) (.int ((it_bytes.getD i []).getD j 0)) ∈ it_fl0 := by decide +kernel
theorem m_ne : ∀ i, i < 3 → ∀ j, j < 3 → i ≠ j → Cond.not (Cond.eq (it_tm i) (it_tm j)) ∈ it_fl0 ∨ Cond.not (Cond.eq (it_tm j) (it_tm i)) ∈ it_fl0 := by decide +kernel
theorem m_ka : Cond.arrayOf (.static "IcedTooSoon" "KIND_ABOVE" "[I") .int ∈ it_fl0 ∧ Cond.eq (.length (.static "IcedTooSoon" "KIND_ABOVE" "[I")) (.int (Int32.ofNat 6)) ∈ it_fl0 := by decide +kernel
theorem m_kb : ∀ j, j < 6 → Cond.eq (.elem (.static "IcedTooSoon" "KIND_ABOVE" "[I") (.int (Int32.ofNat j))) (.int (it_above.getD j 0)) ∈ it_fl0 := by decide +kernel
theorem m_wa : Cond.arrayOf (.static "IcedTooSoon$Tape" "WORD_AT" "[I") .int ∈ it_fl0 ∧ Cond.eq (.length (.static "IcedTooSoon$Tape" "WORD_AT" "[I")) (.int (Int32.ofNat 13)) ∈ it_fl0 := by decide +kernel
theorem m_wb : ∀ j, j < 13 → Cond.eq (.elem (.static "IcedTooSoon$Tape" "WORD_AT" "[I") (.int (Int32.ofNat j))) (.int (it_wordAt.getD j 0)) ∈ it_fl0 := by decide +kernel
theorem m_cs : Cond.eq (.static "java/lang/String" "COMPACT_STRINGS" "Z") (.int 1) ∈ it_fl0 := by decide +kernel
theorem m_fm : Cond.isRef (.static "jdk/internal/util/Preconditions" "SIOOBE_FORMATTER" "Ljava/util/function/BiFunction;") ∈ it_fl0 := by decide +kernel
set_option maxHeartbeats 4000000 in
theorem it_begins {s : State} {b L : Nat} {xs : Nat → Int32} (hts : ∀ w ∈ lw_tbl, w.before #[Value.ref b] s = true) (hX : va_X b L xs s s.heap) (hbl : b < s.heap.size) (hgv : (Jvm.Cond.and given_1 narrow_1).before #[Value.ref b] s = true) : ∃ g : it_G, g.1 = s.heap.size ∧ g.2.2.2.1 0 = b ∧ g.2.2.2.2 = (L, xs) ∧ va_K g.2.1 it_cl (it_tys g) s ∧ it_old g s s.heap := by
  have hs := flat_of_before _ hgv
  have hw : ∀ (i : Nat) (w : Cond), lw_tbl[i]? = some w → w.before #[Value.ref b] s = true := fun i w h => hts w (List.mem_of_getElem? h)
  have hAz : ∀ a : Nat, a < s.heap.size → ¬ (fun q : Nat => s.heap.size ≤ q) a := fun a ha => Nat.not_le.mpr ha
  obtain ⟨c0, iS0, hKn0⟩ := u_known (C := it_R0) (T := it_F0) (N := 11) (n := 11) hts it_i0 (hw 138 _ (by decide +kernel))
  obtain ⟨c1, iS1, hKn1⟩ := u_known (C := it_R1) (T := it_F1) (N := 4) (n := 4) hts it_i1 (hw 79 _ (by decide +kernel))
  obtain ⟨c2, iS2, hKn2⟩ := u_known (C := it_R2) (T := it_F2) (N := 3) (n := 3) hts it_i2 (hw 192 _ (by decide +kernel))
  obtain ⟨c3, iS3, hKn3⟩ := u_known (C := it_R3) (T := it_F3) (N := 9) (n := 9) hts it_i3 (hw 102 _ (by decide +kernel))
  obtain ⟨c4, iS4, hKn4⟩ := u_known (C := it_R4) (T := it_F4) (N := 2) (n := 2) hts it_i4 (hw 385 _ (by decide +kernel))
  obtain ⟨c5, iS5, hKn5⟩ := u_known (C := it_R5) (T := it_F5) (N := 7) (n := 7) hts it_i5 (hw 71 _ (by decide +kernel))
  obtain ⟨c6, iS6, hKn6⟩ := u_known (C := it_R6) (T := it_F6) (N := 34) (n := 34) hts it_i6 (hw 805 _ (by decide +kernel))
  obtain ⟨dC, dI, hKc⟩ : ∃ (dC : Nat → ClassId) (dI : Nat → Nat → Nat), ∀ (k : Nat) (q : vw_C), it_cl[k]? = some q → u_Kn s q.1 q.2.1 q.2.2 (dC k) (dI k) := by
    refine ⟨fun k => if k = 0 then c0 else if k = 1 then c1 else if k = 2 then c2 else if k = 3 then c3 else if k = 4 then c4 else if k = 5 then c5 else c6, fun k => if k = 0 then iS0 else if k = 1 then iS1 else if k = 2 then iS2 else if k = 3 then iS3 else if k = 4 then iS4 else if k = 5 then iS5 else iS6, ?_⟩
    intro k q hq
    match k, hq with
    | 0, hq => cases hq; exact hKn0
    | 1, hq => cases hq; exact hKn1
    | 2, hq => cases hq; exact hKn2
    | 3, hq => cases hq; exact hKn3
    | 4, hq => cases hq; exact hKn4
    | 5, hq => cases hq; exact hKn5
    | 6, hq => cases hq; exact hKn6
    | k + 7, hq => simp [it_cl] at hq
  obtain ⟨cA0, kA0, comp0, a1, a2, a3⟩ := Cond.arrayClass_spec (args := #[Value.ref b]) (first := s) (o := none) (s := s) (idx := []) (type := .int) (hw 100 _ (by decide +kernel))
  obtain ⟨comp1, cA1, kA1, b1, -, b2, b3, b4⟩ := Cond.arrayOver_spec (args := #[Value.ref b]) (first := s) (o := none) (s := s) (idx := []) (n := it_R4) (hw 85 _ (by decide +kernel))
  obtain ⟨comp2, cA2, kA2, e1, -, e2, e3, e4⟩ := Cond.arrayOver_spec (args := #[Value.ref b]) (first := s) (o := none) (s := s) (idx := []) (n := it_R2) (hw 191 _ (by decide +kernel))
  obtain ⟨adK, adV, hSt, hEv⟩ := vk_Sof (args := #[Value.ref b]) (s := s) (N := 3) (tm := it_tm) (len := it_lens) (byt := it_bytes) (A := fun q : Nat => s.heap.size ≤ q) (by decide) (fun i hi => hs _ (m_ex i hi)) (fun i hi => hs _ (m_co i hi)) (fun i hi => hs _ (m_ar i hi)) (fun i hi => hs _ (m_le i hi)) (fun i hi j hj => hs _ (m_el i hi j hj)) (fun i j hi hj hne => (m_ne i hi j hj hne).elim (fun h => Or.inl (hs _ h)) (fun h => Or.inr (hs _ h))) hAz
  obtain ⟨tK, ktm, ktT⟩ := va_Tof (args := #[Value.ref b]) (s := s) (tm := .static "IcedTooSoon" "KIND_ABOVE" "[I") (ty := .int) (N := 6) (f := fun j => .int (it_above.getD j 0)) (A := fun q : Nat => s.heap.size ≤ q) (by decide) (hs _ m_ka.1) (va_eqt (hs _ m_ka.2)) (fun j hj => va_eqt (hs _ (m_kb j hj))) hAz
  obtain ⟨tW, wtm, wtT⟩ := va_Tof (args := #[Value.ref b]) (s := s) (tm := .static "IcedTooSoon$Tape" "WORD_AT" "[I") (ty := .int) (N := 13) (f := fun j => .int (it_wordAt.getD j 0)) (A := fun q : Nat => s.heap.size ≤ q) (by decide) (hs _ m_wa.1) (va_eqt (hs _ m_wa.2)) (fun j hj => va_eqt (hs _ (m_wb j hj))) hAz
  have zK := va_Zref (A := fun q : Nat => s.heap.size ≤ q) (hw 803 _ (by decide +kernel)) (hw 54 _ (by decide +kernel)) ktm hAz
  have zW := va_Zref (A := fun q : Nat => s.heap.size ≤ q) (hw 283 _ (by decide +kernel)) (hw 56 _ (by decide +kernel)) wtm hAz
  have zC := va_Zof (A := fun q : Nat => s.heap.size ≤ q) (hw 220 _ (by decide +kernel)) (hw 60 _ (by decide +kernel)) (va_eqi (hs _ m_cs)) hAz
  obtain ⟨tF, zF⟩ : ∃ tF : Nat, va_Z "jdk/internal/util/Preconditions" "SIOOBE_FORMATTER" "Ljava/util/function/BiFunction;" .null (fun q : Nat => s.heap.size ≤ q) s s.heap ∨ va_Z "jdk/internal/util/Preconditions" "SIOOBE_FORMATTER" "Ljava/util/function/BiFunction;" (.ref tF) (fun q : Nat => s.heap.size ≤ q) s s.heap := by
    rcases va_Zqof (A := fun q : Nat => s.heap.size ≤ q) (hw 236 _ (by decide +kernel)) (hw 62 _ (by decide +kernel)) (hs _ m_fm) hAz with h | ⟨t, h⟩
    · exact ⟨0, Or.inl h⟩
    · exact ⟨t, Or.inr h⟩
  obtain ⟨ad, h0, hk1, hk2, h7, h8, h9⟩ : ∃ ad : Nat → Nat, ad 0 = b ∧ (∀ i, i < 3 → ad (1 + i) = adK i) ∧ (∀ i, i < 3 → ad (4 + i) = adV i) ∧ ad 7 = tK ∧ ad 8 = tW ∧ ad 9 = tF := by
    refine ⟨fun k => if k = 0 then b else if k < 4 then adK (k - 1) else if k < 7 then adV (k - 4) else if k = 7 then tK else if k = 8 then tW else tF, rfl, fun i hi => ?_, fun i hi => ?_, rfl, rfl, rfl⟩
    · show (if 1 + i = 0 then b else if 1 + i < 4 then adK (1 + i - 1) else _) = _
      rw [if_neg (by omega), if_pos (by omega), Nat.add_sub_cancel_left]
    · show (if 4 + i = 0 then b else if 4 + i < 4 then _ else if 4 + i < 7 then adV (4 + i - 4) else _) = _
      rw [if_neg (by omega), if_neg (by omega), if_pos (by omega), Nat.add_sub_cancel_left]
  refine ⟨(s.heap.size, (dC, dI), (fun k => if k = 0 then cA0 else if k = 1 then cA1 else cA2), ad, (L, xs)), rfl, h0, rfl, ⟨hKc, fun k q hq => ?_⟩, ?_⟩
  · match k, hq with
    | 0, hq =>
      cases hq
      exact ⟨fun n z => ⟨fun k h => (by cases h), kA0, a2, comp0, a3⟩, a1⟩
    | 1, hq =>
      cases hq
      exact ⟨fun n z => ⟨fun k h => (by cases h), kA1, b2, comp1, b3⟩, kA1, comp1, b2, b3, b1, b4⟩
    | 2, hq =>
      cases hq
      exact ⟨fun n z => ⟨fun k h => (by cases h), kA2, e2, comp2, e3⟩, kA2, comp2, e2, e3, e1, e4⟩
    | k + 3, hq => simp [it_tys] at hq
  · refine ⟨⟨va_AO.of (hw 85 _ (by decide +kernel)), va_AO.of (hw 191 _ (by decide +kernel)), va_Nw.of rfl (hw 394 _ (by decide +kernel)), fun q hq => ?_⟩, ?_, ?_, ?_, ⟨fun i hi => ?_, fun i j hi hj e => ?_⟩, ?_, ?_, ?_, ?_, ?_, ?_, ?_, zC, ?_⟩
    · simp only [it_nests, List.mem_cons, List.not_mem_nil, or_false] at hq
      rcases hq with rfl | rfl | rfl | rfl | rfl | rfl
      · exact va_Nw.of rfl (hw 80 _ (by decide +kernel))
      · exact va_Nw.of rfl (hw 103 _ (by decide +kernel))
      · exact va_Nw.of rfl (hw 193 _ (by decide +kernel))
      · exact va_Nw.of rfl (hw 499 _ (by decide +kernel))
      · exact va_Nw.of rfl (hw 510 _ (by decide +kernel))
      · exact va_Nw.of rfl (hw 523 _ (by decide +kernel))
    · show va_X (ad 0) L xs s s.heap
      rw [h0]
      exact hX
    · show ad 0 < s.heap.size
      rw [h0]
      exact hbl
    · show ad 0 < s.heap.size
      rw [h0]
      exact hbl
    · show va_O "java/lang/String" (ad (1 + i)) _ s s.heap ∧ va_OF "java/lang/String" "coder" "B" (.int 0) (ad (1 + i)) _ s s.heap ∧ va_OF "java/lang/String" "value" "[B" (.ref (ad (4 + i))) (ad (1 + i)) _ s s.heap ∧ va_T .byte (ad (4 + i)) (it_lens.getD i 0) (fun j => .int ((it_bytes.getD i []).getD j 0)) _ s s.heap
      rw [hk1 i hi, hk2 i hi]
      exact hSt.1 i hi
    · have e' : ad (1 + i) = ad (1 + j) := e
      rw [hk1 i hi, hk1 j hj] at e'
      exact hSt.2 i j hi hj e'
    · show vk_R "IcedTooSoon" 49 it_txt0 (ad 1) s
      rw [show ad 1 = adK 0 from hk1 0 (by decide)]
      exact vk_R.of (A := #[Value.ref b]) (hw 210 _ (by decide +kernel)) (hEv 0 (by decide))
    · show vk_R "IcedTooSoon$Tape" 104 it_txt1 (ad 2) s
      rw [show ad 2 = adK 1 from hk1 1 (by decide)]
      exact vk_R.of (A := #[Value.ref b]) (hw 284 _ (by decide +kernel)) (hEv 1 (by decide))
    · show vk_R "IcedTooSoon$Tape" 90 it_txt2 (ad 3) s
      rw [show ad 3 = adK 2 from hk1 2 (by decide)]
      exact vk_R.of (A := #[Value.ref b]) (hw 293 _ (by decide +kernel)) (hEv 2 (by decide))
    · show va_Z "IcedTooSoon" "KIND_ABOVE" "[I" (.ref (ad 7)) _ s s.heap
      rw [h7]
      exact zK
    · show va_T .int (ad 7) 6 _ _ s s.heap
      rw [h7]
      exact ktT
    · show va_Z "IcedTooSoon$Tape" "WORD_AT" "[I" (.ref (ad 8)) _ s s.heap
      rw [h8]
      exact zW
    · show va_T .int (ad 8) 13 _ _ s s.heap
      rw [h8]
      exact wtT
    · rcases zF with h | h
      · exact Or.inl h
      · refine Or.inr ?_
        show va_Z "jdk/internal/util/Preconditions" "SIOOBE_FORMATTER" "Ljava/util/function/BiFunction;" (.ref (ad 9)) _ s s.heap
        rw [h9]
        exact h
set_option maxHeartbeats 4000000 in
theorem whole_start {p : Program} {e : Env} {s : State} {m : MethodId} {below : List Frame} {meth : Method} {c : Code} (l : Launch) (hflags : l.flags = flags0) {b L : Nat} {xs : Nat → Int32} (hL : L ≤ 3584) (C0 : lw_At p s m meth c b L xs) : W p l e room_1 s m #[Value.ref b] below meth c s.heap [] 0 0 (lw_Z below #[Value.ref b] s) (entryFrame m ([Value.ref b] : List Value).toArray 4) := by
  obtain ⟨hx, hb, hr, hml, hown, hts, hX, hbl, hlocks, hgv⟩ := id C0
  obtain ⟨g, g1, g2, g3, hK, hO⟩ := it_begins hts hX hbl hgv
  have hent := lv_entry ([.ref b]) (n := 4) (Nat.le_of_ble_eq_true rfl)
  rw [lg_entry_eq]
  generalize (lg_sl ([.ref b]) ++ List.replicate (4 - (lg_sl ([.ref b])).length) Slot.unset).toArray = ls at hent ⊢
  have hl : lv_has ls 4 [(0, .ref b)] := hent
  have hl2 : lv_has ls 4 (it_lv g [some (.retAddr 0), none, none, none]) := by
    have e1 : it_lv g [some (.retAddr 0), none, none, none] = [(0, .ref (g.2.2.2.1 0))] := rfl
    rw [e1, g2]
    exact hl
  refine law_all (g := g) (l := l) (by rw [g3]; exact hL) p e room_1 s m #[Value.ref b] below meth c s.heap [] ls _ ⟨hx, hb, hml, hown, fun w hw => hts w (List.mem_filter.mp hw).1, fun h => absurd h (by decide), by decide, by decide, by decide, by decide⟩
    ⟨by rw [g1]; rfl, by rw [g1]; exact Nat.le_refl _, fun k q h => by simp [it_ws, kz] at h, hK, hO, va_S.rf⟩ (fun _ => by rw [g1]; rfl) hl2 ?_
  intro v κ' S' H' locs' pc' ls' hp hf hret
  subst hp
  refine va_forget (fun q hq => ?_) ?_
  · have := hf.2.2.2.2.2.2.2 q hq
    have h2 : g.1 ≤ q.base := this
    rw [g1] at h2
    exact h2
  · exact lw_ret hx hb hr hlocks hret.1
