/-! a method's run, by itself: what the machine has around it is hidden -/
abbrev it_M : Type := MethodName × ByteArray × Nat × Option FieldType × Nat × Nat
abbrev it_L : Type := List (Option Value)
def it_tr (g : it_G) : Value → Value
  | .ref k => .ref (g.1 + k)
  | .retAddr k => .ref (g.2.2.2.1 k)
  | v => v
theorem it_tr_cat (g : it_G) (v : Value) : (it_tr g v).category = v.category := by cases v <;> rfl
def it_lv (g : it_G) (L : it_L) : List (Nat × Value) := (List.range L.length).filterMap (fun i => (L[i]?.join).map (fun v => (i, it_tr g v)))
theorem it_lv_mem {g : it_G} {L : it_L} {q : Nat × Value} : q ∈ it_lv g L ↔ ∃ v, L[q.1]? = some (some v) ∧ q.2 = it_tr g v := by
  simp only [it_lv, List.mem_filterMap, List.mem_range, Option.map_eq_some_iff]
  constructor
  · rintro ⟨i, hi, v, hv, rfl⟩
    refine ⟨v, ?_, rfl⟩
    simpa [Option.join_eq_some_iff] using hv
  · rintro ⟨v, hv, h2⟩
    refine ⟨q.1, (List.getElem?_eq_some_iff.mp hv).1, v, ?_, ?_⟩
    · simp [hv]
    · rw [← h2]
def it_kill (L : it_L) (i : Nat) : it_L := match i with
  | 0 => L
  | j + 1 => match L[j]? with
    | some (some (.long _)) => L.set j none
    | some (some (.double _)) => L.set j none
    | _ => L
def it_set (L : it_L) (i : Nat) (v : Value) : it_L := (it_kill L i).set i (some v)
def it_set2 (L : it_L) (i : Nat) (v : Value) : it_L := ((it_kill L i).set (i + 1) none).set i (some v)
theorem it_kill_get {L : it_L} {i j : Nat} {w : Value} (h : (it_kill L i)[j]? = some (some w)) : L[j]? = some (some w) ∧ ¬ (j + 1 = i ∧ w.category = 2) := by
  cases i with
  | zero => exact ⟨h, fun q => by omega⟩
  | succ i =>
    by_cases hj : j = i
    · subst hj
      simp only [it_kill] at h
      split at h
      · rename_i x hx
        rw [List.getElem?_set] at h
        simp at h
      · rename_i x hx
        rw [List.getElem?_set] at h
        simp at h
      · rename_i h1 h2
        refine ⟨h, fun q => ?_⟩
        cases w with
        | long x => exact h1 x h
        | double x => exact h2 x h
        | _ => exact absurd q.2 (by simp [Value.category])
    · refine ⟨?_, fun q => hj (by omega)⟩
      simp only [it_kill] at h
      split at h
      · rw [List.getElem?_set, if_neg (fun q => hj q.symm)] at h
        exact h
      · rw [List.getElem?_set, if_neg (fun q => hj q.symm)] at h
        exact h
      · exact h
theorem it_has_set {g : it_G} {ls : Array Slot} {nL : Nat} {L : it_L} {i : Nat} {v x : Value} (hx : it_tr g v = x) (h : lv_has ls nL ((i, x) :: (it_lv g L).filter (fun q => !(q.1 == i) && !(q.1 + 1 == i && q.2.category == 2)))) : lv_has ls nL (it_lv g (it_set L i v)) := by
  refine ⟨h.1, h.2.1, fun q hq => h.2.2 q ?_⟩
  obtain ⟨w, hw, hq2⟩ := it_lv_mem.mp hq
  rw [it_set, List.getElem?_set] at hw
  by_cases hi : i = q.1
  · rw [if_pos hi] at hw
    split at hw
    · cases hw
      rw [← hx, ← hq2, hi]
      exact List.mem_cons_self
    · cases hw
  · rw [if_neg hi] at hw
    obtain ⟨h1, h2⟩ := it_kill_get hw
    refine List.mem_cons_of_mem _ (List.mem_filter.mpr ⟨it_lv_mem.mpr ⟨w, h1, hq2⟩, ?_⟩)
    rw [hq2, it_tr_cat]
    simp only [Bool.and_eq_true, Bool.not_eq_true', beq_eq_false_iff_ne, ne_eq, Bool.and_eq_false_iff]
    refine ⟨fun q => hi q.symm, ?_⟩
    by_cases h3 : q.1 + 1 = i
    · exact Or.inr (fun q => h2 ⟨h3, by simpa using q⟩)
    · exact Or.inl h3
theorem it_has_set2 {g : it_G} {ls : Array Slot} {nL : Nat} {L : it_L} {i : Nat} {v x : Value} (hx : it_tr g v = x) (h : lv_has ls nL ((i, x) :: (it_lv g L).filter (fun q => !(q.1 == i) && (!(q.1 == i + 1) && !(q.1 + 1 == i && q.2.category == 2))))) : lv_has ls nL (it_lv g (it_set2 L i v)) := by
  refine ⟨h.1, h.2.1, fun q hq => h.2.2 q ?_⟩
  obtain ⟨w, hw, hq2⟩ := it_lv_mem.mp hq
  rw [it_set2, List.getElem?_set] at hw
  by_cases hi : i = q.1
  · rw [if_pos hi] at hw
    split at hw
    · cases hw
      rw [← hx, ← hq2, hi]
      exact List.mem_cons_self
    · cases hw
  · rw [if_neg hi, List.getElem?_set] at hw
    by_cases hi2 : i + 1 = q.1
    · rw [if_pos hi2] at hw
      split at hw <;> cases hw
    · rw [if_neg hi2] at hw
      obtain ⟨h1, h2⟩ := it_kill_get hw
      refine List.mem_cons_of_mem _ (List.mem_filter.mpr ⟨it_lv_mem.mpr ⟨w, h1, hq2⟩, ?_⟩)
      rw [hq2, it_tr_cat]
      simp only [Bool.and_eq_true, Bool.not_eq_true', beq_eq_false_iff_ne, ne_eq, Bool.and_eq_false_iff]
      refine ⟨fun q => hi q.symm, fun q => hi2 q.symm, ?_⟩
      by_cases h3 : q.1 + 1 = i
      · exact Or.inr (fun q => h2 ⟨h3, by simpa using q⟩)
      · exact Or.inl h3
/-- the tables' words that stay as they are -/
def it_tb : List Cond := lw_tbl.filter goodWord
theorem it_in_tb {w : Cond} (h : w ∈ lw_tbl) (hg : goodWord w = true) : w ∈ it_tb := List.mem_filter.mpr ⟨h, hg⟩
theorem it_tb_good {w : Cond} (h : w ∈ it_tb) : goodWord w = true := (List.mem_filter.mp h).2
def it_cx (d : Nat) (M : it_M) (p : Program) (R : Room) (s : State) (m : MethodId) (args : Array Value) (meth : Method) (c : Code) : Prop :=
  p.tables.exec = Jvm.exec ∧ c.code = M.2.1 ∧ c.maxLocals = M.2.2.1 ∧ s.vm.findClass M.1.cls = some m.cls ∧ (∀ w ∈ it_tb, w.before args s = true) ∧ (M.1.name = "<init>" → meth.name = "<init>") ∧ d ≤ R.frames ∧ 60 * d ≤ R.locals ∧ M.2.2.2.2.1 ≤ R.cells ∧ M.2.2.2.2.2 ≤ R.slots
def it_fr (g : it_G) (κ : it_KK) (S : it_SS) (s : State) (H : Heap) (locs : List Loc) : Prop :=
  H.size = g.1 + κ.1 ∧ g.1 ≤ s.heap.size ∧ va_P g.2.1 it_cl (it_ws g κ S) H ∧ va_K g.2.1 it_cl (it_tys g) s ∧ it_old g s s.heap ∧ va_S (it_A g) s.heap H locs
/-- how many cells have come, told exactly (but for the law itself) -/
def it_ex (g : it_G) (κ : it_KK) (kc : Nat) (s : State) : Prop := kc < 1000 → s.heap.size + kc = g.1 + κ.1
def it_ret (M : it_M) (pc : Nat) (v : Option Value) : Prop := match v with
  | none => decode M.2.1 pc = .ok (.return_, 1) ∧ M.2.2.2.1 = none
  | some (.int x) => decode M.2.1 pc = .ok (.ireturn, 1) ∧ ∃ ty, M.2.2.2.1 = some ty ∧ narrow ty (.int x) = .int x
  | some (.long _) => decode M.2.1 pc = .ok (.lreturn, 1) ∧ M.2.2.2.1 = some .long
  | some (.ref _) => decode M.2.1 pc = .ok (.areturn, 1) ∧ ∃ rt, M.2.2.2.1 = some rt ∧ ((∃ n, rt = .object n) ∨ ∃ t, rt = .array t)
  | _ => False
def it_Ev (g : it_G) (l : Launch) (d : Nat) (M : it_M) (kc ks pc : Nat) (L : it_L) (st : List Value) (κ : it_KK) (S : it_SS) (P : Option Value → it_KK → it_SS → Prop) : Prop :=
  ∀ (p : Program) (e : Env) (R : Room) (s : State) (m : MethodId) (args : Array Value) (below : List Frame) (meth : Method) (c : Code) (H : Heap) (locs : List Loc) (ls : Array Slot) (Q : State → Prop),
    it_cx d M p R s m args meth c → it_fr g κ S s H locs → it_ex g κ kc s → lv_has ls M.2.2.1 (it_lv g L) →
    (∀ (v : Option Value) (κ' : it_KK) (S' : it_SS) (H' : Heap) (locs' : List Loc) (pc' : Nat) (ls' : Array Slot), P v κ' S' → it_fr g κ' S' s H' locs' → it_ret M pc' v → W p l e R s m args below meth c H' locs' M.2.2.2.2.1 M.2.2.2.2.2 Q (F0 m pc' ls' (v.toList.map (it_tr g)))) →
    W p l e R s m args below meth c H locs kc ks Q (F0 m pc ls (st.map (it_tr g)))
def it_wd (g : it_G) (κ : it_KK) (S : it_SS) (U : State) : Prop :=
  U.heap.size = g.1 + κ.1 ∧ va_P g.2.1 it_cl (it_ws g κ S) U.heap ∧ va_K g.2.1 it_cl (it_tys g) U ∧ it_old g U U.heap
def it_Qc (g : it_G) (P : Option Value → it_KK → it_SS → Prop) : Array Value → State → Outcome → State → Prop := fun _ st oc t =>
  (∃ (v : Option Value) (κ' : it_KK) (S' : it_SS), oc = .returned (v.map (it_tr g)) ∧ P v κ' S' ∧ t.heap.size = g.1 + κ'.1 ∧ va_P g.2.1 it_cl (it_ws g κ' S') t.heap) ∧ va_F (it_A g) st t
def it_rm (d : Nat) (M : it_M) : Room := { frames := d, cells := M.2.2.2.2.1, slots := M.2.2.2.2.2, locals := 60 * d }
def it_wds (M : it_M) : List Cond := .code M.1 M.2.1 M.2.2.1 M.2.2.2.1 :: it_tb
def it_Cn (g : it_G) (l : Launch) (d : Nat) (M : it_M) (av : List Value) (κ : it_KK) (S : it_SS) (P : Option Value → it_KK → it_SS → Prop) : Prop :=
  Met l M.1 (it_wds M) (it_rm d M) (va_Pc (av.map (it_tr g)) (it_wd g κ S)) (it_Qc g P) M.2.2.2.2.1 M.2.2.2.2.2 (it_A g)
def it_ent : List Value → it_L
  | [] => []
  | v :: vs => if v.category = 2 then some v :: none :: it_ent vs else some v :: it_ent vs
def it_in (n : Nat) (av : List Value) : it_L := it_ent av ++ List.replicate (n - (it_ent av).length) none
theorem it_ent_at (g : it_G) : ∀ (av : List Value) (i o : Nat) (v : Value), (it_ent av)[i]? = some (some v) → (o + i, it_tr g v) ∈ lv_args o (av.map (it_tr g))
  | [], i, o, v, h => by simp [it_ent] at h
  | w :: ws, i, o, v, h => by
    simp only [List.map_cons, lv_args]
    rw [it_tr_cat]
    simp only [it_ent] at h
    by_cases hc : w.category = 2
    · rw [if_pos hc] at h ⊢
      match i, h with
      | 0, h => cases h; exact List.mem_cons_self
      | 1, h => cases h
      | i + 2, h =>
        have := it_ent_at g ws i (o + 2) v h
        rw [show o + (i + 2) = o + 2 + i by omega]
        exact List.mem_cons_of_mem _ this
    · rw [if_neg hc] at h ⊢
      match i, h with
      | 0, h => cases h; exact List.mem_cons_self
      | i + 1, h =>
        have := it_ent_at g ws i (o + 1) v h
        rw [show o + (i + 1) = o + 1 + i by omega]
        exact List.mem_cons_of_mem _ this
theorem it_has_in {g : it_G} {ls : Array Slot} {n : Nat} {av : List Value} (h : lv_has ls n (lv_args 0 (av.map (it_tr g)))) : lv_has ls n (it_lv g (it_in n av)) := by
  refine ⟨h.1, h.2.1, fun q hq => h.2.2 q ?_⟩
  obtain ⟨w, hw, hq2⟩ := it_lv_mem.mp hq
  have h1 : (it_ent av)[q.1]? = some (some w) := by
    rw [it_in] at hw
    by_cases hl : q.1 < (it_ent av).length
    · rwa [List.getElem?_append_left hl] at hw
    · rw [List.getElem?_append_right (by omega)] at hw
      have := List.mem_of_getElem? hw
      simp at this
  have := it_ent_at g av q.1 0 w h1
  rw [Nat.zero_add, ← hq2] at this
  exact this
/-- a contract out of a run -/
theorem it_Cn.of {g : it_G} {l : Launch} {d : Nat} {M : it_M} {av : List Value} {κ : it_KK} {S : it_SS} {P : Option Value → it_KK → it_SS → Prop} (hy : plainName M.1.cls = true) (hl : (lg_sl (av.map (it_tr g))).length ≤ M.2.2.1)
    (h : it_Ev g l d M 0 0 0 (it_in M.2.2.1 av) [] κ S P) : it_Cn g l d M av κ S P := by
  refine Met.ofW (cc := M.2.1) (maxL := M.2.2.1) (ret := M.2.2.2.1) hy rfl ?_
  intro p e s m args below meth c s₁ B hml hv
  obtain ⟨rfl, hsz, hP, hK, hO⟩ := hv
  have hts := atoms_spec (ws := it_wds M) B.pre
  have hlocks := B.notSynchronized
  have hent := lv_entry (av.map (it_tr g)) (n := M.2.2.1) hl
  rw [lg_entry_eq]
  generalize (lg_sl (av.map (it_tr g)) ++ List.replicate (M.2.2.1 - (lg_sl (av.map (it_tr g))).length) Slot.unset).toArray = ls at hent ⊢
  refine h p e (headSpec (it_wds M) (it_rm d M)).room s m _ below meth c s.heap [] ls _ ⟨B.exec, B.bytes, hml, findClass_of_methodNamed B.named, fun w hw => hts w (List.mem_cons_of_mem _ hw), (fun hn => (name_of_methodNamed B.named B.method).1.trans hn), Nat.le_refl _, Nat.le_refl _, Nat.le_refl _, Nat.le_refl _⟩
    ⟨hsz, by rw [hsz]; exact Nat.le_add_right _ _, hP, hK, hO, va_S.rf⟩ (fun _ => hsz) (it_has_in hent) ?_
  intro v κ' S' H' locs' pc' ls' hp hf hr
  have hq : ∀ t : State, t.heap = H' → s.WarmedH t.vm → it_Qc g P (List.map (it_tr g) av).toArray s (.returned (v.map (it_tr g))) t := fun t ht hW =>
    ⟨⟨v, κ', S', rfl, hp, by rw [ht]; exact hf.1, by rw [ht]; exact hf.2.2.1⟩, hf.2.2.2.2.2.F ht⟩
  match v, hr, hq with
  | none, hr, hq => exact W.vret B.exec B.bytes (B.returns.trans hr.2) hq hf.2.2.2.2.2.2.2 hr.1
  | some (.int x), hr, hq =>
    obtain ⟨h1, ty, h2, h3⟩ := hr
    exact W.zret B.exec B.bytes (B.returns.trans h2) h3 hq hf.2.2.2.2.2.2.2 h1
  | some (.long x), hr, hq => exact W.lret B.exec B.bytes (B.returns.trans hr.2) hq hf.2.2.2.2.2.2.2 hr.1
  | some (.ref x), hr, hq =>
    obtain ⟨h1, rt, h2, h3⟩ := hr
    exact W.aret B.exec B.bytes (B.returns.trans h2) h3 (Or.inr ⟨_, rfl⟩) hq hf.2.2.2.2.2.2.2 h1
theorem it_wd.calling {g : it_G} {κ : it_KK} {S : it_SS} {U : State} {f : JFrame} {mk : MethodId} {a : Array Value} (h : it_wd g κ S U) : it_wd g κ S (U.calling f mk a) := by
  obtain ⟨h1, h2, h3, h4⟩ := h
  exact ⟨h1, h2, va_K.moved (u := U) (U := U.calling f mk a) (Vm.Alike.refl U.vm) h3, it_old.same (u := U) rfl h4⟩
theorem it_fr.wd {g : it_G} {κ : it_KK} {S : it_SS} {s U : State} {H : Heap} {locs : List Loc} (h : it_fr g κ S s H locs) (hU : U.heap = H) (hW : s.WarmedH U.vm) : it_wd g κ S U := by
  obtain ⟨h1, h2, h3, h4, h5, h6⟩ := h
  exact ⟨by rw [hU]; exact h1, by rw [hU]; exact h3, va_K.moved hW.alike h4, it_old.warm hW (by rw [hU]; exact h6.1) (fun a ha hn => by rw [hU]; exact h6.2.1 a ha hn) h5⟩
theorem it_after {g : it_G} {p : Program} {l : Launch} {e : Env} {R : Room} {s : State} {m : MethodId} {args : Array Value} {below : List Frame} {meth : Method} {c : Code} {H : Heap} {locs : List Loc} {kc ks mc ms pc : Nat} {ls : Array Slot} {st0 : List Value} {rest : List Value} {Q : State → Prop} {P' : Option Value → it_KK → it_SS → Prop} {a : Array Value} {κ : it_KK} {S : it_SS}
    (hr : va_Run p l e R s m args below meth c H locs kc ks mc ms (F0 m pc ls st0) (rest.map (it_tr g)) (it_Qc g P' a) (it_A g)) (hf : it_fr g κ S s H locs)
    (kk : ∀ (v : Option Value) (κ' : it_KK) (S' : it_SS) (H1 : Heap) (locs1 : List Loc), P' v κ' S' → it_fr g κ' S' s H1 locs1 → W p l e R s m args below meth c H1 locs1 (kc + mc) (ks + ms) Q (F0 m (pc + 3) ls ((v.toList ++ rest).map (it_tr g)))) : W p l e R s m args below meth c H locs kc ks Q (F0 m pc ls st0) := by
  intro T hT X
  obtain ⟨v, st₀, t, T', L, h0, X', hL, e1, e2, ⟨⟨v', κ', S', hv, hp, hz1, hP1⟩, hz, hk⟩, st⟩ := hr T hT X
  cases hv
  rw [h0] at hz hk
  obtain ⟨f1, f2, f3, f4, f5, f6⟩ := hf
  obtain ⟨t2, a1, b1⟩ := kk v' κ' S' T'.heap (locs ++ L) hp ⟨by rw [e1]; exact hz1, f2, by rw [e1]; exact hP1, f4, f5,
    ⟨Nat.le_trans f6.1 (by rw [e1]; exact hz), fun q h1 h2 => by rw [e1, hk q (Nat.lt_of_lt_of_le h1 f6.1) h2]; exact f6.2.1 q h1 h2, fun q hq => by
      rcases List.mem_append.mp hq with h | h
      · exact f6.2.2 q h
      · exact hL q h⟩⟩ T' rfl X'
  refine ⟨t2, st t2 ?_, b1⟩
  cases v' <;> simpa using a1
theorem it_W_sz {p : Program} {l : Launch} {e : Env} {R : Room} {s : State} {m : MethodId} {args : Array Value} {below : List Frame} {meth : Method} {c : Code} {H : Heap} {locs : List Loc} {cells slots : Nat} {Q : State → Prop} {f : JFrame} (h : H.size ≤ s.heap.size + cells → W p l e R s m args below meth c H locs cells slots Q f) : W p l e R s m args below meth c H locs cells slots Q f := fun T hT X => h (by rw [← hT]; exact X.heapSize) T hT X
theorem it_S_here {A : Nat → Prop} {H0 H : Heap} {locs : List Loc} (h : va_S A H0 H locs) : va_S A H H locs := ⟨Nat.le_refl _, fun _ _ _ => rfl, h.2.2⟩
theorem it_S_trans {A : Nat → Prop} {H0 H H1 : Heap} {locs locs1 : List Loc} (h : va_S A H0 H locs) (h1 : va_S A H H1 locs1) : va_S A H0 H1 locs1 := ⟨Nat.le_trans h.1 h1.1, fun q a b => (h1.2.1 q (Nat.lt_of_lt_of_le a h.1) b).trans (h.2.1 q a b), h1.2.2⟩
