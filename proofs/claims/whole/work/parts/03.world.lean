/-! the cells of a run: cell a of the run lies at the address where the run began and a more; its numbers are S a, its references are laid out once for all -/
abbrev it_SS : Type := Nat → Nat → Int32
abbrev it_KK : Type := Nat × (Nat → Nat × Nat) × (Nat → Nat → Bool)
abbrev it_G : Type := Nat × va_G × (Nat → ClassId) × (Nat → Nat) × (Nat × (Nat → Int32))
def it_up (S : it_SS) (a j : Nat) (v : Int32) : it_SS := fun b => if b = a then upd (S a) j v else S b
def it_lay (ci k a : Nat) : Nat := match ci with
  | 0 => match k with
    | 0 => 1
    | k + 1 => a + k
  | 1 => match k with
    | 0 => 2
    | 1 => 3
    | _ => 4
  | 2 => a + 1
  | 3 => match k with
    | 0 => 6
    | 6 => 7
    | _ => 8
  | 4 => match k with
    | 0 => a + 1
    | _ => a + 2
  | 5 => match k with
    | 0 => 1
    | 1 => 5
    | 2 => 9
    | 3 => 17
    | 4 => 25
    | _ => 33
  | _ => match k with
    | 1 => 46
    | 2 => 47
    | 3 => 48
    | 4 => 49
    | 6 => 50
    | 8 => 51
    | 9 => 52
    | 13 => 53
    | 14 => 54
    | 15 => 55
    | 16 => 56
    | 17 => 57
    | 18 => 58
    | 23 => 59
    | 24 => 60
    | 28 => 61
    | 29 => 62
    | 30 => 63
    | _ => 64
def it_el (t j : Nat) : Nat := match t with
  | 1 => match j with
    | 0 => 42
    | j + 1 => 65 + 3 * j
  | _ => 34 + 2 * j
def it_fld (g : it_G) (κ : it_KK) (S : it_SS) (ci a k : Nat) (r : Bool) : Value := if r = true then (if κ.2.2 a k = true then .ref (g.1 + it_lay ci k a) else .null) else .int (S a k)
def it_fs (g : it_G) (κ : it_KK) (S : it_SS) (ci a : Nat) : List Value := (it_mask ci).mapIdx (fun k r => it_fld g κ S ci a k r)
def it_rf (g : it_G) (κ : it_KK) (t a : Nat) : Nat → Option Nat := fun j => if κ.2.2 a j = true then some (g.1 + it_el t j) else none
def it_ce (g : it_G) (κ : it_KK) (S : it_SS) (a : Nat) : va_E := match (κ.2.1 a).1 with
  | 0 => .inl (g.2.2.1 0, (κ.2.1 a).2, .inl (S a))
  | 1 => .inl (g.2.2.1 1, (κ.2.1 a).2, .inr (.inr (.inr (.inr (it_rf g κ 1 a)))))
  | 2 => .inl (g.2.2.1 2, (κ.2.1 a).2, .inr (.inr (.inr (.inr (it_rf g κ 2 a)))))
  | ci + 3 => .inr (ci, it_fs g κ S ci a)
def it_ws (g : it_G) (κ : it_KK) (S : it_SS) : va_W := (List.range κ.1).map (fun a => (g.1 + a, it_ce g κ S a))
def it_A (g : it_G) : Nat → Prop := fun q => g.1 ≤ q
def it_tys (g : it_G) : List (ClassId × FieldType) := [(g.2.2.1 0, .int), (g.2.2.1 1, .object it_R4), (g.2.2.1 2, .object it_R2)]
theorem it_ws_get {g : it_G} {κ : it_KK} {S : it_SS} {a : Nat} (h : a < κ.1) : (it_ws g κ S)[a]? = some (g.1 + a, it_ce g κ S a) := by
  simp [it_ws, h]
theorem it_ws_len (g : it_G) (κ : it_KK) (S : it_SS) : (it_ws g κ S).length = κ.1 := by simp [it_ws]
theorem it_ws_of {g : it_G} {κ : it_KK} {S : it_SS} {k : Nat} {q : Nat × va_E} (h : (it_ws g κ S)[k]? = some q) : k < κ.1 ∧ q = (g.1 + k, it_ce g κ S k) := by
  have hk : k < κ.1 := by
    have := (List.getElem?_eq_some_iff.mp h).1
    rwa [it_ws_len] at this
  rw [it_ws_get hk] at h
  exact ⟨hk, (Option.some.inj h).symm⟩
theorem it_ws_D (g : it_G) (κ : it_KK) (S : it_SS) : va_D (it_A g) (it_ws g κ S) := by
  refine ⟨fun i j p q hi hj he => ?_, fun k q hk => ?_⟩
  · obtain ⟨-, rfl⟩ := it_ws_of hi
    obtain ⟨-, rfl⟩ := it_ws_of hj
    exact Nat.add_left_cancel he
  · obtain ⟨-, rfl⟩ := it_ws_of hk
    exact Nat.le_add_right _ _
theorem it_ws_set {g : it_G} {κ κ' : it_KK} {S S' : it_SS} {a : Nat} (hn : κ'.1 = κ.1) (h : ∀ b, b ≠ a → it_ce g κ' S' b = it_ce g κ S b) : (it_ws g κ S).set a (g.1 + a, it_ce g κ' S' a) = it_ws g κ' S' := by
  apply List.ext_getElem?
  intro i
  by_cases hi : i < κ.1
  · rw [it_ws_get (by rw [hn]; exact hi), List.getElem?_set]
    by_cases ha : a = i
    · subst ha
      rw [if_pos rfl, if_pos (by rw [it_ws_len]; exact hi)]
    · rw [if_neg ha, it_ws_get hi, h i (fun q => ha q.symm)]
  · rw [List.getElem?_eq_none (by rw [List.length_set, it_ws_len]; omega), List.getElem?_eq_none (by rw [it_ws_len]; omega)]
theorem it_ws_push {g : it_G} {κ κ' : it_KK} {S S' : it_SS} {a : Nat} {x : va_E} (hn : κ'.1 = κ.1 + 1) (h : ∀ b, b < κ.1 → it_ce g κ' S' b = it_ce g κ S b) (ha : a = g.1 + κ.1) (hx : it_ce g κ' S' κ.1 = x) : it_ws g κ S ++ [(a, x)] = it_ws g κ' S' := by
  subst ha; subst hx
  apply List.ext_getElem?
  intro i
  by_cases hi : i < κ.1
  · rw [List.getElem?_append_left (by rw [it_ws_len]; exact hi), it_ws_get hi, it_ws_get (by omega), h i hi]
  · by_cases hj : i = κ.1
    · subst hj
      rw [List.getElem?_append_right (by rw [it_ws_len]; omega), it_ws_len, it_ws_get (by omega)]
      simp
    · rw [List.getElem?_eq_none (by simp [it_ws_len]; omega), List.getElem?_eq_none (by rw [it_ws_len]; omega)]
theorem it_up_ne {S : it_SS} {a j b : Nat} {v : Int32} (h : b ≠ a) : it_up S a j v b = S b := by simp [it_up, h]
theorem it_up_eq (S : it_SS) (a j : Nat) (v : Int32) : it_up S a j v a = upd (S a) j v := by simp [it_up]
/-- an int array of the run -/
def it_ar (κ : it_KK) (a n : Nat) : Prop := a < κ.1 ∧ κ.2.1 a = (0, n)
/-- a whole object of the run -/
def it_ob (κ : it_KK) (a ci : Nat) : Prop := a < κ.1 ∧ κ.2.1 a = (ci + 3, 0) ∧ ∀ k, (it_mask ci)[k]? = some true → κ.2.2 a k = true
theorem it_ce_ar {g : it_G} {κ : it_KK} {S : it_SS} {a n : Nat} (h : κ.2.1 a = (0, n)) : it_ce g κ S a = .inl (g.2.2.1 0, n, .inl (S a)) := by
  simp [it_ce, h]
theorem it_ce_ob {g : it_G} {κ : it_KK} {S : it_SS} {a ci n : Nat} (h : κ.2.1 a = (ci + 3, n)) : it_ce g κ S a = .inr (ci, it_fs g κ S ci a) := by
  simp [it_ce, h]
theorem it_ce_ne {g : it_G} {κ : it_KK} {S : it_SS} {a j b : Nat} {v : Int32} (h : b ≠ a) : it_ce g κ (it_up S a j v) b = it_ce g κ S b := by
  have : it_fs g κ (it_up S a j v) = fun ci c => if c = a then it_fs g κ (it_up S a j v) ci c else it_fs g κ S ci c := by
    funext ci c
    by_cases hc : c = a
    · rw [if_pos hc]
    · rw [if_neg hc]
      simp only [it_fs, it_fld, it_up_ne hc]
  simp only [it_ce, it_up_ne h]
  split <;> try rfl
  rw [this]
  simp only [if_neg h]
theorem it_fs_get {g : it_G} {κ : it_KK} {S : it_SS} {ci a k : Nat} {r : Bool} (h : (it_mask ci)[k]? = some r) : (it_fs g κ S ci a)[k]? = some (it_fld g κ S ci a k r) := by
  simp [it_fs, List.getElem?_mapIdx, h]
theorem it_fs_up {g : it_G} {κ : it_KK} {S : it_SS} {ci a k : Nat} {v : Int32} (h : (it_mask ci)[k]? = some false) : (it_fs g κ S ci a).set k (.int v) = it_fs g κ (it_up S a k v) ci a := by
  apply List.ext_getElem?
  intro i
  rw [List.getElem?_set]
  have hl : k < (it_mask ci).length := (List.getElem?_eq_some_iff.mp h).1
  by_cases hi : k = i
  · subst hi
    rw [if_pos rfl, if_pos (by simpa [it_fs] using hl), it_fs_get h]
    simp [it_fld, it_up, upd]
  · rw [if_neg hi]
    simp only [it_fs, List.getElem?_mapIdx]
    cases hm : (it_mask ci)[i]? with
    | none => rfl
    | some r => simp [it_fld, it_up, upd, Ne.symm hi]
theorem it_fs_len (g : it_G) (κ : it_KK) (S : it_SS) (ci a : Nat) : (it_fs g κ S ci a).length = (it_mask ci).length := by simp [it_fs]
/-! what was there before the run: the script, three texts, two tables, a formatter -/
def it_lens : List Nat := [37, 48, 8]
def it_txt0 : String := "melts 10 ; feels weight ; chills 5 ; "
def it_txt1 : String := "meltsfeelschillsorandnotweighticecoldmooddaymore"
def it_txt2 : String := "();+-*<="
def it_bytes : List (List Int32) := [it_txt0.toList.map (fun c => Int32.ofNat c.toNat), it_txt1.toList.map (fun c => Int32.ofNat c.toNat), it_txt2.toList.map (fun c => Int32.ofNat c.toNat)]
def it_above : List Int32 := [-1, 0, 0, 1, 2, 0]
def it_wordAt : List Int32 := [0, 5, 10, 16, 18, 21, 24, 30, 33, 37, 41, 44, 48]
def it_nests : List (String × Nat × MethodName) := [("IcedTooSoon", 9, ⟨"IcedTooSoon$Lawbook", "<init>", "()V"⟩), ("IcedTooSoon", 18, ⟨"IcedTooSoon$Tape", "<init>", "()V"⟩), ("IcedTooSoon", 48, ⟨"IcedTooSoon$Sheet", "<init>", "()V"⟩), ("IcedTooSoon$Lawbook", 30, ⟨"IcedTooSoon", "isOutside", "(III)Z"⟩), ("IcedTooSoon$House", 89, ⟨"IcedTooSoon", "bounded", "(III)I"⟩), ("IcedTooSoon$House", 66, ⟨"IcedTooSoon", "isOutside", "(III)Z"⟩)]
def it_oldT (U : State) : Prop := va_AO it_R4 U ∧ va_AO it_R2 U ∧ va_Nw (.castable "[I" "java/lang/Cloneable") U ∧ ∀ q ∈ it_nests, va_Nw (.methodLinkNest q.1 q.2.1 q.2.2 "IcedTooSoon") U
def it_old (g : it_G) (U : State) (H : Heap) : Prop :=
  it_oldT U ∧
  va_X (g.2.2.2.1 0) g.2.2.2.2.1 g.2.2.2.2.2 U H ∧ g.2.2.2.1 0 < g.1 ∧ g.2.2.2.1 0 < H.size ∧
  vk_S 3 it_lens it_bytes (fun i => g.2.2.2.1 (1 + i)) (fun i => g.2.2.2.1 (4 + i)) (it_A g) U H ∧
  vk_R "IcedTooSoon" 49 it_txt0 (g.2.2.2.1 1) U ∧ vk_R "IcedTooSoon$Tape" 104 it_txt1 (g.2.2.2.1 2) U ∧ vk_R "IcedTooSoon$Tape" 90 it_txt2 (g.2.2.2.1 3) U ∧
  va_Z "IcedTooSoon" "KIND_ABOVE" "[I" (.ref (g.2.2.2.1 7)) (it_A g) U H ∧ va_T .int (g.2.2.2.1 7) 6 (fun j => .int (it_above.getD j 0)) (it_A g) U H ∧
  va_Z "IcedTooSoon$Tape" "WORD_AT" "[I" (.ref (g.2.2.2.1 8)) (it_A g) U H ∧ va_T .int (g.2.2.2.1 8) 13 (fun j => .int (it_wordAt.getD j 0)) (it_A g) U H ∧
  va_Z "java/lang/String" "COMPACT_STRINGS" "Z" (.int 1) (it_A g) U H ∧ (va_Z "jdk/internal/util/Preconditions" "SIOOBE_FORMATTER" "Ljava/util/function/BiFunction;" .null (it_A g) U H ∨ va_Z "jdk/internal/util/Preconditions" "SIOOBE_FORMATTER" "Ljava/util/function/BiFunction;" (.ref (g.2.2.2.1 9)) (it_A g) U H)
theorem it_oldT.warm {s U : State} (hW : s.WarmedH U.vm) (h : it_oldT s) : it_oldT U := ⟨h.1.moved hW.alike, h.2.1.moved hW.alike, h.2.2.1.warmC hW, fun q hq => (h.2.2.2 q hq).warmM hW⟩
theorem it_oldT.same {u U : State} (hv : U.vm = u.vm) (h : it_oldT u) : it_oldT U := ⟨h.1.moved (hv ▸ Vm.Alike.refl u.vm), h.2.1.moved (hv ▸ Vm.Alike.refl u.vm), h.2.2.1.same rfl hv.symm, fun q hq => (h.2.2.2 q hq).same rfl hv.symm⟩
theorem it_old.warm {g : it_G} {s U : State} {H H1 : Heap} (hW : s.WarmedH U.vm) (hz : H.size ≤ H1.size) (hq : ∀ a : Nat, a < H.size → ¬ it_A g a → H1[a]? = H[a]?) (h : it_old g s H) : it_old g U H1 := by
  obtain ⟨h0, h1, h2, h3, h4, h5, h6, h7, h8, h9, h10, h11, h12, h13⟩ := h
  have hv := hW.alike
  refine ⟨h0.warm hW, (h1.moved hv).kept (hq _ h3 (Nat.not_le.mpr h2)), h2, Nat.lt_of_lt_of_le h3 hz, (h4.moved hv).kept hq, h5.warm hW, h6.warm hW, h7.warm hW, (h8.moved hv).kept hq, (h9.moved hv).kept hq, (h10.moved hv).kept hq, (h11.moved hv).kept hq, (h12.moved hv).kept hq, ?_⟩
  rcases h13 with h | h
  · exact Or.inl ((h.moved hv).kept hq)
  · exact Or.inr ((h.moved hv).kept hq)
theorem it_old.same {g : it_G} {u U : State} {H : Heap} (hv : U.vm = u.vm) (h : it_old g u H) : it_old g U H := by
  obtain ⟨h0, h1, h2, h3, h4, h5, h6, h7, h8, h9, h10, h11, h12, h13⟩ := h
  have ha : u.vm.Alike U.vm := hv ▸ Vm.Alike.refl u.vm
  refine ⟨h0.same hv, h1.moved ha, h2, h3, h4.moved ha, h5.same hv, h6.same hv, h7.same hv, h8.moved ha, h9.moved ha, h10.moved ha, h11.moved ha, h12.moved ha, ?_⟩
  rcases h13 with h | h
  · exact Or.inl (h.moved ha)
  · exact Or.inr (h.moved ha)
