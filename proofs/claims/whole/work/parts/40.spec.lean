/-! what both programs mean -/
theorem ix_0 : (0 : Int32).toNatClampNeg = 0 := by decide
theorem ix_1 : (1 : Int32).toNatClampNeg = 1 := by decide
theorem ix_2 : (2 : Int32).toNatClampNeg = 2 := by decide
theorem ix_3 : (3 : Int32).toNatClampNeg = 3 := by decide
theorem ix_4 : (4 : Int32).toNatClampNeg = 4 := by decide
theorem ix_5 : (5 : Int32).toNatClampNeg = 5 := by decide
theorem bd_nI {j n : Nat} (h : j < n) (hn : n < 2 ^ 31) : it_bd (nI j) n = true := by
  have h1 : (0 : Int32) ≤ nI j := nI_pos' (by omega)
  simp [it_bd, h1, nI_clamp (show j < 2 ^ 31 by omega), h]
theorem bd_of {x : Int32} {n : Nat} (h : it_bd x n = true) : ∃ j, j < n ∧ x = nI j := by
  simp only [it_bd, Bool.and_eq_true, decide_eq_true_eq] at h
  obtain ⟨j, hj, rfl⟩ := nI_of (Int32.not_lt.mpr h.1)
  rw [nI_clamp hj] at h
  exact ⟨j, h.2, rfl⟩
/-- bounds -/
def sp_in (x lo hi : Int32) : Bool := decide (lo ≤ x) && decide (x ≤ hi)
theorem e_isOutside (κ : it_KK) (x lo hi : Int32) (S : it_SS) : f_X5_isOutside κ x lo hi S = some (if sp_in x lo hi = true then 0 else 1, S) := by
  unfold f_X5_isOutside sp_in
  by_cases h1 : x < lo
  · simp [h1, Int32.not_le.mpr h1]
  · by_cases h2 : x ≤ hi
    · simp [h1, h2, Int32.not_lt.mp h1]
    · simp [h1, h2]
theorem e_in (κ : it_KK) (x lo hi : Int32) (S : it_SS) : f_X6_in κ x lo hi S = some (if sp_in x lo hi = true then 1 else 0, S) := by
  unfold f_X6_in sp_in
  by_cases h1 : x < lo
  · simp [h1, Int32.not_le.mpr h1]
  · by_cases h2 : hi < x
    · simp [h1, h2, Int32.not_le.mpr h2]
    · simp [h1, h2, Int32.not_lt.mp h1, Int32.not_lt.mp h2]
/-- within bounds -/
def sp_cl (v lo hi : Int32) : Int32 := if v < lo then lo else if hi < v then hi else v
theorem e_within (κ : it_KK) (v lo hi : Int32) (S : it_SS) : f_X6_within κ v lo hi S = some (sp_cl v lo hi, S) := by
  unfold f_X6_within sp_cl
  by_cases h1 : lo ≤ v
  · rw [if_pos h1, if_neg (Int32.not_lt.mpr h1)]
    by_cases h2 : v ≤ hi
    · rw [if_pos h2, if_neg (Int32.not_lt.mpr h2)]
    · rw [if_neg h2, if_pos (Int32.not_le.mp h2)]
  · rw [if_neg h1, if_pos (Int32.not_le.mp h1)]
theorem e_bounded (κ : it_KK) (v lo hi : Int32) (h : lo ≤ hi) (S : it_SS) : f_X5_bounded κ v lo hi S = some (sp_cl v lo hi, S) := by
  unfold f_X5_bounded sp_cl
  congr 2
  simp only [Int32.lt_iff_toInt_lt, Int32.le_iff_toInt_le] at *
  by_cases h1 : v.toInt < lo.toInt
  · rw [if_pos h1]
    by_cases h2 : v.toInt < hi.toInt
    · rw [if_pos h2, if_neg (by omega)]
    · rw [if_neg h2]
      by_cases h3 : lo.toInt < hi.toInt
      · omega
      · rw [if_neg h3]
  · rw [if_neg h1]
    by_cases h2 : v.toInt < hi.toInt
    · rw [if_pos h2, if_neg (show ¬ hi.toInt < v.toInt by omega)]
      by_cases h3 : lo.toInt < v.toInt
      · rw [if_pos h3]
      · rw [if_neg h3]
        exact Int32.toInt_inj.mp (by omega)
    · rw [if_neg h2]
      by_cases h3 : hi.toInt < v.toInt
      · rw [if_pos h3]
        by_cases h4 : lo.toInt < hi.toInt
        · rw [if_pos h4]
        · rw [if_neg h4]
          exact Int32.toInt_inj.mp (by omega)
      · rw [if_neg h3]
        by_cases h4 : lo.toInt < hi.toInt
        · rw [if_pos h4]
          exact Int32.toInt_inj.mp (by omega)
        · rw [if_neg h4]
          exact Int32.toInt_inj.mp (by omega)
/-! texts: code is a list of signs; a number below 10000 is itself, a name is 10006 and its place, the rest join or turn -/
def sp_num (c : Nat) : Prop := c < 10000
def sp_nam (c : Nat) : Prop := 10006 ≤ c ∧ c < 10012
def sp_trn (c : Nat) : Prop := c = 10005 ∨ c = 10015
def sp_joi (c : Nat) : Prop := c = 10003 ∨ c = 10004 ∨ c = 10042 ∨ c = 10043 ∨ c = 10045 ∨ c = 10060 ∨ c = 10061
def sp_turn (c : Nat) (a : Int32) : Int32 := if c = 10005 then (if a = 0 then 1 else 0) else -a
def sp_join (c : Nat) (a b : Int32) : Int32 :=
  if c = 10003 then (if a = 0 then (if b = 0 then 0 else 1) else 1)
  else if c = 10004 then (if a = 0 then 0 else (if b = 0 then 0 else 1))
  else if c = 10043 then a + b
  else if c = 10045 then a - b
  else if c = 10060 then (if b ≤ a then 0 else 1)
  else if c = 10061 then (if a = b then 1 else 0)
  else a * b
/-- a sign on a pile (its top first) -/
def sp_one (nm : Nat → Int32) (st : List Int32) (c : Nat) : List Int32 :=
  if c < 10000 then nI c :: st
  else if 10006 ≤ c ∧ c < 10012 then nm (c - 10006) :: st
  else if c = 10005 ∨ c = 10015 then (match st with
    | a :: r => sp_turn c a :: r
    | [] => [])
  else match st with
    | b :: a :: r => sp_join c a b :: r
    | r => r
def sp_run (nm : Nat → Int32) (st : List Int32) (cs : List Nat) : List Int32 := cs.foldl (sp_one nm) st
def sp_ev (nm : Nat → Int32) (cs : List Nat) : Int32 := (sp_run nm [] cs).getD 0 0
/-- code that leaves one number, with at most 31 on the pile on the way -/
def sp_wf : Nat → List Nat → Prop
  | h, [] => h = 1
  | h, c :: r => (sp_num c ∨ sp_nam c) ∧ h + 1 ≤ 31 ∧ sp_wf (h + 1) r ∨ sp_trn c ∧ 1 ≤ h ∧ sp_wf h r ∨ sp_joi c ∧ 2 ≤ h ∧ sp_wf (h - 1) r
/-- the reference's number of a sign -/
def sp_mc (c : Nat) : Nat :=
  if c < 10000 then 100000 + c else if 10006 ≤ c ∧ c < 10012 then c - 10006
  else if c = 10003 then 11 else if c = 10004 then 12 else if c = 10005 then 13 else if c = 10060 then 14 else if c = 10061 then 15 else if c = 10043 then 16 else if c = 10045 then 17 else if c = 10042 then 18 else 19
/-- a pile in a row of numbers: the bottom at 0 -/
def sp_pile (f : Nat → Int32) (st : List Int32) : Prop := ∀ j, j < st.length → f j = st.getD (st.length - 1 - j) 0
theorem sp_pile_push {f : Nat → Int32} {st : List Int32} (v : Int32) (h : sp_pile f st) : sp_pile (upd f st.length v) (v :: st) := by
  intro j hj
  simp only [List.length_cons] at hj ⊢
  by_cases h1 : j = st.length
  · subst h1
    simp [upd]
  · have h2 : st.length + 1 - 1 - j = (st.length - 1 - j) + 1 := by omega
    rw [h2, List.getD_cons_succ]
    simp only [upd, if_neg h1]
    exact h j (by omega)
theorem sp_pile_top {f : Nat → Int32} {v : Int32} {st : List Int32} (h : sp_pile f (v :: st)) : f st.length = v ∧ sp_pile f st := by
  refine ⟨?_, fun j hj => ?_⟩
  · have := h st.length (by simp)
    simpa using this
  · have := h j (by simp only [List.length_cons]; omega)
    simp only [List.length_cons] at this
    rw [show st.length + 1 - 1 - j = (st.length - 1 - j) + 1 by omega, List.getD_cons_succ] at this
    exact this
