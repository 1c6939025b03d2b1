/-! signs that wait, and their ranks -/
def rk (c : Nat) : Nat := if c = 10040 then 0 else if c = 10003 then 1 else if c = 10004 then 2 else if c = 10005 then 3 else if c = 10060 then 4 else if c = 10061 then 4 else if c = 10043 then 5 else if c = 10045 then 5 else if c = 10042 then 6 else 7
def opn : List Nat → Nat
  | [] => 0
  | c :: h => (if c = 10040 ∨ c = 10005 ∨ c = 10015 then 1 else 0) + opn h
/-- what comes -/
def stp (r : Nat) : List Nat → List Nat
  | [] => []
  | c :: h => if r ≤ rk c then c :: stp r h else []
/-- what waits on -/
def rst (r : Nat) : List Nat → List Nat
  | [] => []
  | c :: h => if r ≤ rk c then rst r h else c :: h
def rtp : List Nat → Nat
  | [] => 0
  | c :: _ => rk c
theorem st_app {r : Nat} {h : List Nat} : ∀ {pd : List Nat}, (∀ y, y ∈ pd → r ≤ rk y) → stp r (pd ++ h) = pd ++ stp r h ∧ rst r (pd ++ h) = rst r h
  | [], _ => ⟨rfl, rfl⟩
  | c :: pd, hp => by
    have h1 := hp c (List.mem_cons_self)
    have h2 := st_app (r := r) (h := h) (pd := pd) (fun y hy => hp y (List.mem_cons_of_mem _ hy))
    rw [List.cons_append, stp, rst, if_pos h1, if_pos h1, h2.1, h2.2]
    exact ⟨rfl, rfl⟩
theorem st_top {r : Nat} : ∀ {h : List Nat}, rtp h < r → stp r h = [] ∧ rst r h = h
  | [], _ => ⟨rfl, rfl⟩
  | c :: h, hr => by
    have h1 : rk c < r := hr
    rw [stp, rst, if_neg (by omega), if_neg (by omega)]
    exact ⟨rfl, rfl⟩
theorem st_all {r : Nat} {pd h : List Nat} (hp : ∀ y, y ∈ pd → r ≤ rk y) (hr : rtp h < r) : stp r (pd ++ h) = pd ∧ rst r (pd ++ h) = h := by
  rw [(st_app hp).1, (st_app hp).2, (st_top hr).1, (st_top hr).2, List.append_nil]
  exact ⟨rfl, rfl⟩
/-- signs between two -/
def isJ (t : Nat) : Prop := t = 3 ∨ t = 4 ∨ t = 60 ∨ t = 61 ∨ t = 43 ∨ t = 45 ∨ t = 42
/-- an E up to its ; read token by token: whether it is good, the last token, the code -/
def rf (T V : Nat → Nat) : Nat → Nat → Bool → Bool → List Nat → List Nat → Option (Bool × Nat × List Nat)
  | 0, _, _, _, _, _ => none
  | k + 1, i, true, mn, h, c =>
    if T i = 12 then rf T V k (i + 1) false true (rst 7 h) (c ++ V i :: stp 7 h)
    else if 6 ≤ T i ∧ T i < 12 then rf T V k (i + 1) false true (rst 7 h) (c ++ (10000 + T i) :: stp 7 h)
    else if T i = 5 ∧ mn = true then (if opn h = 5 then some (false, i, []) else rf T V k (i + 1) true true (10005 :: h) c)
    else if T i = 45 then (if opn h = 5 then some (false, i, []) else rf T V k (i + 1) true false (10015 :: h) c)
    else if T i = 40 then (if opn h = 5 then some (false, i, []) else rf T V k (i + 1) true true (10040 :: h) c)
    else some (false, i, [])
  | k + 1, i, false, _, h, c =>
    if T i = 59 then (if rst 1 h = [] then some (true, i, c ++ stp 1 h) else some (false, i, []))
    else if T i = 41 then (match rst 1 h with
      | [] => some (false, i, [])
      | _ :: h' => rf T V k (i + 1) false true (rst 7 h') (c ++ (stp 1 h ++ stp 7 h')))
    else if T i = 3 then rf T V k (i + 1) true true (10003 :: rst 1 h) (c ++ stp 1 h)
    else if T i = 4 then rf T V k (i + 1) true true (10004 :: rst 2 h) (c ++ stp 2 h)
    else if T i = 60 ∨ T i = 61 then (if rtp (rst 5 h) = 4 then some (false, i, []) else rf T V k (i + 1) true false ((10000 + T i) :: rst 5 h) (c ++ stp 5 h))
    else if T i = 43 ∨ T i = 45 then rf T V k (i + 1) true false ((10000 + T i) :: rst 5 h) (c ++ stp 5 h)
    else if T i = 42 then rf T V k (i + 1) true false (10042 :: rst 6 h) (c ++ stp 6 h)
    else some (false, i, [])
section RF
variable {T V : Nat → Nat} {i : Nat} {mn : Bool} {h c : List Nat}
theorem k200 (hi : i < 200) : 200 - i = (200 - (i + 1)) + 1 := by omega
theorem rf_num (hi : i < 200) (ht : T i = 12) : rf T V (200 - i) i true mn h c = rf T V (200 - (i + 1)) (i + 1) false true (rst 7 h) (c ++ V i :: stp 7 h) := by
  rw [k200 hi, rf, if_pos ht]
theorem rf_nam (hi : i < 200) (ht : 6 ≤ T i ∧ T i < 12) : rf T V (200 - i) i true mn h c = rf T V (200 - (i + 1)) (i + 1) false true (rst 7 h) (c ++ (10000 + T i) :: stp 7 h) := by
  rw [k200 hi, rf, if_neg (by omega), if_pos ht]
theorem rf_not (hi : i < 200) (ht : T i = 5) : rf T V (200 - i) i true true h c = if opn h = 5 then some (false, i, []) else rf T V (200 - (i + 1)) (i + 1) true true (10005 :: h) c := by
  rw [k200 hi, rf, if_neg (by omega), if_neg (by omega), if_pos ⟨ht, rfl⟩]
theorem rf_neg (hi : i < 200) (ht : T i = 45) : rf T V (200 - i) i true mn h c = if opn h = 5 then some (false, i, []) else rf T V (200 - (i + 1)) (i + 1) true false (10015 :: h) c := by
  rw [k200 hi, rf, if_neg (by omega), if_neg (by omega), if_neg (fun q => by omega), if_pos ht]
theorem rf_par (hi : i < 200) (ht : T i = 40) : rf T V (200 - i) i true mn h c = if opn h = 5 then some (false, i, []) else rf T V (200 - (i + 1)) (i + 1) true true (10040 :: h) c := by
  rw [k200 hi, rf, if_neg (by omega), if_neg (by omega), if_neg (fun q => by omega), if_neg (by omega), if_pos ht]
theorem rf_bad (hi : i < 200) (h1 : T i ≠ 12) (h2 : ¬ (6 ≤ T i ∧ T i < 12)) (h3 : T i = 5 → mn = false) (h4 : T i ≠ 45) (h5 : T i ≠ 40) : rf T V (200 - i) i true mn h c = some (false, i, []) := by
  rw [k200 hi, rf, if_neg h1, if_neg h2, if_neg (fun q => by rw [h3 q.1] at q; exact absurd q.2 (by decide)), if_neg h4, if_neg h5]
theorem rf_semi (hi : i < 200) (ht : T i = 59) : rf T V (200 - i) i false mn h c = if rst 1 h = [] then some (true, i, c ++ stp 1 h) else some (false, i, []) := by
  rw [k200 hi, rf, if_pos ht]
theorem rf_close {x : Nat} {h' : List Nat} (hi : i < 200) (ht : T i = 41) (hr : rst 1 h = x :: h') : rf T V (200 - i) i false mn h c = rf T V (200 - (i + 1)) (i + 1) false true (rst 7 h') (c ++ (stp 1 h ++ stp 7 h')) := by
  rw [k200 hi, rf, if_neg (by omega), if_pos ht, hr]
theorem rf_close0 (hi : i < 200) (ht : T i = 41) (hr : rst 1 h = []) : rf T V (200 - i) i false mn h c = some (false, i, []) := by
  rw [k200 hi, rf, if_neg (by omega), if_pos ht, hr]
theorem rf_none (hi : i < 200) (h1 : T i ≠ 59) (h2 : T i ≠ 41) (h3 : ¬ isJ (T i)) : rf T V (200 - i) i false mn h c = some (false, i, []) := by
  unfold isJ at h3
  rw [k200 hi, rf, if_neg h1, if_neg h2, if_neg (by omega), if_neg (by omega), if_neg (by omega), if_neg (by omega), if_neg (by omega)]
theorem rf_cmp (hi : i < 200) (ht : T i = 60 ∨ T i = 61) : rf T V (200 - i) i false mn h c = if rtp (rst 5 h) = 4 then some (false, i, []) else rf T V (200 - (i + 1)) (i + 1) true false ((10000 + T i) :: rst 5 h) (c ++ stp 5 h) := by
  rw [k200 hi, rf, if_neg (by omega), if_neg (by omega), if_neg (by omega), if_neg (by omega), if_pos ht]
/-- where a level's signs stand -/
def Rl (l : Nat) : Nat := if l = 0 then 1 else if l = 1 then 2 else if l = 2 then 4 else if l = 3 then 5 else if l = 4 then 6 else 7
def Rm (l : Nat) : Nat := if l = 0 then 1 else if l = 1 then 2 else if l = 2 then 3 else if l = 3 then 5 else if l = 4 then 6 else 7
def jn (l t : Nat) : Prop := (l = 0 ∧ t = 3) ∨ (l = 1 ∧ t = 4) ∨ (l = 2 ∧ (t = 60 ∨ t = 61)) ∨ (l = 3 ∧ (t = 43 ∨ t = 45)) ∨ (l = 4 ∧ t = 42)
/-- a sign of a level but of the third -/
theorem rf_join {l : Nat} {pd : List Nat} (hi : i < 200) (hl : l ≠ 2) (hj : jn l (T i)) (hp : ∀ y, y ∈ pd → Rm l ≤ rk y) (hr : rtp h < Rl l) : rf T V (200 - i) i false mn (pd ++ h) c = rf T V (200 - (i + 1)) (i + 1) true (decide (T i ≤ 4)) ((10000 + T i) :: h) (c ++ pd) ∧ rk (10000 + T i) = Rl l ∧ Rm l = Rl l ∧ sp_joi (10000 + T i) ∧ opn ((10000 + T i) :: h) = opn h ∧ rtp ((10000 + T i) :: h) < Rl (l + 1) := by
  have e : ∀ r, Rm l = r → Rl l = r → stp r (pd ++ h) = pd ∧ rst r (pd ++ h) = h := fun r h1 h2 => st_all (fun y hy => by rw [← h1]; exact hp y hy) (by rw [← h2]; exact hr)
  rcases hj with ⟨rfl, ht⟩ | ⟨rfl, ht⟩ | ⟨rfl, ht⟩ | ⟨rfl, ht⟩ | ⟨rfl, ht⟩
  · have e1 := e 1 rfl rfl
    rw [k200 hi, rf, if_neg (by omega), if_neg (by omega), if_pos ht, e1.1, e1.2, ht]
    exact ⟨rfl, rfl, rfl, Or.inl rfl, by rw [opn]; simp, by show rk 10003 < Rl 1; decide⟩
  · have e1 := e 2 rfl rfl
    rw [k200 hi, rf, if_neg (by omega), if_neg (by omega), if_neg (by omega), if_pos ht, e1.1, e1.2, ht]
    exact ⟨rfl, rfl, rfl, Or.inr (Or.inl rfl), by rw [opn]; simp, by show rk 10004 < Rl 2; decide⟩
  · exact absurd rfl hl
  · have e1 := e 5 rfl rfl
    rw [k200 hi, rf, if_neg (by omega), if_neg (by omega), if_neg (by omega), if_neg (by omega), if_neg (by omega), if_pos ht, e1.1, e1.2]
    rcases ht with ht | ht
    · rw [ht]
      exact ⟨rfl, rfl, rfl, by simp [sp_joi], by rw [opn]; simp, by show rk 10043 < Rl 4; decide⟩
    · rw [ht]
      exact ⟨rfl, rfl, rfl, by simp [sp_joi], by rw [opn]; simp, by show rk 10045 < Rl 4; decide⟩
  · have e1 := e 6 rfl rfl
    rw [k200 hi, rf, if_neg (by omega), if_neg (by omega), if_neg (by omega), if_neg (by omega), if_neg (by omega), if_neg (by omega), if_pos ht, e1.1, e1.2, ht]
    exact ⟨rfl, rfl, rfl, by simp [sp_joi], by rw [opn]; simp, by show rk 10042 < Rl 5; decide⟩
/-- what can't stand behind a level -/
def xit (l t : Nat) (pd : List Nat) : Prop := (l ≤ 4 → t ≠ 42) ∧ (l ≤ 3 → t ≠ 43 ∧ t ≠ 45) ∧ (l ≤ 2 → (t = 60 ∨ t = 61) → ∃ p1 x p2, pd = p1 ++ x :: p2 ∧ rk x = 4 ∧ ∀ y, y ∈ p1 → 5 ≤ rk y) ∧ (l ≤ 1 → t ≠ 4) ∧ (l ≤ 0 → t ≠ 3)
theorem xit_app {l t : Nat} {pd q : List Nat} (hx : xit l t pd) : xit l t (pd ++ q) := by
  refine ⟨hx.1, hx.2.1, fun hl ht => ?_, hx.2.2.2⟩
  obtain ⟨p1, x, p2, h1, h2, h3⟩ := hx.2.2.1 hl ht
  exact ⟨p1, x, p2 ++ q, by rw [h1, List.append_assoc, List.cons_append], h2, h3⟩
theorem rf_stop {pd : List Nat} (hi : i < 200) (hx : xit 0 (T i) pd) (hp : ∀ y, y ∈ pd → 1 ≤ rk y) (hh : (h = [] ∧ T i ≠ 59) ∨ ((∃ h', h = 10040 :: h') ∧ T i ≠ 41)) : rf T V (200 - i) i false mn (pd ++ h) c = some (false, i, []) := by
  have hr : rtp h < 1 := by
    rcases hh with ⟨rfl, -⟩ | ⟨⟨h', rfl⟩, -⟩
    · decide
    · show rk 10040 < 1
      decide
  have e1 := st_all hp hr
  by_cases h59 : T i = 59
  · rcases hh with ⟨-, q⟩ | ⟨⟨h', rfl⟩, -⟩
    · exact absurd h59 q
    · rw [rf_semi hi h59, e1.2, if_neg (by simp)]
  · by_cases h41 : T i = 41
    · rcases hh with ⟨rfl, -⟩ | ⟨-, q⟩
      · exact rf_close0 hi h41 e1.2
      · exact absurd h41 q
    · by_cases hc : T i = 60 ∨ T i = 61
      · obtain ⟨p1, x, p2, g1, g2, g3⟩ := hx.2.2.1 (by decide) hc
        have e2 : rst 5 (pd ++ h) = x :: (p2 ++ h) := by
          rw [g1, List.append_assoc, (st_app g3).2, List.cons_append, rst, if_neg (by omega)]
        rw [rf_cmp hi hc, e2, if_pos (show rtp (x :: (p2 ++ h)) = 4 from g2)]
      · refine rf_none hi h59 h41 (fun q => ?_)
        have a1 := hx.1 (by decide)
        have a2 := hx.2.1 (by decide)
        have a3 := hx.2.2.2.1 (by decide)
        have a4 := hx.2.2.2.2 (by decide)
        unfold isJ at q
        omega
/-- code that leaves one more number, D at most on the way -/
def wfD (D : Nat) (e : List Nat) : Prop := ∀ (H : Nat) (r : List Nat), H + D ≤ 31 → sp_wf (H + 1) r → sp_wf H (e ++ r)
theorem wfD.mono {D D' : Nat} {e : List Nat} (h : wfD D e) (hd : D ≤ D') : wfD D' e := fun H r h1 h2 => h H r (by omega) h2
theorem wfD.one {D v : Nat} (hd : 1 ≤ D) (hv : sp_num v ∨ sp_nam v) : wfD D [v] := fun H r h1 h2 => Or.inl ⟨hv, by omega, h2⟩
theorem wfD.turn {D v : Nat} {e : List Nat} (h : wfD D e) (hv : sp_trn v) : wfD D (e ++ [v]) := fun H r h1 h2 => by
  rw [List.append_assoc]
  exact h H _ h1 (Or.inr (Or.inl ⟨hv, by omega, h2⟩))
theorem wfD.join {D v : Nat} {e e2 : List Nat} (h : wfD (D + 1) e) (h2 : wfD D e2) (hv : sp_joi v) : wfD (D + 1) (e ++ e2 ++ [v]) := fun H r a1 a2 => by
  rw [List.append_assoc, List.append_assoc]
  refine h H _ a1 (h2 (H + 1) _ (by omega) (Or.inr (Or.inr ⟨hv, by omega, ?_⟩)))
  exact a2
end RF
