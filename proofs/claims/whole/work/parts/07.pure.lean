/-! programs as functions of the numbers alone: none where the machine would not go on -/
def it_FU : Nat := 100000
def it_bd (i : Int32) (n : Nat) : Bool := decide (0 ≤ i) && decide (i.toNatClampNeg < n)
theorem it_bd_in {i : Int32} {n : Nat} (h : it_bd i n = true) : vp_in i n := by
  simp only [it_bd, Bool.and_eq_true, decide_eq_true_eq] at h
  rintro (h1 | h1)
  · exact absurd h.1 (Int32.not_le.mpr h1)
  · omega
def it_bz (i : Int32) : Bool := decide (i = 0 ∨ i = 1)
theorem it_bz_n {i : Int32} (h : it_bz i = true) : narrow .boolean (.int i) = .int i := by
  have h1 : i = 0 ∨ i = 1 := of_decide_eq_true h
  rcases h1 with rfl | rfl <;> rfl
def it_ok {ρ : Type} (o : Option (ρ × it_SS)) (P : ρ → it_SS → Prop) : Prop := ∃ r S, o = some (r, S) ∧ P r S
theorem it_ok_t {ρ : Type} {c : Prop} {i : Decidable c} {A B : Option (ρ × it_SS)} {P : ρ → it_SS → Prop} (h : it_ok (@ite _ c i A B) P) (hc : c) : it_ok A P := by rwa [if_pos hc] at h
theorem it_ok_f {ρ : Type} {c : Prop} {i : Decidable c} {A B : Option (ρ × it_SS)} {P : ρ → it_SS → Prop} (h : it_ok (@ite _ c i A B) P) (hc : ¬ c) : it_ok B P := by rwa [if_neg hc] at h
theorem it_ok_n {ρ : Type} {P : ρ → it_SS → Prop} (h : it_ok (none : Option (ρ × it_SS)) P) : False := by
  obtain ⟨r, S, h, -⟩ := h
  cases h
theorem it_ok_g {ρ : Type} {c : Prop} {i : Decidable c} {A : Option (ρ × it_SS)} {P : ρ → it_SS → Prop} (h : it_ok (@ite _ c i A none) P) : c ∧ it_ok A P := by
  by_cases hc : c
  · exact ⟨hc, it_ok_t h hc⟩
  · exact (it_ok_n (it_ok_f h hc)).elim
theorem it_ok_z {ρ : Type} {c : Prop} {i : Decidable c} {A : Option (ρ × it_SS)} {P : ρ → it_SS → Prop} (h : it_ok (@ite _ c i none A) P) : ¬ c ∧ it_ok A P := by
  by_cases hc : c
  · exact (it_ok_n (it_ok_t h hc)).elim
  · exact ⟨hc, it_ok_f h hc⟩
def it_bi {ρ τ : Type} (o : Option (ρ × it_SS)) (k : ρ → it_SS → Option (τ × it_SS)) : Option (τ × it_SS) := match o with
  | none => none
  | some q => k q.1 q.2
theorem it_bi_some {ρ τ : Type} (r : ρ) (S : it_SS) (k : ρ → it_SS → Option (τ × it_SS)) : it_bi (some (r, S)) k = k r S := rfl
theorem it_ok_b {ρ τ : Type} {o : Option (ρ × it_SS)} {k : ρ → it_SS → Option (τ × it_SS)} {P : τ → it_SS → Prop} (h : it_ok (it_bi o k) P) : it_ok o (fun r S => it_ok (k r S) P) := by
  obtain ⟨r, S, h, hp⟩ := h
  match o, h with
  | some q, h => exact ⟨q.1, q.2, rfl, r, S, h, hp⟩
theorem it_ok_r {ρ : Type} {r : ρ} {S : it_SS} {P : ρ → it_SS → Prop} (h : it_ok (some (r, S)) P) : P r S := by
  obtain ⟨r1, S1, h, hp⟩ := h
  cases h
  exact hp
theorem it_ok_i {ρ : Type} {r : ρ} {S : it_SS} {o : Option (ρ × it_SS)} {P : ρ → it_SS → Prop} (h : o = some (r, S)) (hp : P r S) : it_ok o P := ⟨r, S, h, hp⟩
def it_pi (κ : it_KK) (P : Int32 → it_SS → Prop) : Option Value → it_KK → it_SS → Prop := fun v κ' S' => κ = κ' ∧ ∃ r, v = some (.int r) ∧ P r S'
def it_pl (κ : it_KK) (P : Int64 → it_SS → Prop) : Option Value → it_KK → it_SS → Prop := fun v κ' S' => κ = κ' ∧ ∃ r, v = some (.long r) ∧ P r S'
def it_pv (κ : it_KK) (P : Unit → it_SS → Prop) : Option Value → it_KK → it_SS → Prop := fun v κ' S' => κ = κ' ∧ v = none ∧ P () S'
def it_keep (bs : List Bool) (L : it_L) : it_L := List.zipWith (fun b o => if b = true then o else none) bs L
section ITK
variable {g : it_G} {l : Launch} {d : Nat} {M : it_M} {kc ks pc : Nat} {L : it_L} {st : List Value} {κ : it_KK} {S : it_SS} {P : Option Value → it_KK → it_SS → Prop}
theorem ev_keep (bs : List Bool) (h : it_Ev g l d M kc ks pc (it_keep bs L) st κ S P) : it_Ev g l d M kc ks pc L st κ S P := by
  refine ev_forget (fun i v hv => ?_) h
  simp only [it_keep, List.getElem?_zipWith] at hv
  split at hv
  · rename_i b o h1 h2
    rw [h2]
    cases b <;> simp_all
  · cases hv
theorem ev_getRr {a ci k i r : Nat} (hr : it_lay ci k a = r) (hd : decode M.2.1 pc = .ok (.getfield i, 3)) (hf : it_fl M.1.cls i ci k) (ho : it_ob κ a ci) (hm : (it_mask ci)[k]? = some true) (kk : it_Ev g l d M kc ks (pc + 3) L (.ref r :: st) κ S P) : it_Ev g l d M kc ks pc L (.ref a :: st) κ S P := by
  subst hr
  exact ev_getR hd hf ho hm kk
theorem ev_table {dflt lo hi : Int} {offs : Array Int} {len : Nat} {x c1 : Int32} {off : Int} {tgt : Nat} (hx : x = c1) (hd : decode M.2.1 pc = .ok (.tableswitch dflt lo hi offs, len)) (h1 : ¬ c1.toInt < lo) (h2 : ¬ hi < c1.toInt) (ho : offs[(c1.toInt - lo).toNat]? = some off) (ht : (pc : Int) + off = (tgt : Int)) (kk : it_Ev g l d M kc ks tgt L st κ S P) : it_Ev g l d M kc ks pc L (.int x :: st) κ S P := by
  subst hx
  exact ev_tableIn hd h1 h2 ho ht kk
theorem it_sw {x : Int32} {lo hi : Int} (h : lo ≤ x.toInt → x.toInt ≤ hi → False) : x.toInt < lo ∨ hi < x.toInt := by
  by_cases h1 : x.toInt < lo
  · exact Or.inl h1
  · by_cases h2 : hi < x.toInt
    · exact Or.inr h2
    · exact (h (by omega) (by omega)).elim
end ITK
/-! which cells there are -/
/-- a house -/
def it_hs (κ : it_KK) (h : Nat) : Prop := it_ob κ h 0 ∧ it_ar κ (h + 1) 6 ∧ it_ar κ (h + 2) 6 ∧ it_ar κ (h + 3) 6 ∧ it_ar κ (h + 4) 6 ∧ it_ar κ (h + 5) 10 ∧ it_ar κ (h + 6) 10 ∧ it_ar κ (h + 7) 10
/-- a sheet -/
def it_sh (κ : it_KK) (a : Nat) : Prop := it_ob κ a 2 ∧ it_ar κ (a + 1) 40
/-- a text -/
def it_tx (κ : it_KK) (a : Nat) : Prop := it_ob κ a 4 ∧ it_ar κ (a + 1) (κ.2.1 (a + 1)).2 ∧ it_ar κ (a + 2) 3
/-- the tape -/
def it_wt (κ : it_KK) : Prop := it_ob κ 5 3 ∧ it_ar κ 6 160 ∧ it_ar κ 7 160 ∧ it_ar κ 8 3
/-- the book of texts -/
def it_wb (κ : it_KK) : Prop := it_ob κ 1 1 ∧ it_rr κ 2 1 6 ∧ it_ar κ 3 6 ∧ it_ar κ 4 40 ∧ ∀ t, κ.2.2 2 t = true → it_tx κ (it_el 1 t)
/-- the class's object -/
def it_wx (κ : it_KK) : Prop := it_ob κ 0 5 ∧ it_wb κ ∧ it_wt κ ∧ it_hs κ 9 ∧ it_hs κ 17 ∧ it_hs κ 25 ∧ it_rr κ 33 2 4 ∧ (∀ j, j < 4 → κ.2.2 33 j = true) ∧ ∀ j, j < 4 → it_sh κ (it_el 2 j)
/-- the reference's object -/
def it_wm (κ : it_KK) : Prop := it_ob κ 45 6 ∧ it_ar κ 46 6 ∧ it_ar κ 47 6 ∧ it_ar κ 48 12 ∧ it_ar κ 49 30 ∧ it_ar κ 50 160 ∧ it_ar κ 51 1200 ∧ it_ar κ 52 24 ∧ it_ar κ 53 42 ∧ it_ar κ 54 3 ∧ it_ar κ 55 4 ∧ it_ar κ 56 4 ∧ it_ar κ 57 160 ∧ it_ar κ 58 36 ∧ it_ar κ 59 96 ∧ it_ar κ 60 200 ∧ it_ar κ 61 200 ∧ it_ar κ 62 6 ∧ it_ar κ 63 43 ∧ it_ar κ 64 10
theorem it_bd_lt {i : Int32} {n : Nat} (h : it_bd i n = true) : i.toNatClampNeg < n := by
  simp only [it_bd, Bool.and_eq_true, decide_eq_true_eq] at h
  exact h.2
theorem it_j0 : ∀ w ∈ u_ws it_R0 it_F0 11, w ∈ it_tb := fun w hw => it_in_tb (it_i0 w hw) (List.all_eq_true.mp (by decide +kernel : (u_ws it_R0 it_F0 11).all goodWord = true) w hw)
theorem it_j1 : ∀ w ∈ u_ws it_R1 it_F1 4, w ∈ it_tb := fun w hw => it_in_tb (it_i1 w hw) (List.all_eq_true.mp (by decide +kernel : (u_ws it_R1 it_F1 4).all goodWord = true) w hw)
theorem it_j2 : ∀ w ∈ u_ws it_R2 it_F2 3, w ∈ it_tb := fun w hw => it_in_tb (it_i2 w hw) (List.all_eq_true.mp (by decide +kernel : (u_ws it_R2 it_F2 3).all goodWord = true) w hw)
theorem it_j3 : ∀ w ∈ u_ws it_R3 it_F3 9, w ∈ it_tb := fun w hw => it_in_tb (it_i3 w hw) (List.all_eq_true.mp (by decide +kernel : (u_ws it_R3 it_F3 9).all goodWord = true) w hw)
theorem it_j4 : ∀ w ∈ u_ws it_R4 it_F4 2, w ∈ it_tb := fun w hw => it_in_tb (it_i4 w hw) (List.all_eq_true.mp (by decide +kernel : (u_ws it_R4 it_F4 2).all goodWord = true) w hw)
theorem it_j5 : ∀ w ∈ u_ws it_R5 it_F5 7, w ∈ it_tb := fun w hw => it_in_tb (it_i5 w hw) (List.all_eq_true.mp (by decide +kernel : (u_ws it_R5 it_F5 7).all goodWord = true) w hw)
theorem it_j6 : ∀ w ∈ u_ws it_R6 it_F6 34, w ∈ it_tb := fun w hw => it_in_tb (it_i6 w hw) (List.all_eq_true.mp (by decide +kernel : (u_ws it_R6 it_F6 34).all goodWord = true) w hw)
