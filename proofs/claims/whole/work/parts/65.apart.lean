section APART
variable {κ : it_KK} {S S' S0 A B : it_SS} {G : Nat} {tb : Nat → Nat → List Nat} {T n : Nat} {by' : Nat → Int32} {ik : Int32} {AK : it_SS} {GK : Nat} {so sz : Nat → Int32} {ce : it_SS}
/-! nobody's glasses touch another's mood -/
def ap (p : Nat) (A B : it_SS) : Prop := (A 2 p = B 2 p ∧ A 3 p = B 3 p ∧ A 4 p = B 4 p ∧ A 5 p = B 5 p ∧ A 9 0 = B 9 0 ∧ A 10 0 = B 10 0) ∧ ∀ g, g < 10 → (A 6 g = nI p ↔ B 6 g = nI p) ∧ (A 6 g = nI p → A 7 g = B 7 g ∧ A 8 g = B 8 g)
theorem ap.refl (p : Nat) (A : it_SS) : ap p A A := ⟨⟨rfl, rfl, rfl, rfl, rfl, rfl⟩, fun _ _ => ⟨Iff.rfl, fun _ => ⟨rfl, rfl⟩⟩⟩
theorem ap.symm {p : Nat} (h : ap p A B) : ap p B A := ⟨⟨h.1.1.symm, h.1.2.1.symm, h.1.2.2.1.symm, h.1.2.2.2.1.symm, h.1.2.2.2.2.1.symm, h.1.2.2.2.2.2.symm⟩, fun g hg => ⟨(h.2 g hg).1.symm, fun q => by
  have := (h.2 g hg).2 ((h.2 g hg).1.mpr q)
  exact ⟨this.1.symm, this.2.symm⟩⟩⟩
theorem ap.trans {p : Nat} {C : it_SS} (h : ap p A B) (k : ap p B C) : ap p A C := ⟨⟨h.1.1.trans k.1.1, h.1.2.1.trans k.1.2.1, h.1.2.2.1.trans k.1.2.2.1, h.1.2.2.2.1.trans k.1.2.2.2.1, h.1.2.2.2.2.1.trans k.1.2.2.2.2.1, h.1.2.2.2.2.2.trans k.1.2.2.2.2.2⟩, fun g hg => ⟨(h.2 g hg).1.trans (k.2 g hg).1, fun q => by
  have a := (h.2 g hg).2 q
  have b := (k.2 g hg).2 ((h.2 g hg).1.mp q)
  exact ⟨a.1.trans b.1, a.2.trans b.2⟩⟩⟩
theorem ap.say {p g q : Nat} (h : ap p A B) (hg : g < 10) (hp : p < 6) (hw : A 6 g = nI p) : sp_p A g = p ∧ sp_p B g = p ∧ sp_say tb A q g = sp_say tb B q g := by
  have hb := (h.2 g hg).1.mp hw
  have h7 := (h.2 g hg).2 hw
  have pa : sp_p A g = p := by rw [sp_p, hw, nI_clamp (by omega)]
  have pb : sp_p B g = p := by rw [sp_p, hb, nI_clamp (by omega)]
  have e : sp_nm A g = sp_nm B g := by
    funext k
    simp only [sp_nm, pa, pb, h7.1, h7.2, h.1.2.2.2.1, h.1.2.2.1, h.1.2.2.2.2.1, h.1.2.1]
  exact ⟨pa, pb, by rw [sp_say, sp_say, e, h.1.2.2.2.2.2]⟩
theorem ap.melt {p g : Nat} (h : ap p A B) (hg : g < 10) (hp : p < 6) (hw : A 6 g = nI p) : sp_melt tb A g = sp_melt tb B g := by
  obtain ⟨pa, pb, e⟩ := h.say (tb := tb) (q := 0) hg hp hw
  simp only [sp_melt, pa, pb, e, h.1.1, h.1.2.1, h.1.2.2.2.1, h.1.2.2.2.2.1]
theorem ap.feel {p g : Nat} (h : ap p A B) (hg : g < 10) (hp : p < 6) (hw : A 6 g = nI p) : sp_feel tb A g = sp_feel tb B g := by
  obtain ⟨pa, pb, e⟩ := h.say (tb := tb) (q := 1) hg hp hw
  simp only [sp_feel, sp_father, pa, pb, e, h.1.1, h.1.2.1, h.1.2.2.2.1]
theorem ap.up8 {p g : Nat} {v : Int32} (h : ap p A B) : ap p (it_up A 8 g v) (it_up B 8 g v) := by
  obtain ⟨h1, h2⟩ := h
  refine ⟨by simp only [it_up_ne (show (2 : Nat) ≠ 8 by decide), it_up_ne (show (3 : Nat) ≠ 8 by decide), it_up_ne (show (4 : Nat) ≠ 8 by decide), it_up_ne (show (5 : Nat) ≠ 8 by decide), it_up_ne (show (9 : Nat) ≠ 8 by decide), it_up_ne (show (10 : Nat) ≠ 8 by decide)]; exact h1, fun j hj => ?_⟩
  simp only [it_up_ne (show (6 : Nat) ≠ 8 by decide), it_up_ne (show (7 : Nat) ≠ 8 by decide), it_up_eq, upd]
  refine ⟨(h2 j hj).1, fun q => ⟨((h2 j hj).2 q).1, ?_⟩⟩
  split
  · rfl
  · exact ((h2 j hj).2 q).2
theorem ap.up4 {p : Nat} {v : Int32} (h : ap p A B) : ap p (it_up A 4 p v) (it_up B 4 p v) := by
  obtain ⟨⟨a, b, c, d, e, f⟩, h2⟩ := h
  refine ⟨⟨by rw [it_up_ne (by decide), it_up_ne (by decide)]; exact a, by rw [it_up_ne (by decide), it_up_ne (by decide)]; exact b, by rw [it_up_eq, it_up_eq, upd, upd, if_pos rfl, if_pos rfl], by rw [it_up_ne (by decide), it_up_ne (by decide)]; exact d, by rw [it_up_ne (by decide), it_up_ne (by decide)]; exact e, by rw [it_up_ne (by decide), it_up_ne (by decide)]; exact f⟩, fun j hj => ?_⟩
  simp only [it_up_ne (show (6 : Nat) ≠ 4 by decide), it_up_ne (show (7 : Nat) ≠ 4 by decide), it_up_ne (show (8 : Nat) ≠ 4 by decide)]
  exact h2 j hj
theorem ap.up6 {p g : Nat} (hp : p < 6) (h : ap p A B) : ap p (it_up A 6 g (-1)) (it_up B 6 g (-1)) := by
  obtain ⟨h1, h2⟩ := h
  refine ⟨by simp only [it_up_ne (show (2 : Nat) ≠ 6 by decide), it_up_ne (show (3 : Nat) ≠ 6 by decide), it_up_ne (show (4 : Nat) ≠ 6 by decide), it_up_ne (show (5 : Nat) ≠ 6 by decide), it_up_ne (show (9 : Nat) ≠ 6 by decide), it_up_ne (show (10 : Nat) ≠ 6 by decide)]; exact h1, fun j hj => ?_⟩
  simp only [it_up_ne (show (8 : Nat) ≠ 6 by decide), it_up_ne (show (7 : Nat) ≠ 6 by decide), it_up_eq, upd]
  by_cases e : j = g
  · rw [if_pos e, if_pos e]
    exact ⟨Iff.rfl, fun q => absurd q.symm (nI_nm1 (by omega))⟩
  · rw [if_neg e, if_neg e]
    exact h2 j hj
theorem ap.ic {p g : Nat} (h : ap p A B) (hg : g < 10) (hp : p < 6) (hw : A 6 g = nI p) : sp_ic tb A g = sp_ic tb B g := by
  rw [sp_ic, sp_ic, h.melt (tb := tb) hg hp hw, ((h.2 g hg).2 hw).2]
/-- a glass of another -/
theorem d1_ap {p g : Nat} (hA : hR A G T) (hg : g < 10) (hp : p < 6) (h : ¬ A 6 g = nI p) : ap p (sp_d1 tb A g) A := by
  rw [sp_d1]
  by_cases h1 : A 6 g = -1
  · rw [if_pos h1]
    exact ap.refl p A
  · rw [if_neg h1]
    obtain ⟨q, hq, hw, hpp⟩ := hA.p hg h1
    have hqp : p ≠ q := fun e => h (by rw [e]; exact hw)
    have k0 : ap p (sp_d0 tb A g) A := by
      rw [sp_d0]
      refine ⟨⟨by rw [it_up_ne (by decide)], by rw [it_up_ne (by decide)], by rw [it_up_ne (by decide)], by rw [it_up_ne (by decide)], by rw [it_up_ne (by decide)], by rw [it_up_ne (by decide)]⟩, fun j hj => ?_⟩
      rw [it_up_ne (show (6 : Nat) ≠ 8 by decide), it_up_ne (show (7 : Nat) ≠ 8 by decide), it_up_eq, upd]
      refine ⟨Iff.rfl, fun e => ⟨rfl, if_neg (fun e2 => h (by rw [← e2]; exact e))⟩⟩
    split
    · rw [hpp]
      generalize sp_cl (A 4 q + sp_feel tb (sp_d0 tb A g) g) (-99) 99 = v
      refine ap.trans ?_ k0
      generalize sp_d0 tb A g = C at k0
      refine ⟨⟨by rw [it_up_ne (by decide), it_up_ne (by decide)], by rw [it_up_ne (by decide), it_up_ne (by decide)], by rw [it_up_ne (by decide), it_up_eq, upd, if_neg hqp], by rw [it_up_ne (by decide), it_up_ne (by decide)], by rw [it_up_ne (by decide), it_up_ne (by decide)], by rw [it_up_ne (by decide), it_up_ne (by decide)]⟩, fun j hj => ?_⟩
      rw [it_up_eq, upd, it_up_ne (show (6 : Nat) ≠ 4 by decide), it_up_ne (show (7 : Nat) ≠ 6 by decide), it_up_ne (show (7 : Nat) ≠ 4 by decide), it_up_ne (show (8 : Nat) ≠ 6 by decide), it_up_ne (show (8 : Nat) ≠ 4 by decide)]
      refine ⟨?_, fun _ => ⟨rfl, rfl⟩⟩
      by_cases e : j = g
      · rw [if_pos e, e]
        exact ⟨fun q => absurd q.symm (nI_nm1 (by omega)), fun q => absurd ((k0.2 g hg).1.mp q) h⟩
      · rw [if_neg e]
    · exact k0
theorem ap.d1 {p g : Nat} (hA : hR A G T) (hB : hR B G T) (hg : g < 10) (hp : p < 6) (h : ap p A B) : ap p (sp_d1 tb A g) (sp_d1 tb B g) := by
  by_cases hw : A 6 g = nI p
  · have hb := (h.2 g hg).1.mp hw
    have na : ¬ A 6 g = -1 := by rw [hw]; exact nI_nm1 (by omega)
    have nb : ¬ B 6 g = -1 := by rw [hb]; exact nI_nm1 (by omega)
    have ei := h.ic (tb := tb) hg hp hw
    have k0 : ap p (sp_d0 tb A g) (sp_d0 tb B g) := by
      rw [sp_d0, sp_d0, ei]
      exact h.up8
    obtain ⟨pa, pb, -⟩ := h.say (tb := tb) (q := 0) hg hp hw
    have e0 : sp_d0 tb A g 6 g = nI p := by rw [sp_d0, it_up_ne (by decide)]; exact hw
    rw [sp_d1, sp_d1, if_neg na, if_neg nb, ei, pa, pb, k0.feel (tb := tb) hg hp e0, h.1.2.2.1]
    split
    · exact (k0.up4).up6 hp
    · exact k0
  · have hb : ¬ B 6 g = nI p := fun q => hw ((h.2 g hg).1.mpr q)
    exact ((d1_ap hA hg hp hw).trans h).trans (d1_ap hB hg hp hb).symm
theorem ap.dl {p : Nat} (hp : p < 6) : ∀ (k g : Nat) (A B : it_SS) (b c : Int32), g + k ≤ 10 → hR A G T → hR B G T → ap p A B → ap p (sp_dl tb k g A b).1 (sp_dl tb k g B c).1
  | 0, _, _, _, _, _, _, _, _, h => h
  | k + 1, g, A, B, b, c, hg, hA, hB, h => by
    rw [sp_dl, sp_dl]
    exact ap.dl hp k (g + 1) _ _ _ _ (by omega) (hA.d1 (by omega)) (hB.d1 (by omega)) (h.d1 hA hB (by omega) hp)
theorem ap.c1 {p q : Nat} (h : ap p A B) : ap p (sp_c1 A q) (sp_c1 B q) := by
  obtain ⟨⟨a, b, c, d, e, f⟩, h2⟩ := h
  rw [sp_c1, sp_c1]
  refine ⟨⟨by rw [it_up_ne (by decide), it_up_ne (by decide)]; exact a, by rw [it_up_ne (by decide), it_up_ne (by decide)]; exact b, by rw [it_up_ne (by decide), it_up_ne (by decide)]; exact c, ?_, by rw [it_up_ne (by decide), it_up_ne (by decide)]; exact e, by rw [it_up_ne (by decide), it_up_ne (by decide)]; exact f⟩, fun j hj => ?_⟩
  · rw [it_up_eq, it_up_eq, upd, upd]
    by_cases e : p = q
    · rw [if_pos e, if_pos e, ← e, d]
    · rw [if_neg e, if_neg e]
      exact d
  · simp only [it_up_ne (show (6 : Nat) ≠ 5 by decide), it_up_ne (show (7 : Nat) ≠ 5 by decide), it_up_ne (show (8 : Nat) ≠ 5 by decide)]
    exact h2 j hj
theorem ap.cd {p : Nat} : ∀ (k q : Nat) (A B : it_SS), ap p A B → ap p (sp_cd k q A) (sp_cd k q B)
  | 0, _, _, _, h => h
  | k + 1, q, _, _, h => ap.cd k (q + 1) _ _ h.c1
theorem ap.day {p : Nat} (hp : p < 6) (hA : hR A G T) (hB : hR B G T) (h : ap p A B) : ap p (sp_day tb G A) (sp_day tb G B) := by
  have k := ap.cd G 0 _ _ (ap.dl (tb := tb) hp 10 0 A B 0 0 (by decide) hA hB h)
  rw [sp_day, sp_day]
  generalize sp_cd G 0 (sp_dl tb 10 0 A 0).1 = C at k
  generalize sp_cd G 0 (sp_dl tb 10 0 B 0).1 = D at k
  obtain ⟨⟨a, b, c, d, e, f⟩, h2⟩ := k
  refine ⟨⟨by rw [it_up_ne (by decide), it_up_ne (by decide)]; exact a, by rw [it_up_ne (by decide), it_up_ne (by decide)]; exact b, by rw [it_up_ne (by decide), it_up_ne (by decide)]; exact c, by rw [it_up_ne (by decide), it_up_ne (by decide)]; exact d, by rw [it_up_eq, it_up_eq, upd, upd, if_pos rfl, if_pos rfl, e], by rw [it_up_ne (by decide), it_up_ne (by decide)]; exact f⟩, fun j hj => ?_⟩
  simp only [it_up_ne (show (6 : Nat) ≠ 9 by decide), it_up_ne (show (7 : Nat) ≠ 9 by decide), it_up_ne (show (8 : Nat) ≠ 9 by decide)]
  exact h2 j hj
theorem ap.days {p : Nat} (hp : p < 6) : ∀ (k : Nat) (A B : it_SS), hR A G T → hR B G T → ap p A B → ap p (sp_days tb G k A) (sp_days tb G k B)
  | 0, _, _, _, _, h => h
  | k + 1, _, _, hA, hB, h => ap.days hp k _ _ hA.day hB.day (h.day hp hA hB)
theorem ap.iced {p w v : Nat} {x : Int32} (h : ∀ g, g < 10 → A 6 g = nI p → w.testBit g = v.testBit g) : ap p (sp_iced A w x 10) (sp_iced A v x 10) := by
  refine ⟨⟨by rw [iced_ne (by decide), iced_ne (by decide)], by rw [iced_ne (by decide), iced_ne (by decide)], by rw [iced_ne (by decide), iced_ne (by decide)], by rw [iced_ne (by decide), iced_ne (by decide)], by rw [iced_ne (by decide), iced_ne (by decide)], by rw [iced_ne (by decide), iced_ne (by decide)]⟩, fun j hj => ?_⟩
  rw [iced_ne (show (6 : Nat) ≠ 8 by decide), iced_ne (show (6 : Nat) ≠ 8 by decide), iced_ne (show (7 : Nat) ≠ 8 by decide), iced_ne (show (7 : Nat) ≠ 8 by decide)]
  refine ⟨Iff.rfl, fun q => ⟨rfl, ?_⟩⟩
  rw [sp_iced, sp_iced, h j hj q]
/-- the mood of one, some glasses iced -/
theorem mood_ap {p w v m : Nat} {x : Int32} (hr : hR A G T) (hp : p < G) (hx : 0 ≤ x.toInt ∧ x.toInt ≤ 99) (h : ∀ g, g < 10 → A 6 g = nI p → w.testBit g = v.testBit g) : sp_days tb G m (sp_iced A w x 10) 4 p = sp_days tb G m (sp_iced A v x 10) 4 p := by
  have hG := hr.2.1
  exact (ap.days (p := p) (by omega) m _ _ (hr.iced hx) (hr.iced hx) (ap.iced h)).1.2.2.1
end APART
