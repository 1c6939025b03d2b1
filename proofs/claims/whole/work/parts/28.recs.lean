/-- the four readers of each other, n deep -/
def f_rd (κ : it_KK) : Nat → Nat → Int32 → Int32 → it_SS → Option (Int32 × it_SS)
  | 0, _, _, _, _ => none
  | n + 1, t, a, b, S => if t = 0 then f_X3_readLevel κ (f_rd κ n) a b S else if t = 1 then f_X3_readOne κ (f_rd κ n) a S else if t = 2 then f_X3_readTurned κ (f_rd κ n) a b S else f_X3_readInner κ (f_rd κ n) a S
theorem L_rd {g : it_G} {l : Launch} {κ : it_KK} (ht : it_wt κ) : ∀ n : Nat, it_recs g l (n + 7) κ (f_rd κ n) := by
  intro n
  induction n with
  | zero => exact ⟨fun a b S P h => (it_ok_n h).elim, fun a S P h => (it_ok_n h).elim, fun a b S P h => (it_ok_n h).elim, fun a S P h => (it_ok_n h).elim⟩
  | succ n ih =>
    refine ⟨fun a b S P h => ?_, fun a S P h => ?_, fun a b S P h => ?_, fun a S P h => ?_⟩
    · exact (show n + 7 + 1 = n + 1 + 7 by omega) ▸ L_X3_readLevel ht ih (by omega) h
    · exact (show n + 7 + 1 = n + 1 + 7 by omega) ▸ L_X3_readOne ht ih (by omega) h
    · exact (show n + 7 + 1 = n + 1 + 7 by omega) ▸ L_X3_readTurned ht ih (by omega) h
    · exact (show n + 7 + 1 = n + 1 + 7 by omega) ▸ L_X3_readInner ht ih (by omega) h
def f_X3_readTop (κ : it_KK) (a b : Int32) (S : it_SS) : Option (Int32 × it_SS) := f_rd κ 60 0 a b S
theorem L_X3_readTop {g : it_G} {l : Launch} {κ : it_KK} {a b : Int32} (ht : it_wt κ) {S : it_SS} {P : Int32 → it_SS → Prop} (h : it_ok (f_X3_readTop κ a b S) P) : it_Cn g l 67 it_m_X3_readLevel [.ref 5, .int a, .int b] κ S (it_pi κ P) := (L_rd ht 60).1 a b S P h
