/-! the relation that the law's loop keeps -/
noncomputable def bF (B : Nat → Nat → Bool) : Nat → Nat → Bool := va_up B 2 (d_fo B)
theorem fo_same {B B1 : Nat → Nat → Bool} (h0 : B1 0 = B 0) (h1 : B1 1 = B 1) {d : Nat} (hd : d < 8) : d_fo B1 d = d_fo B d := by
  rw [Bool.eq_iff_iff, found_iff B1 hd, found_iff B hd, h0, h1]
def RL (B : Nat → Nat → Bool) (N : Nat → Nat) (E : Nat → Nat → Int32) (J : Nat → Int32) (ph : Bool) (V : Nat → Int64) (r : Nat → Int32) (en re : Int32) (O : Nat → Nat → Option Nat) (z : Nat) (tx : Nat → Int32) (X : Nat → Nat → Bool) (Y : Nat → Nat → Int32) (fc : Nat) (sl : Bool) (P : va_W) : Prop :=
  rlD B r en re ∧ cI (bF B) N E V O P re ∧ mN N ∧ mU N E ∧ wf N E ∧ tx = E 18 ∧ (∃ j : Nat, P[j]? = some (z, .inr (7, [.int (J 0), .int (J 1), .int (b2i ph)]))) ∧ (sl = false → fresh (bF B) N E V X Y fc)
section RS
variable {B B1 : Nat → Nat → Bool} {N N1 : Nat → Nat} {E E1 : Nat → Nat → Int32} {J J1 : Nat → Int32} {ph : Bool} {V V1 : Nat → Int64} {r : Nat → Int32} {en re : Int32} {O : Nat → Nat → Option Nat} {z : Nat} {tx : Nat → Int32} {X : Nat → Nat → Bool} {Y : Nat → Nat → Int32} {fc : Nat} {sl : Bool} {P : va_W}
theorem sm_B (h0 : B1 0 = B 0) (h1 : B1 1 = B 1) (h3 : B1 3 = B 3) : sm N (bF B) (bF B1) E E V V :=
  ⟨fun d hd => (fo_same h0 h1 hd).symm, fun a _ => congrFun h3.symm a, fun _ _ _ _ => rfl, fun _ _ _ _ _ => rfl, fun _ _ _ _ _ => rfl, fun _ _ _ _ _ => rfl, fun _ _ _ _ _ => rfl, fun _ _ => rfl⟩
/-- a question leaves the relation: the reference's own notes (found, way, met, wanted, answer) don't count -/
theorem RL_B (h : RL B N E J ph V r en re O z tx X Y fc sl P) (h0 : B1 0 = B 0) (h1 : B1 1 = B 1) (h3 : B1 3 = B 3) (j0 : J1 0 = J 0) (j1 : J1 1 = J 1) : RL B1 N E J1 ph V r en re O z tx X Y fc sl P := by
  obtain ⟨a1, a2, a3, a4, a5, a6, a7, a8⟩ := h
  refine ⟨?_, ?_, a3, a4, a5, a6, by rw [j0, j1]; exact a7, fun q => s_fresh (sm_B h0 h1 h3) a5 rfl rfl (Nat.le_refl _) (a8 q)⟩
  · exact ⟨fun a b ha hb => by rw [h0]; exact a1.1 a b ha hb, fun d hd => by rw [h1]; exact a1.2.1 d hd, a1.2.2⟩
  · obtain ⟨pC, pA, pX, pU, pF, I, hA, hF, hre, hV⟩ := a2
    refine ⟨pC, ?_, pX, pU, pF, I, hA, hF, fun d hd => ?_, hV⟩
    · intro c hc
      have := pA c hc
      rw [show bF B1 3 = bF B 3 from h3]
      exact this
    · rw [hre d hd]
      exact (fo_same h0 h1 hd).symm
end RS
