/-! a concept keeps the relation -/
theorem in02 {t : Int32} (h : m_in t 0 2 = true) : t = 0 ∨ t = 1 ∨ t = 2 := by
  have rt : rg t 3 := in_rg h (n := 3) rfl (by decide)
  obtain ⟨e, l⟩ := rt
  generalize ix t = i at e l
  subst e
  exact (by decide : ∀ i, i < 3 → nI i = 0 ∨ nI i = 1 ∨ nI i = 2) i l
theorem in01 {t : Int32} (h : m_in t 0 1 = true) : t = 0 ∨ t = 1 := by
  have rt : rg t 2 := in_rg h (n := 2) rfl (by decide)
  obtain ⟨e, l⟩ := rt
  generalize ix t = i at e l
  subst e
  exact (by decide : ∀ i, i < 2 → nI i = 0 ∨ nI i = 1) i l
theorem RL_con {B : Nat → Nat → Bool} {N : Nat → Nat} {E : Nat → Nat → Int32} {J : Nat → Int32} {ph : Bool} {V : Nat → Int64} {r : Nat → Int32} {en re : Int32} {O : Nat → Nat → Option Nat} {z : Nat} {tx : Nat → Int32} {X : Nat → Nat → Bool} {Y : Nat → Nat → Int32} {fc : Nat} {sl : Bool} {P : va_W} (h : RL B N E J ph V r en re O z tx X Y fc sl P) {x1 x2 x3 x4 : Int32} (hk : k_con N x1 x2 x3 x4 = true) {q : Nat} : RL B (va_up N 0 (N 0 + 1)) (e_con E (N 0) x1 x2 x3 x4) J ph V r en re (va_up O 0 (va_up (O 0) (N 0) (some q))) z tx X Y fc sl (P ++ [(q, .inr (6, [.int x1, .int x2, .int x3, .int x4]))]) := by
  obtain ⟨a1, a2, a3, a4, a5, a6, ⟨j7, a7⟩, a8⟩ := h
  obtain ⟨pC, pA, pX, pU, pF, I, hA, hF, hre, hV⟩ := a2
  unfold k_con at hk
  simp only [Bool.and_eq_true, decide_eq_true_eq] at hk
  obtain ⟨c1, c2, -, c4, h8⟩ := hk
  have hk : ∀ k c, (k ≠ 0 ∧ k ≠ 1 ∧ k ≠ 2 ∧ k ≠ 3) ∨ c < N 0 → E k c = e_con E (N 0) x1 x2 x3 x4 k c := fun k c q => by
    unfold e_con
    by_cases e0 : k = 3
    · rw [e0, va_up_self, pk_un (by omega)]
    · rw [va_up_ne _ _ e0]
      by_cases e1 : k = 2
      · rw [e1, va_up_self, pk_un (by omega)]
      · rw [va_up_ne _ _ e1]
        by_cases e2 : k = 1
        · rw [e2, va_up_self, pk_un (by omega)]
        · rw [va_up_ne _ _ e2]
          by_cases e3 : k = 0
          · rw [e3, va_up_self, pk_un (by omega)]
          · rw [va_up_ne _ _ e3]
  have I0 : ∀ c, rg (e_con E (N 0) x1 x2 x3 x4 0 c) 8 := fun c => upd_all (Q := fun v => rg v 8) I.1 (in_rg c1 (n := 8) rfl (by decide)) c
  refine ⟨a1, ⟨fun c hc => ?_, pArc_ext _ pA, pCtx_ext _ pX, pUni_ext _ pU, pFac_ext _ pF, ⟨I0, I.2⟩, fun a ha => ⟨Nat.lt_succ_of_lt (hA a ha).1, Nat.lt_succ_of_lt (hA a ha).2⟩, fun f hf => Nat.lt_succ_of_lt (hF f hf), hre, hV⟩, ⟨by show N 0 + 1 ≤ 16; omega, a3.2⟩, ⟨a4.1, fun c => upd_all (Q := fun v => v = 0 ∨ v = 1 ∨ v = 2) a4.2.1 (in02 c2) c, fun c => upd_all (Q := fun v => v = 0 ∨ v = 1) a4.2.2.1 (in01 c4) c, a4.2.2.2⟩, ⟨fun a ha => ⟨Nat.lt_succ_of_lt (hA a ha).1, Nat.lt_succ_of_lt (hA a ha).2⟩, fun f hf => ⟨Nat.lt_succ_of_lt (a5.2.1 f hf).1, (a5.2.1 f hf).2⟩, fun c _ => (I0 c).2, a5.2.2.2⟩, a6, ⟨j7, ge_app a7⟩, fun q => s_fresh (N := N) (N1 := va_up N 0 (N 0 + 1)) (E := E) ⟨fun _ _ => rfl, fun _ _ => rfl, fun k c h1 h2 => hk k c (by omega), fun k c h1 h2 _ => hk k c (by omega), fun k c h1 h2 h3 => hk k c (by omega), fun k c h1 h2 _ => hk k c (by omega), fun k c h1 h2 _ => hk k c (by omega), fun _ _ => rfl⟩ a5 rfl rfl (Nat.le_succ (N 0)) (a8 q)⟩
  by_cases e : c = N 0
  · rw [e]
    refine ⟨q, P.length, va_up_self _ _ _, ?_⟩
    rw [pe_at]
    show some (q, _) = some (q, Sum.inr (6, [Value.int (upd (E 0) (N 0) x1 (N 0)), Value.int (upd (E 1) (N 0) x2 (N 0)), Value.int (upd (E 2) (N 0) x3 (N 0)), Value.int (upd (E 3) (N 0) x4 (N 0))]))
    rw [pk_us, pk_us, pk_us, pk_us]
  · have hc2 : c < N 0 := by have : c < N 0 + 1 := hc; omega
    obtain ⟨q1, k1, h1, h2⟩ := pC c hc2
    refine ⟨q1, k1, (va_up_ne _ _ e).trans h1, ?_⟩
    rw [← hk 0 c (Or.inr hc2), ← hk 1 c (Or.inr hc2), ← hk 2 c (Or.inr hc2), ← hk 3 c (Or.inr hc2)]
    exact ge_app h2
