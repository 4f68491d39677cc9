/-! an add keeps the relation -/
section RA
variable {B : Nat → Nat → Bool} {N : Nat → Nat} {E : Nat → Nat → Int32} {J : Nat → Int32} {ph : Bool} {V : Nat → Int64} {r : Nat → Int32} {en re : Int32} {O : Nat → Nat → Option Nat} {z : Nat} {tx : Nat → Int32} {X : Nat → Nat → Bool} {Y : Nat → Nat → Int32} {fc : Nat} {sl : Bool} {P : va_W}
theorem upd_all {f : Nat → Int32} {n : Nat} {x : Int32} {Q : Int32 → Prop} (h : ∀ c, Q (f c)) (hx : Q x) (c : Nat) : Q (upd f n x c) := by
  by_cases e : c = n
  · rw [e, pk_us]; exact hx
  · rw [pk_un e]; exact h c
theorem RL_uni (h : RL B N E J ph V r en re O z tx X Y fc sl P) {x1 x2 x3 : Int32} (hk : k_uni N x1 x2 x3 = true) {q : Nat} : RL B (va_up N 3 (N 3 + 1)) (e_uni E (N 3) x1 x2 x3) J ph V r en re (va_up O 3 (va_up (O 3) (N 3) (some q))) z tx X Y fc sl (P ++ [(q, .inr (10, [.int x1, .int x2, .int x3]))]) := by
  obtain ⟨a1, a2, a3, a4, a5, a6, ⟨j7, a7⟩, a8⟩ := h
  obtain ⟨pC, pA, pX, pU, pF, I, hA, hF, hre, hV⟩ := a2
  have h8 : N 3 < 8 := by
    unfold k_uni at hk
    simp only [Bool.and_eq_true, decide_eq_true_eq] at hk
    exact hk.2.2.2.2
  have hk : ∀ k c, (k ≠ 15 ∧ k ≠ 16 ∧ k ≠ 17) ∨ c < N 3 → E k c = e_uni E (N 3) x1 x2 x3 k c := fun k c q => by
    unfold e_uni
    by_cases e1 : k = 17
    · rw [e1, va_up_self, pk_un (by omega)]
    · rw [va_up_ne _ _ e1]
      by_cases e2 : k = 16
      · rw [e2, va_up_self, pk_un (by omega)]
      · rw [va_up_ne _ _ e2]
        by_cases e3 : k = 15
        · rw [e3, va_up_self, pk_un (by omega)]
        · rw [va_up_ne _ _ e3]
  refine ⟨a1, ⟨pCon_ext _ pC, pArc_ext _ pA, pCtx_ext _ pX, fun c hc => ?_, fun c hc => ?_, I, hA, hF, hre, hV⟩, ⟨a3.1, a3.2.1, a3.2.2.1, by show N 3 + 1 ≤ 8; omega, a3.2.2.2.2⟩, a4, ⟨a5.1, fun f hf => ?_, a5.2.2⟩, a6, ⟨j7, ge_app a7⟩, fun q => s_fresh (N := N) (E := E) ⟨fun _ _ => rfl, fun _ _ => rfl, fun k c h1 _ => hk k c (by omega), fun k c h1 h2 _ => hk k c (by omega), fun k c h1 h2 _ => hk k c (by omega), fun k c h1 h2 h3 => hk k c (by omega), fun k c h1 h2 _ => hk k c (by omega), fun _ _ => rfl⟩ a5 rfl rfl (Nat.le_refl _) (a8 q)⟩
  · by_cases e : c = N 3
    · rw [e]
      refine ⟨q, P.length, va_up_self _ _ _, ?_⟩
      rw [pe_at]
      show some (q, _) = some (q, Sum.inr (10, [Value.int (upd (E 15) (N 3) x1 (N 3)), Value.int (upd (E 16) (N 3) x2 (N 3)), Value.int (upd (E 17) (N 3) x3 (N 3))]))
      rw [pk_us, pk_us, pk_us]
    · have hc2 : c < N 3 := by have : c < N 3 + 1 := hc; omega
      obtain ⟨q1, k1, h1, h2⟩ := pU c hc2
      refine ⟨q1, k1, (va_up_ne _ _ e).trans h1, ?_⟩
      rw [← hk 15 c (Or.inr hc2), ← hk 16 c (Or.inr hc2), ← hk 17 c (Or.inr hc2)]
      exact ge_app h2
  · obtain ⟨q1, k1, x, i, u, h1, h2, h3, h4⟩ := pF c hc
    refine ⟨q1, k1, x, i, u, h1, ge_app h2, ge_app h3, ?_⟩
    rcases h4 with h4 | ⟨y, l, b1, b2, b3⟩
    · exact Or.inl h4
    · refine Or.inr ⟨y, l, b1, b2, ?_⟩
      have hu : ix (E 21 c) < N 3 := (a5.2.1 c hc).2.2.resolve_left b1
      show _ = some (y, Sum.inr (10, [Value.int (e_uni E (N 3) x1 x2 x3 15 (ix (E 21 c))), Value.int (e_uni E (N 3) x1 x2 x3 16 (ix (E 21 c))), Value.int (e_uni E (N 3) x1 x2 x3 17 (ix (E 21 c)))]))
      rw [← hk 15 _ (Or.inr hu), ← hk 16 _ (Or.inr hu), ← hk 17 _ (Or.inr hu)]
      exact ge_app b3
  · have := a5.2.1 f hf
    exact ⟨this.1, this.2.1, this.2.2.imp id (fun q => by show _ < N 3 + 1; exact Nat.lt_succ_of_lt q)⟩
theorem RL_ctx (h : RL B N E J ph V r en re O z tx X Y fc sl P) {x1 x2 x3 x4 : Int32} (hk : k_ctx N x1 x2 x3 x4 = true) {q : Nat} : RL B (va_up N 2 (N 2 + 1)) (e_ctx E (N 2) x1 x2 x3 x4) J ph V r en re (va_up O 2 (va_up (O 2) (N 2) (some q))) z tx X Y fc sl (P ++ [(q, .inr (9, [.int x1, .int x2, .int x3, .int x4]))]) := by
  obtain ⟨a1, a2, a3, a4, a5, a6, ⟨j7, a7⟩, a8⟩ := h
  obtain ⟨pC, pA, pX, pU, pF, I, hA, hF, hre, hV⟩ := a2
  have h8 : N 2 < 12 := by
    unfold k_ctx at hk
    simp only [Bool.and_eq_true, decide_eq_true_eq] at hk
    exact hk.2.2.2
  have hk : ∀ k c, (k ≠ 11 ∧ k ≠ 12 ∧ k ≠ 13 ∧ k ≠ 14) ∨ c < N 2 → E k c = e_ctx E (N 2) x1 x2 x3 x4 k c := fun k c q => by
    unfold e_ctx
    by_cases e0 : k = 14
    · rw [e0, va_up_self, pk_un (by omega)]
    · rw [va_up_ne _ _ e0]
      by_cases e1 : k = 13
      · rw [e1, va_up_self, pk_un (by omega)]
      · rw [va_up_ne _ _ e1]
        by_cases e2 : k = 12
        · rw [e2, va_up_self, pk_un (by omega)]
        · rw [va_up_ne _ _ e2]
          by_cases e3 : k = 11
          · rw [e3, va_up_self, pk_un (by omega)]
          · rw [va_up_ne _ _ e3]
  refine ⟨a1, ⟨pCon_ext _ pC, pArc_ext _ pA, fun c hc => ?_, pUni_ext _ pU, fun c hc => ?_, I, hA, hF, hre, hV⟩, ⟨a3.1, a3.2.1, by show N 2 + 1 ≤ 12; omega, a3.2.2.2⟩, a4, ⟨a5.1, fun f hf => ?_, a5.2.2⟩, a6, ⟨j7, ge_app a7⟩, fun q => s_fresh (N := N) (E := E) ⟨fun _ _ => rfl, fun _ _ => rfl, fun k c h1 _ => hk k c (by omega), fun k c h1 h2 _ => hk k c (by omega), fun k c h1 h2 h3 => hk k c (by omega), fun k c h1 h2 _ => hk k c (by omega), fun k c h1 h2 _ => hk k c (by omega), fun _ _ => rfl⟩ a5 rfl rfl (Nat.le_refl _) (a8 q)⟩
  · by_cases e : c = N 2
    · rw [e]
      refine ⟨q, P.length, va_up_self _ _ _, ?_⟩
      rw [pe_at]
      show some (q, _) = some (q, Sum.inr (9, [Value.int (upd (E 11) (N 2) x1 (N 2)), Value.int (upd (E 12) (N 2) x2 (N 2)), Value.int (upd (E 13) (N 2) x3 (N 2)), Value.int (upd (E 14) (N 2) x4 (N 2))]))
      rw [pk_us, pk_us, pk_us, pk_us]
    · have hc2 : c < N 2 := by have : c < N 2 + 1 := hc; omega
      obtain ⟨q1, k1, h1, h2⟩ := pX c hc2
      refine ⟨q1, k1, (va_up_ne _ _ e).trans h1, ?_⟩
      rw [← hk 11 c (Or.inr hc2), ← hk 12 c (Or.inr hc2), ← hk 13 c (Or.inr hc2), ← hk 14 c (Or.inr hc2)]
      exact ge_app h2
  · obtain ⟨q1, k1, x, i, u, h1, h2, h3, h4⟩ := pF c hc
    have hu : ix (E 20 c) < N 2 := (a5.2.1 c hc).2.1
    refine ⟨q1, k1, x, i, u, h1, ge_app h2, ?_, pUn_ext _ h4⟩
    show _ = some (x, Sum.inr (9, [Value.int (e_ctx E (N 2) x1 x2 x3 x4 11 (ix (E 20 c))), Value.int (e_ctx E (N 2) x1 x2 x3 x4 12 (ix (E 20 c))), Value.int (e_ctx E (N 2) x1 x2 x3 x4 13 (ix (E 20 c))), Value.int (e_ctx E (N 2) x1 x2 x3 x4 14 (ix (E 20 c)))]))
    rw [← hk 11 _ (Or.inr hu), ← hk 12 _ (Or.inr hu), ← hk 13 _ (Or.inr hu), ← hk 14 _ (Or.inr hu)]
    exact ge_app h3
  · have := a5.2.1 f hf
    exact ⟨this.1, by show _ < N 2 + 1; exact Nat.lt_succ_of_lt this.2.1, this.2.2⟩
end RA
