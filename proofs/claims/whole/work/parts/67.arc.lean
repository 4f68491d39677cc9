/-! an arc keeps the relation; the start -/
theorem RL_arc {B : Nat → Nat → Bool} {N : Nat → Nat} {E : Nat → Nat → Int32} {J : Nat → Int32} {ph : Bool} {V : Nat → Int64} {r : Nat → Int32} {en re : Int32} {O : Nat → Nat → Option Nat} {z : Nat} {tx : Nat → Int32} {X : Nat → Nat → Bool} {Y : Nat → Nat → Int32} {fc : Nat} {sl : Bool} {P : va_W} (h : RL B N E J ph V r en re O z tx X Y fc sl P) {x1 x2 x3 x4 x5 : Int32} (hk : k_arc N x1 x2 x3 x4 x5 = true) {q : Nat} : RL (va_up B 3 (va_up (B 3) (N 1) ph)) (va_up N 1 (N 1 + 1)) (e_arc E (N 1) x1 (J 0) x2 x3 x4 x5 (J 1)) J ph V r en re (va_up O 1 (va_up (O 1) (N 1) (some q))) z tx X Y fc true (P ++ [(q, .inr (8, [.int x1, .int x2, .int x3, .int x4, .int x5, .ref z]))]) := by
  obtain ⟨a1, a2, a3, a4, a5, a6, ⟨j7, a7⟩, a8⟩ := h
  obtain ⟨pC, pA, pX, pU, pF, I, hA, hF, hre, hV⟩ := a2
  unfold k_arc at hk
  simp only [Bool.and_eq_true, decide_eq_true_eq, Bool.not_eq_true', decide_eq_false_iff_not] at hk
  obtain ⟨c1, -, ⟨c3, c4⟩, -, c6, h8⟩ := hk
  have r3 : rg x3 (N 0) := in_rgN c3 (by have := a3.1; omega)
  have r4 : rg x4 (N 0) := in_rgN c4 (by have := a3.1; omega)
  have r1 : rg x1 8 := in_rg c1 (n := 8) rfl (by decide)
  have up : ∀ (f : Nat → Int32) (x : Int32) (c : Nat), c < N 1 → upd f (N 1) x c = f c := fun f x c hc => pk_un (by omega)
  have hlt : ∀ a, a < N 1 + 1 → a = N 1 ∨ a < N 1 := fun a ha => by omega
  have wA : ∀ a, a < N 1 + 1 → ix (upd (E 7) (N 1) x3 a) < N 0 ∧ ix (upd (E 8) (N 1) x4 a) < N 0 := fun a ha => by
    rcases hlt a ha with e | e
    · rw [e, pk_us, pk_us]; exact ⟨r3.2, r4.2⟩
    · rw [up _ _ _ e, up _ _ _ e]; exact hA a e
  refine ⟨⟨a1.1, a1.2.1, a1.2.2⟩, ⟨pCon_ext _ pC, fun c hc => ?_, pCtx_ext _ pX, pUni_ext _ pU, pFac_ext _ pF, ⟨I.1, fun a => upd_all (Q := fun v => rg v 8) I.2.1 r1 a, fun a => upd_all (Q := fun v => rg v 16) I.2.2.1 (rg_mono r3 a3.1) a, fun a => upd_all (Q := fun v => rg v 16) I.2.2.2.1 (rg_mono r4 a3.1) a, I.2.2.2.2⟩, wA, hF, fun d hd => (hre d hd).trans (fo_same (B := va_up B 3 (va_up (B 3) (N 1) ph)) (B1 := B) rfl rfl hd), hV⟩, ⟨a3.1, by show N 1 + 1 ≤ 32; omega, a3.2.2⟩, ⟨a4.1, a4.2.1, a4.2.2.1, fun a ha => ?_⟩, ⟨wA, a5.2.1, a5.2.2.1, fun a ha => ?_⟩, a6, ⟨j7, ge_app a7⟩, fun q => absurd q (by decide)⟩
  · rcases hlt c hc with e | e
    · rw [e]
      refine ⟨q, P.length, z, j7, va_up_self _ _ _, ?_, ?_⟩
      · rw [pe_at]
        show some (q, _) = some (q, Sum.inr (8, [Value.int (upd (E 4) (N 1) x1 (N 1)), Value.int (upd (E 6) (N 1) x2 (N 1)), Value.int (upd (E 7) (N 1) x3 (N 1)), Value.int (upd (E 8) (N 1) x4 (N 1)), Value.int (upd (E 9) (N 1) x5 (N 1)), Value.ref z]))
        rw [pk_us, pk_us, pk_us, pk_us, pk_us]
      · rw [ge_app a7]
        show some (z, _) = some (z, Sum.inr (7, [Value.int (upd (E 5) (N 1) (J 0) (N 1)), Value.int (upd (E 10) (N 1) (J 1) (N 1)), Value.int (b2i (va_up (B 3) (N 1) ph (N 1)))]))
        rw [pk_us, pk_us, va_up_self]
    · obtain ⟨q1, k1, z1, j1, h1, h2, h3⟩ := pA c e
      refine ⟨q1, k1, z1, j1, (va_up_ne _ _ (by omega)).trans h1, ?_, ?_⟩
      · rw [ge_app h2]
        show _ = some (q1, Sum.inr (8, [Value.int (upd (E 4) (N 1) x1 c), Value.int (upd (E 6) (N 1) x2 c), Value.int (upd (E 7) (N 1) x3 c), Value.int (upd (E 8) (N 1) x4 c), Value.int (upd (E 9) (N 1) x5 c), Value.ref z1]))
        rw [up _ _ _ e, up _ _ _ e, up _ _ _ e, up _ _ _ e, up _ _ _ e]
      · rw [ge_app h3]
        show _ = some (z1, Sum.inr (7, [Value.int (upd (E 5) (N 1) (J 0) c), Value.int (upd (E 10) (N 1) (J 1) c), Value.int (b2i (va_up (B 3) (N 1) ph c))]))
        rw [up _ _ _ e, up _ _ _ e, va_up_ne _ _ (by omega)]
        rfl
  · show ¬ upd (E 9) (N 1) x5 a = 0
    rcases hlt a ha with e | e
    · rw [e, pk_us]; exact c6
    · rw [up _ _ _ e]; exact a4.2.2.2 a e
  · show ix (upd (E 4) (N 1) x1 a) < 8
    rcases hlt a ha with e | e
    · rw [e, pk_us]; exact r1.2
    · rw [up _ _ _ e]; exact a5.2.2.2 a e
