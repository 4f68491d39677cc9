/-! a fact keeps the relation -/
theorem amt_b {N : Nat → Nat} {E : Nat → Nat → Int32} (hN : mN N) {x1 x2 x3 x4 x5 : Int32} (hk : k_fac N E x1 x2 x3 x4 x5 = true) : -(10 ^ 15 : Int) < (e_amt N E x1).toInt ∧ (e_amt N E x1).toInt < 10 ^ 15 := by
  unfold e_amt
  by_cases e : E 1 (ix x1) = 0
  · rw [if_pos e]
    exact (by decide : -(10 ^ 15 : Int) < (0 : Int64).toInt ∧ (0 : Int64).toInt < 10 ^ 15)
  · rw [if_neg e]
    unfold k_fac at hk
    simp only [Bool.and_eq_true, Bool.or_eq_true, decide_eq_true_eq] at hk
    have h := hk.2.2.2.resolve_left e
    rw [nk_val hN.2.2.2.2.1 h]
    exact kv_bound hN.2.2.2.2.1 (by rw [← nk_ok hN.2.2.2.2.1]; exact h)
theorem RL_fac {B : Nat → Nat → Bool} {N : Nat → Nat} {E : Nat → Nat → Int32} {J : Nat → Int32} {ph : Bool} {V : Nat → Int64} {r : Nat → Int32} {en re : Int32} {O : Nat → Nat → Option Nat} {z : Nat} {tx : Nat → Int32} {X : Nat → Nat → Bool} {Y : Nat → Nat → Int32} {fc : Nat} {sl : Bool} {P : va_W} (h : RL B N E J ph V r en re O z tx X Y fc sl P) {x1 x2 x3 x4 x5 : Int32} (hk : k_fac N E x1 x2 x3 x4 x5 = true) {q xq : Nat} {ul : Value} (hx : O 2 (ix x2) = some xq) (hu : (x3 = -1 ∧ ul = .null) ∨ ∃ y : Nat, ¬ x3 < 0 ∧ ul = .ref y ∧ O 3 (ix x3) = some y) : RL B (va_up (va_up N 4 0) 5 (N 5 + 1)) (e_fac E (N 5) x1 x2 x3 x4 x5) J ph (vp_updL V (N 5) (e_amt N E x1)) r en re (va_up O 4 (va_up (O 4) (N 5) (some q))) z tx X Y fc true (P ++ [(q, .inr (11, [.int x1, .ref xq, ul, .int x4, .int x5, .long (e_amt N E x1), .int (m_places x4 x5 (e_amt N E x1)), .long (r_m (e_amt N E x1) (m_ten (6 - m_places x4 x5 (e_amt N E x1))))]))]) := by
  obtain ⟨a1, a2, a3, a4, a5, a6, ⟨j7, a7⟩, a8⟩ := h
  obtain ⟨pC, pA, pX, pU, pF, I, hA, hF, hre, hV⟩ := a2
  have hb := amt_b a3 hk
  generalize e_amt N E x1 = am at hb ⊢
  unfold k_fac at hk
  simp only [Bool.and_eq_true, decide_eq_true_eq] at hk
  obtain ⟨⟨c1, c2, c3⟩, c4, c5, -⟩ := hk
  have r1 : rg x1 (N 0) := in_rgN c1 (by have := a3.1; omega)
  have r2 : rg x2 (N 2) := in_rgN c2 (by have := a3.2.2.1; omega)
  have r3 : x3 = -1 ∨ rg x3 (N 3) := by
    rw [← unit_in a3.2.2.2.1] at c3
    simp only [Bool.or_eq_true, decide_eq_true_eq] at c3
    exact c3.imp id (fun q => in_rgN q (by have := a3.2.2.2.1; omega))
  have m1 : (-1 : Int32) < 0 := by decide
  have up : ∀ (f : Nat → Int32) (x : Int32) (c : Nat), c < N 5 → upd f (N 5) x c = f c := fun f x c hc => pk_un (by omega)
  have hlt : ∀ a, a < N 5 + 1 → a = N 5 ∨ a < N 5 := fun a ha => by omega
  have wF : ∀ f, f < N 5 + 1 → ix (upd (E 19) (N 5) x1 f) < N 0 ∧ ix (upd (E 20) (N 5) x2 f) < N 2 ∧ (upd (E 21) (N 5) x3 f < 0 ∨ ix (upd (E 21) (N 5) x3 f) < N 3) := fun f hf => by
    rcases hlt f hf with e | e
    · rw [e, pk_us, pk_us, pk_us]
      exact ⟨r1.2, r2.2, r3.imp (fun q => by rw [q]; exact m1) (fun q => q.2)⟩
    · rw [up _ _ _ e, up _ _ _ e, up _ _ _ e]
      exact a5.2.1 f e
  refine ⟨a1, ⟨pCon_ext _ pC, pArc_ext _ pA, pCtx_ext _ pX, pUni_ext _ pU, fun c hc => ?_, ⟨I.1, I.2.1, I.2.2.1, I.2.2.2.1, fun f => upd_all (Q := fun v => rg v 16) I.2.2.2.2.1 (rg_mono r1 a3.1) f, fun f => upd_all (Q := fun v => rg v 12) I.2.2.2.2.2.1 (rg_mono r2 a3.2.2.1) f, fun f => upd_all (Q := fun v => v < 0 ∨ rg v 8) I.2.2.2.2.2.2 (r3.imp (fun q => by rw [q]; exact m1) (fun q => rg_mono q a3.2.2.2.1)) f⟩, hA, fun f hf => (wF f hf).1, hre, ⟨fun f hf => ?_, fun f => ?_⟩⟩, ⟨a3.1, a3.2.1, a3.2.2.1, a3.2.2.2.1, Nat.zero_le 20, c5⟩, ⟨fun f => upd_all (Q := fun v => v = -1 ∨ rg v 8) a4.1 (r3.imp id (fun q => rg_mono q a3.2.2.2.1)) f, a4.2.1, a4.2.2.1, a4.2.2.2⟩, ⟨a5.1, wF, a5.2.2.1, a5.2.2.2⟩, a6, ⟨j7, ge_app a7⟩, fun q => absurd q (by decide)⟩
  · rcases hlt c hc with e | e
    · rw [e]
      obtain ⟨q2, k2, h1, h2⟩ := pX (ix x2) r2.2
      have eq2 : q2 = xq := Option.some.inj (h1.symm.trans hx)
      subst eq2
      refine ⟨q, P.length, q2, k2, ul, va_up_self _ _ _, ?_, ?_, ?_⟩
      · rw [pe_at]
        show some (q, _) = some (q, Sum.inr (11, [Value.int (upd (E 19) (N 5) x1 (N 5)), Value.ref q2, ul, Value.int (upd (E 22) (N 5) x4 (N 5)), Value.int (upd (E 23) (N 5) x5 (N 5)), Value.long (vp_updL V (N 5) am (N 5)), Value.int (m_places (upd (E 22) (N 5) x4 (N 5)) (upd (E 23) (N 5) x5 (N 5)) (vp_updL V (N 5) am (N 5))), Value.long (r_m (vp_updL V (N 5) am (N 5)) (m_ten (6 - m_places (upd (E 22) (N 5) x4 (N 5)) (upd (E 23) (N 5) x5 (N 5)) (vp_updL V (N 5) am (N 5)))))]))
        rw [pk_us, pk_us, pk_us, pk_uLs]
      · rw [ge_app h2]
        show _ = some (q2, Sum.inr (9, [Value.int (E 11 (ix (upd (E 20) (N 5) x2 (N 5)))), Value.int (E 12 (ix (upd (E 20) (N 5) x2 (N 5)))), Value.int (E 13 (ix (upd (E 20) (N 5) x2 (N 5)))), Value.int (E 14 (ix (upd (E 20) (N 5) x2 (N 5))))]))
        rw [pk_us]
      · show pUn (e_fac E (N 5) x1 x2 x3 x4 x5) _ ul (upd (E 21) (N 5) x3 (N 5))
        rw [pk_us]
        rcases hu with hu | ⟨y, b1, b2, b3⟩
        · exact Or.inl hu
        · have r4 : rg x3 (N 3) := r3.resolve_left (fun q => b1 (by rw [q]; exact m1))
          obtain ⟨q3, k3, g1, g2⟩ := pU (ix x3) r4.2
          have eq3 : q3 = y := Option.some.inj (g1.symm.trans b3)
          subst eq3
          exact Or.inr ⟨q3, k3, b1, b2, ge_app g2⟩
    · obtain ⟨q1, k1, x, i, u, h1, h2, h3, h4⟩ := pF c e
      refine ⟨q1, k1, x, i, u, (va_up_ne _ _ (by omega)).trans h1, ?_, ?_, ?_⟩
      · rw [ge_app h2]
        show _ = some (q1, Sum.inr (11, [Value.int (upd (E 19) (N 5) x1 c), Value.ref x, u, Value.int (upd (E 22) (N 5) x4 c), Value.int (upd (E 23) (N 5) x5 c), Value.long (vp_updL V (N 5) am c), Value.int (m_places (upd (E 22) (N 5) x4 c) (upd (E 23) (N 5) x5 c) (vp_updL V (N 5) am c)), Value.long (r_m (vp_updL V (N 5) am c) (m_ten (6 - m_places (upd (E 22) (N 5) x4 c) (upd (E 23) (N 5) x5 c) (vp_updL V (N 5) am c))))]))
        rw [up _ _ _ e, up _ _ _ e, up _ _ _ e, pk_uLn (by omega)]
        rfl
      · rw [ge_app h3]
        show _ = some (x, Sum.inr (9, [Value.int (E 11 (ix (upd (E 20) (N 5) x2 c))), Value.int (E 12 (ix (upd (E 20) (N 5) x2 c))), Value.int (E 13 (ix (upd (E 20) (N 5) x2 c))), Value.int (E 14 (ix (upd (E 20) (N 5) x2 c)))]))
        rw [up _ _ _ e]
      · show pUn (e_fac E (N 5) x1 x2 x3 x4 x5) _ u (upd (E 21) (N 5) x3 c)
        rw [up _ _ _ e]
        exact pUn_ext _ h4
  · have hf2 : upd (E 22) (N 5) x4 f = 1 := hf
    show -9 ≤ upd (E 23) (N 5) x5 f ∧ upd (E 23) (N 5) x5 f ≤ 6
    by_cases e : f = N 5
    · rw [e, pk_us] at hf2
      rw [e, pk_us]
      exact fcl_acc c4 hf2
    · rw [pk_un e] at hf2
      rw [pk_un e]
      exact hV.1 f hf2
  · by_cases e : f = N 5
    · rw [e, pk_uLs]
      exact hb
    · rw [pk_uLn e]
      exact hV.2 f
