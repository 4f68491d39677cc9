/-! calls that keep the relation -/
section RK
variable {B B1 : Nat → Nat → Bool} {N N1 : Nat → Nat} {E E1 : Nat → Nat → Int32} {J J1 : Nat → Int32} {ph : Bool} {V V1 : Nat → Int64} {r : Nat → Int32} {en re : Int32} {O : Nat → Nat → Option Nat} {z : Nat} {tx : Nat → Int32} {X : Nat → Nat → Bool} {Y : Nat → Nat → Int32} {fc : Nat} {sl : Bool} {P : va_W}
theorem RL_docs (h : RL B N E J ph V r en re O z tx X Y fc sl P) {r1 : Nat → Int32} {en1 re1 : Int32} (h3 : B1 3 = B 3) (hd : rlD B1 r1 en1 re1) : RL B1 N E J ph V r1 en1 re1 O z tx X Y fc true P := by
  obtain ⟨a1, a2, a3, a4, a5, a6, a7, a8⟩ := h
  obtain ⟨pC, pA, pX, pU, pF, I, hA, hF, hre, hV⟩ := a2
  refine ⟨hd, ⟨pC, ?_, pX, pU, pF, I, hA, hF, fun d hd8 => rlD_cl hd hd8, hV⟩, a3, a4, a5, a6, a7, fun q => absurd q (by decide)⟩
  intro c hc
  have := pA c hc
  rw [show bF B1 3 = bF B 3 from h3]
  exact this
theorem RL_refer (h : RL B N E J ph V r en re O z tx X Y fc sl P) {x y : Int32} (hx : rg x 8) (hy : rg y 8) : RL (va_up B 0 (va_up (B 0) (8 * ix x + ix y) true)) N E J ph V (upd r (ix x) (r (ix x) ||| ((1 : Int32) <<< (y &&& 31)))) en (c_rd (upd r (ix x) (r (ix x) ||| ((1 : Int32) <<< (y &&& 31)))) re 7) O z tx X Y fc true P := RL_docs h rfl (rlD_refer h.1 hx hy)
theorem RL_enter (h : RL B N E J ph V r en re O z tx X Y fc sl P) {x : Int32} (hx : rg x 8) : RL (va_up B 1 (va_up (B 1) (ix x) true)) N E J ph V r (en ||| ((1 : Int32) <<< (x &&& 31))) (c_rd r (re ||| ((1 : Int32) <<< (x &&& 31))) 7) O z tx X Y fc true P := RL_docs h rfl (rlD_enter h.1 hx)
theorem RL_set (h : RL B N E J ph V r en re O z tx X Y fc sl P) {x y : Int32} {ph1 : Bool} {q : Nat} : RL B N E (va_up (va_up J 0 x) 1 y) ph1 V r en re O q tx X Y fc sl (P ++ [(q, .inr (7, [.int x, .int y, .int (b2i ph1)]))]) := by
  obtain ⟨a1, a2, a3, a4, a5, a6, a7, a8⟩ := h
  exact ⟨a1, cI_ext _ a2, a3, a4, a5, a6, ⟨P.length, pe_at _ _⟩, a8⟩
theorem RL_write (h : RL B N E J ph V r en re O z tx X Y fc sl P) (x : Int32) (h4 : N 4 < 20) : RL B (va_up N 4 (N 4 + 1)) (e_wri E (N 4) x) J ph V r en re O z (upd tx (N 4) x) X Y fc sl P := by
  obtain ⟨a1, a2, a3, a4, a5, a6, a7, a8⟩ := h
  have hk : ∀ k c, k ≠ 18 → E k c = e_wri E (N 4) x k c := fun k c q => by unfold e_wri; rw [va_up_ne _ _ q]
  refine ⟨a1, a2, ⟨a3.1, a3.2.1, a3.2.2.1, a3.2.2.2.1, by show N 4 + 1 ≤ 20; omega, a3.2.2.2.2.2⟩, a4, a5, by rw [a6]; rfl, a7, fun q => s_fresh (N := N) (E := E) ⟨fun _ _ => rfl, fun _ _ => rfl, fun k c h1 _ => hk k c (by omega), fun k c h1 h2 _ => hk k c (by omega), fun k c h1 h2 _ => hk k c (by omega), fun k c h1 h2 _ => hk k c (by omega), fun k c h1 h2 _ => hk k c (by omega), fun _ _ => rfl⟩ a5 rfl rfl (Nat.le_refl _) (a8 q)⟩
end RK
