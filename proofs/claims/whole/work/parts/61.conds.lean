/-! what is accepted: class and reference -/
theorem unit_in {u : Int32} {n : Nat} (hn : n ≤ 8) : (decide (u = -1) || m_in u 0 (nI n - 1)) = m_in u (-1) (nI n - 1) := by
  have h0 : (u = -1) = (u.toInt = -1) := propext ⟨fun h => by rw [h]; rfl, fun h => Int32.toInt_inj.mp h⟩
  have e2 : (nI n - 1).toInt = (n : Int) - 1 := by
    rw [Int32.toInt_sub, nI_toInt (by omega), show (1 : Int32).toInt = 1 from rfl]
    exact Int.bmod_eq_of_le (by omega) (by omega)
  unfold m_in
  rw [Bool.eq_iff_iff]
  simp only [Bool.or_eq_true, Bool.and_eq_true, decide_eq_true_eq, Int32.le_iff_toInt_le, h0, e2]
  have e0 : (0 : Int32).toInt = 0 := rfl
  have e1 : (-1 : Int32).toInt = -1 := rfl
  rw [e0, e1]
  omega
theorem fac_eq {N : Nat → Nat} {E : Nat → Nat → Int32} (hN : mN N) (x1 x2 x3 x4 x5 : Int32) : (m_in x1 0 (nI (N 0) - 1) && k_fcl N (E 18) (decide (E 1 (ix x1) = 0)) x2 x3 x4 x5) = k_fac N E x1 x2 x3 x4 x5 := by
  obtain ⟨n0, n1, n2, n3, n4, n5⟩ := hN
  unfold k_fcl k_fac
  rw [unit_in n3, nk_ok n4]
  simp only [Bool.and_assoc]
  congr 4
  rw [Bool.and_comm (decide (E 1 (ix x1) = 0) || k_ok (E 18) (N 4))]
theorem amt_eq {N : Nat → Nat} {E : Nat → Nat → Int32} (hN : mN N) {x1 x2 x3 x4 x5 : Int32} (h : k_fac N E x1 x2 x3 x4 x5 = true) : k_amt N (E 18) (decide (E 1 (ix x1) = 0)) = e_amt N E x1 := by
  unfold k_amt e_amt
  by_cases e : E 1 (ix x1) = 0
  · rw [if_pos e, if_pos (decide_eq_true e)]
  · rw [if_neg e, if_neg (by simp [e])]
    unfold k_fac at h
    simp only [Bool.and_eq_true, Bool.or_eq_true, decide_eq_true_eq] at h
    exact (nk_val hN.2.2.2.2.1 (h.2.2.2.resolve_left e)).symm
theorem ref_eq {B : Nat → Nat → Bool} {r : Nat → Int32} {en re : Int32} (h : rlD B r en re) (x y : Int32) : (m_in x 0 7 && (m_in y 0 7 && !(bt (r (ix x)) (ix y)))) = k_ref B x y := by
  unfold k_ref
  cases h1 : m_in x 0 7 with
  | false => rfl
  | true =>
    cases h2 : m_in y 0 7 with
    | false => rfl
    | true =>
      have rx : rg x 8 := in_rg h1 (n := 8) rfl (by decide)
      have ry : rg y 8 := in_rg h2 (n := 8) rfl (by decide)
      rw [h.1 _ _ rx.2 ry.2]
theorem ent_eq {B : Nat → Nat → Bool} {r : Nat → Int32} {en re : Int32} (h : rlD B r en re) (x : Int32) : (m_in x 0 7 && !(bt en (ix x))) = k_ent B x := by
  unfold k_ent
  cases h1 : m_in x 0 7 with
  | false => rfl
  | true =>
    have rx : rg x 8 := in_rg h1 (n := 8) rfl (by decide)
    rw [h.2.1 _ rx.2]
theorem disc_eq {B : Nat → Nat → Bool} {r : Nat → Int32} {en re : Int32} (h : rlD B r en re) (x : Int32) : (m_in x 0 7 && bt re (ix x)) = (m_in x 0 7 && d_fo B (ix x)) := by
  cases h1 : m_in x 0 7 with
  | false => rfl
  | true =>
    have rx : rg x 8 := in_rg h1 (n := 8) rfl (by decide)
    rw [rlD_cl h rx.2]
