/-! reading a number: the reference's one scan, the class's two runs -/
abbrev NS : Type := Int64 × Int32 × Int32 × Bool
def n_mid (x : Int32) (t : NS) : NS :=
  if (s_dig x && t.2.2.2) = true then (10 * t.1 + x.toInt64 - 48, (if t.2.2.1 < 0 then t.2.1 + 1 else t.2.1), (if t.2.2.1 < 0 then t.2.2.1 else t.2.2.1 + 1), t.2.2.2)
  else if x = 46 ∧ t.2.2.1 < 0 then (t.1, t.2.1, 0, t.2.2.2) else (t.1, t.2.1, t.2.2.1, false)
def n_step (x : Int32) (t : NS) : NS := ((n_mid x t).1, (n_mid x t).2.1, (n_mid x t).2.2.1, (n_mid x t).2.2.2 && (decide ((n_mid x t).2.1 ≤ 9) && decide ((n_mid x t).2.2.1 ≤ 6)))
def n_scan (w : Nat → Int32) (p : Nat) : Nat → NS
  | 0 => (0, 0, -1, true)
  | n + 1 => n_step (w (p + n)) (n_scan w p n)
def n_sign (w : Nat → Int32) (size : Nat) : Bool := decide (0 < size) && (decide (w 0 = 43) || decide (w 0 = 45))
def n_p (w : Nat → Int32) (size : Nat) : Nat := if n_sign w size = true then 1 else 0
def n_many (t : NS) : Int32 := if t.2.2.1 < 0 then 0 else t.2.2.1
def n_mul (v : Int64) : Nat → Int64
  | 0 => v
  | n + 1 => 10 * n_mul v n
def n_end (w : Nat → Int32) (size : Nat) : NS := n_scan w (n_p w size) (size - n_p w size)
/-- what the reference answers: is it a number -/
def n_ok (w : Nat → Int32) (size : Nat) : Bool := (n_end w size).2.2.2 && decide (0 < (n_end w size).2.1 + n_many (n_end w size))
/-- .. and which, in millionths -/
def n_val (w : Nat → Int32) (size : Nat) : Int64 :=
  let v := if (n_end w size).2.2.2 = true then n_mul (n_end w size).1 (6 - ix (n_many (n_end w size))) else (n_end w size).1
  if n_p w size = 1 ∧ w 0 = 45 then -v else v
/-! the class's runs -/
def k_run (w : Nat → Int32) (size : Nat) : Nat → Nat → Nat
  | 0, _ => 0
  | q + 1, s => if s < size ∧ s_dig (w s) = true then k_run w size q (s + 1) + 1 else 0
def k_a (w : Nat → Int32) (size : Nat) : Nat := k_run w size 20 (n_p w size)
def k_pt (w : Nat → Int32) (size : Nat) : Bool := decide (n_p w size + k_a w size < size) && decide (w (n_p w size + k_a w size) = 46)
def k_q (w : Nat → Int32) (size : Nat) : Nat := if k_pt w size = true then k_run w size 20 (n_p w size + k_a w size + 1) else 0
def k_at (w : Nat → Int32) (size : Nat) : Nat := n_p w size + k_a w size + (if k_pt w size = true then 1 + k_q w size else 0)
def k_ok (w : Nat → Int32) (size : Nat) : Bool := decide (k_at w size = size) && (decide (k_a w size ≤ 9) && (decide (k_q w size ≤ 6) && decide (0 < k_a w size + k_q w size)))
abbrev KS : Type := Int64 × Int32 × Bool
def k_step (x : Int32) (t : KS) : KS := if x = 46 then (t.1, t.2.1, true) else (t.1 * 10 + (x - 48).toInt64, (if t.2.2 = true then t.2.1 - 1 else t.2.1), t.2.2)
def k_scan (w : Nat → Int32) (p : Nat) : Nat → KS
  | 0 => (0, 6, false)
  | n + 1 => k_step (w (p + n)) (k_scan w p n)
def k_end (w : Nat → Int32) (size : Nat) : KS := k_scan w (n_p w size) (size - n_p w size)
def k_ten (x : Int32) : Int64 := if m_in x 0 16 = true then Int64.ofNat (10 ^ ix x) else 1
def k_val (w : Nat → Int32) (size : Nat) : Int64 := if 0 < size ∧ w 0 = 45 then -((k_end w size).1 * k_ten (k_end w size).2.1) else (k_end w size).1 * k_ten (k_end w size).2.1
/-! they agree -/
theorem k_run_le (w : Nat → Int32) (size : Nat) : ∀ q s, s ≤ size → s + k_run w size q s ≤ size
  | 0, s, h => h
  | q + 1, s, h => by
    unfold k_run
    split
    · rename_i h1
      have := k_run_le w size q (s + 1) h1.1
      omega
    · exact h
theorem k_run_dig (w : Nat → Int32) (size : Nat) : ∀ q s i, i < k_run w size q s → s_dig (w (s + i)) = true
  | 0, s, i, h => absurd h (Nat.not_lt_zero i)
  | q + 1, s, i, h => by
    unfold k_run at h
    split at h
    · rename_i h1
      cases i with
      | zero => exact h1.2
      | succ i =>
        have := k_run_dig w size q (s + 1) i (by omega)
        rwa [show s + 1 + i = s + (i + 1) by omega] at this
    · exact absurd h (Nat.not_lt_zero i)
theorem k_run_stop (w : Nat → Int32) (size : Nat) : ∀ q s, size ≤ s + q → s + k_run w size q s < size → s_dig (w (s + k_run w size q s)) = false
  | 0, s, h, h2 => by simp [k_run] at h2; omega
  | q + 1, s, h, h2 => by
    unfold k_run at h2 ⊢
    split
    · rename_i h1
      rw [if_pos h1] at h2
      have := k_run_stop w size q (s + 1) (by omega) (by omega)
      rwa [show s + 1 + k_run w size q (s + 1) = s + (k_run w size q (s + 1) + 1) by omega] at this
    · rename_i h1
      rw [if_neg h1] at h2
      cases hd : s_dig (w (s + 0)) with
      | false => rfl
      | true => exact absurd ⟨by omega, hd⟩ h1
theorem n_dead {x : Int32} {t : NS} (h : t.2.2.2 = false) : (n_step x t).2.2.2 = false := by
  unfold n_step n_mid
  rw [h, Bool.and_false, if_neg Bool.false_ne_true]
  split <;> rfl
theorem n_dead_all {w : Nat → Int32} {p n : Nat} (h : (n_scan w p n).2.2.2 = false) : ∀ d, (n_scan w p (n + d)).2.2.2 = false
  | 0 => h
  | d + 1 => n_dead (n_dead_all h d)
/-- the digits so far, the point left out -/
def n_num (w : Nat → Int32) (p a : Nat) : Nat → Int64
  | 0 => 0
  | n + 1 => if n = a then n_num w p a n else 10 * n_num w p a n + (w (p + n)).toInt64 - 48
theorem n_num_ne {w : Nat → Int32} {p a n : Nat} (h : ¬ n = a) : n_num w p a (n + 1) = 10 * n_num w p a n + (w (p + n)).toInt64 - 48 := if_neg h
theorem n_num_at {w : Nat → Int32} {p a : Nat} : n_num w p a (a + 1) = n_num w p a a := if_pos rfl
theorem nI_neg1 {n : Nat} (h : n < 2 ^ 31) : ¬ nI n < 0 := nI_pos h
theorem s_dig46 : s_dig 46 = false := by decide
theorem n_step_dig {x : Int32} {v : Int64} {a : Nat} (hx : s_dig x = true) (ha : a ≤ 9) : n_step x (v, nI a, -1, true) = (10 * v + x.toInt64 - 48, nI (a + 1), -1, decide (a + 1 ≤ 9)) := by
  have h1 : (-1 : Int32) < 0 := by decide
  have h2 : (-1 : Int32) ≤ 6 := by decide
  have h3 : decide (nI (a + 1) ≤ 9) = decide (a + 1 ≤ 9) := by
    rw [show (9 : Int32) = nI 9 from rfl]
    exact decide_eq_decide.mpr (nI_leI (by omega) (by omega))
  simp only [n_step, n_mid, hx, Bool.and_true, if_true, h1, h2, ← nI_succ, h3, Bool.true_and, decide_true]
theorem n_step_dig2 {x : Int32} {v : Int64} {a q : Nat} (hx : s_dig x = true) (ha : a ≤ 9) (hq : q ≤ 6) : n_step x (v, nI a, nI q, true) = (10 * v + x.toInt64 - 48, nI a, nI (q + 1), decide (q + 1 ≤ 6)) := by
  have h1 : ¬ nI q < 0 := nI_pos (by omega)
  have h3 : decide (nI (q + 1) ≤ 6) = decide (q + 1 ≤ 6) := by
    rw [show (6 : Int32) = nI 6 from rfl]
    exact decide_eq_decide.mpr (nI_leI (by omega) (by omega))
  have h4 : decide (nI a ≤ 9) = true := by
    rw [show (9 : Int32) = nI 9 from rfl]
    exact decide_eq_true ((nI_leI (by omega) (by omega)).mpr ha)
  simp only [n_step, n_mid, hx, Bool.and_true, if_true, h1, if_false, ← nI_succ, h3, h4, Bool.true_and]
theorem n_step_pt {v : Int64} {a : Nat} (ha : a ≤ 9) : n_step 46 (v, nI a, -1, true) = (v, nI a, nI 0, true) := by
  have h1 : (-1 : Int32) < 0 := by decide
  have h4 : decide (nI a ≤ 9) = true := by
    rw [show (9 : Int32) = nI 9 from rfl]
    exact decide_eq_true ((nI_leI (by omega) (by omega)).mpr ha)
  have h5 : (0 : Int32) ≤ 6 := by decide
  simp only [n_step, n_mid, s_dig46, Bool.false_and, if_neg Bool.false_ne_true, h1, and_self, if_true, h4, Bool.true_and, decide_eq_true h5]
  rfl
theorem n_step_bad {x : Int32} {v : Int64} {wh be : Int32} {g : Bool} (hx : s_dig x = false) (h : ¬ (x = 46 ∧ be < 0)) : (n_step x (v, wh, be, g)).2.2.2 = false := by
  simp only [n_step, n_mid, hx, Bool.false_and, if_neg Bool.false_ne_true, if_neg h, Bool.false_and]
theorem n_scan_A {w : Nat → Int32} {p a : Nat} (hd : ∀ i, i < a → s_dig (w (p + i)) = true) : ∀ n, n ≤ a → n ≤ 9 → n_scan w p n = (n_num w p a n, nI n, -1, true)
  | 0, _, _ => rfl
  | n + 1, h1, h2 => by
    show n_step (w (p + n)) (n_scan w p n) = _
    rw [n_scan_A hd n (by omega) (by omega), n_step_dig (hd n (by omega)) (by omega), decide_eq_true h2]
    rw [n_num_ne (by omega)]
theorem n_scan_A10 {w : Nat → Int32} {p a : Nat} (hd : ∀ i, i < a → s_dig (w (p + i)) = true) (ha : 10 ≤ a) : (n_scan w p 10).2.2.2 = false := by
  show (n_step (w (p + 9)) (n_scan w p 9)).2.2.2 = false
  rw [n_scan_A hd 9 (by omega) (by omega), n_step_dig (hd 9 (by omega)) (by omega)]
  rfl
theorem n_scan_B {w : Nat → Int32} {p a q : Nat} (hd : ∀ i, i < a → s_dig (w (p + i)) = true) (ha : a ≤ 9) (hp : w (p + a) = 46) (hq : ∀ i, i < q → s_dig (w (p + a + 1 + i)) = true) : ∀ n, n ≤ q → n ≤ 6 → n_scan w p (a + 1 + n) = (n_num w p a (a + 1 + n), nI a, nI n, true)
  | 0, _, _ => by
    show n_step (w (p + a)) (n_scan w p a) = _
    rw [n_scan_A hd a (Nat.le_refl _) ha, hp, n_step_pt ha]
    rw [show a + 1 + 0 = a + 1 from rfl, n_num_at]
  | n + 1, h1, h2 => by
    show n_step (w (p + (a + 1 + n))) (n_scan w p (a + 1 + n)) = _
    rw [n_scan_B hd ha hp hq n (by omega) (by omega), n_step_dig2 (by have := hq n (by omega); rwa [show p + a + 1 + n = p + (a + 1 + n) by omega] at this) ha (by omega), decide_eq_true h2]
    rw [show a + 1 + (n + 1) = (a + 1 + n) + 1 from rfl, n_num_ne (by omega)]
theorem n_scan_B7 {w : Nat → Int32} {p a q : Nat} (hd : ∀ i, i < a → s_dig (w (p + i)) = true) (ha : a ≤ 9) (hp : w (p + a) = 46) (hq : ∀ i, i < q → s_dig (w (p + a + 1 + i)) = true) (h7 : 7 ≤ q) : (n_scan w p (a + 1 + 7)).2.2.2 = false := by
  show (n_step (w (p + (a + 1 + 6))) (n_scan w p (a + 1 + 6))).2.2.2 = false
  rw [n_scan_B hd ha hp hq 6 (by omega) (by omega), n_step_dig2 (by have := hq 6 (by omega); rwa [show p + a + 1 + 6 = p + (a + 1 + 6) by omega] at this) ha (by omega)]
  rfl
theorem s_dig_of {x : Int32} (h : s_dig x = true) : ∃ j : Nat, j < 10 ∧ x = nI (48 + j) := by
  simp only [s_dig, Bool.and_eq_true, decide_eq_true_eq] at h
  have h1 := Int32.le_iff_toInt_le.mp h.1
  have h2 := Int32.le_iff_toInt_le.mp h.2
  have e1 : (48 : Int32).toInt = 48 := rfl
  have e2 : (57 : Int32).toInt = 57 := rfl
  refine ⟨(x.toInt - 48).toNat, by omega, ?_⟩
  apply Int32.toInt_inj.mp
  rw [nI_toInt (by omega)]
  omega
theorem k_dig {x : Int32} (h : s_dig x = true) : (x - 48).toInt64 = x.toInt64 - 48 ∧ ¬ x = 46 := by
  obtain ⟨j, hj, rfl⟩ := s_dig_of h
  exact (by decide +kernel : ∀ j, j < 10 → (nI (48 + j) - 48).toInt64 = (nI (48 + j)).toInt64 - 48 ∧ ¬ nI (48 + j) = 46) j hj
theorem k_step_dig {x : Int32} {v : Int64} {mi : Int32} {b : Bool} (h : s_dig x = true) : k_step x (v, mi, b) = (10 * v + x.toInt64 - 48, (if b = true then mi - 1 else mi), b) := by
  obtain ⟨h1, h2⟩ := k_dig h
  simp only [k_step, if_neg h2, h1]
  rw [Int64.mul_comm v 10, Int64.sub_eq_add_neg, Int64.sub_eq_add_neg, Int64.add_assoc]
theorem k_scan_A {w : Nat → Int32} {p a : Nat} (hd : ∀ i, i < a → s_dig (w (p + i)) = true) : ∀ n, n ≤ a → k_scan w p n = (n_num w p a n, 6, false)
  | 0, _ => rfl
  | n + 1, h1 => by
    show k_step (w (p + n)) (k_scan w p n) = _
    rw [k_scan_A hd n (by omega), k_step_dig (hd n (by omega))]
    rw [n_num_ne (by omega)]
    rfl
theorem k_scan_B {w : Nat → Int32} {p a q : Nat} (hd : ∀ i, i < a → s_dig (w (p + i)) = true) (hp : w (p + a) = 46) (hq : ∀ i, i < q → s_dig (w (p + a + 1 + i)) = true) : ∀ n, n ≤ q → n ≤ 6 → k_scan w p (a + 1 + n) = (n_num w p a (a + 1 + n), nI (6 - n), true)
  | 0, _, _ => by
    show k_step (w (p + a)) (k_scan w p a) = _
    rw [k_scan_A hd a (Nat.le_refl _), hp]
    rw [show a + 1 + 0 = a + 1 from rfl, n_num_at]
    rfl
  | n + 1, h1, h2 => by
    show k_step (w (p + (a + 1 + n))) (k_scan w p (a + 1 + n)) = _
    rw [k_scan_B hd hp hq n (by omega) (by omega), k_step_dig (by have := hq n (by omega); rwa [show p + a + 1 + n = p + (a + 1 + n) by omega] at this)]
    rw [show a + 1 + (n + 1) = (a + 1 + n) + 1 from rfl, n_num_ne (by omega), if_pos rfl, show (1 : Int32) = nI 1 from rfl, pk_sub (by omega), show 6 - n - 1 = 6 - (n + 1) by omega]
theorem n_p_le (w : Nat → Int32) (size : Nat) : n_p w size ≤ size := by
  unfold n_p n_sign
  split
  · rename_i h
    simp only [Bool.and_eq_true, decide_eq_true_eq] at h
    exact h.1
  · exact Nat.zero_le _
theorem n_pos {a : Nat} (h : a < 2 ^ 31) : decide (0 < nI a) = decide (0 < a) := by
  rw [← nI_0]
  exact decide_eq_decide.mpr (nI_ltI (by decide) h)
/-- the cases of what is written -/
theorem n_cases {w : Nat → Int32} {size : Nat} (hs : size ≤ 20) :
    (n_ok w size = false ∧ k_ok w size = false) ∨
    (∃ a, a ≤ 9 ∧ 0 < a ∧ n_p w size + a = size ∧ k_ok w size = true ∧ n_ok w size = true ∧ n_end w size = (n_num w (n_p w size) a a, nI a, -1, true) ∧ k_end w size = (n_num w (n_p w size) a a, 6, false)) ∨
    (∃ a q, a ≤ 9 ∧ q ≤ 6 ∧ 0 < a + q ∧ n_p w size + a + 1 + q = size ∧ k_ok w size = true ∧ n_ok w size = true ∧ n_end w size = (n_num w (n_p w size) a (a + 1 + q), nI a, nI q, true) ∧ k_end w size = (n_num w (n_p w size) a (a + 1 + q), nI (6 - q), true)) := by
  have hp := n_p_le w size
  generalize hpp : n_p w size = p at hp
  have hle := k_run_le w size 20 p hp
  have hdig := k_run_dig w size 20 p
  have hstop := k_run_stop w size 20 p (by omega)
  have ea : k_a w size = k_run w size 20 p := by unfold k_a; rw [hpp]
  generalize k_run w size 20 p = a at hle hdig hstop ea
  have dead : ∀ j, j ≤ size - p → (n_scan w p j).2.2.2 = false → n_ok w size = false := by
    intro j hj h
    have h2 := n_dead_all h (size - p - j)
    rw [show j + (size - p - j) = size - p by omega] at h2
    unfold n_ok n_end
    rw [hpp, h2]
    rfl
  by_cases ha : a ≤ 9
  · by_cases he : p + a = size
    · -- no point
      have e1 : n_end w size = (n_num w p a a, nI a, -1, true) := by
        unfold n_end
        rw [hpp, show size - p = a by omega]
        exact n_scan_A hdig a (Nat.le_refl _) ha
      have e2 : k_end w size = (n_num w p a a, 6, false) := by
        unfold k_end
        rw [hpp, show size - p = a by omega]
        exact k_scan_A hdig a (Nat.le_refl _)
      have ept : k_pt w size = false := by
        unfold k_pt
        rw [hpp, ea, decide_eq_false (by omega)]
        rfl
      have eq : k_q w size = 0 := by unfold k_q; rw [ept]; rfl
      have eat : k_at w size = size := by unfold k_at; rw [hpp, ea, ept]; simp; exact he
      have o1 : n_ok w size = decide (0 < a) := by
        unfold n_ok n_many
        rw [e1]
        show (true && decide (0 < nI a + (if (-1 : Int32) < 0 then 0 else -1))) = _
        rw [if_pos (by decide), Bool.true_and, Int32.add_zero]
        exact n_pos (by omega)
      have o2 : k_ok w size = decide (0 < a) := by
        unfold k_ok
        rw [eat, ea, eq, decide_eq_true rfl, decide_eq_true ha, decide_eq_true (by omega : 0 ≤ 6)]
        simp
      by_cases h0 : 0 < a
      · right; left
        rw [decide_eq_true h0] at o1 o2
        exact ⟨a, ha, h0, he, o2, o1, e1, e2⟩
      · left
        rw [decide_eq_false h0] at o1 o2
        exact ⟨o1, o2⟩
    · have hlt : p + a < size := by omega
      have hnd := hstop hlt
      by_cases hx : w (p + a) = 46
      · have ept : k_pt w size = true := by
          unfold k_pt
          rw [hpp, ea, decide_eq_true hlt, decide_eq_true hx]
          rfl
        have hle2 := k_run_le w size 20 (p + a + 1) (by omega)
        have hdig2 := k_run_dig w size 20 (p + a + 1)
        have hstop2 := k_run_stop w size 20 (p + a + 1) (by omega)
        have eq : k_q w size = k_run w size 20 (p + a + 1) := by unfold k_q; rw [ept, hpp, ea]; rfl
        generalize k_run w size 20 (p + a + 1) = q at hle2 hdig2 hstop2 eq
        have eat : k_at w size = p + a + (1 + q) := by unfold k_at; rw [hpp, ea, ept, eq]; rfl
        by_cases hq : q ≤ 6
        · by_cases he2 : p + a + 1 + q = size
          · have e1 : n_end w size = (n_num w p a (a + 1 + q), nI a, nI q, true) := by
              unfold n_end
              rw [hpp, show size - p = a + 1 + q by omega]
              exact n_scan_B hdig ha hx hdig2 q (Nat.le_refl _) hq
            have e2 : k_end w size = (n_num w p a (a + 1 + q), nI (6 - q), true) := by
              unfold k_end
              rw [hpp, show size - p = a + 1 + q by omega]
              exact k_scan_B hdig hx hdig2 q (Nat.le_refl _) hq
            have o1 : n_ok w size = decide (0 < a + q) := by
              unfold n_ok n_many
              rw [e1]
              show (true && decide (0 < nI a + (if nI q < 0 then 0 else nI q))) = _
              rw [if_neg (nI_pos (by omega)), Bool.true_and, nI_add]
              exact n_pos (by omega)
            have o2 : k_ok w size = decide (0 < a + q) := by
              unfold k_ok
              rw [eat, ea, eq, decide_eq_true (by omega : p + a + (1 + q) = size), decide_eq_true ha, decide_eq_true hq]
              rfl
            by_cases h0 : 0 < a + q
            · right; right
              rw [decide_eq_true h0] at o1 o2
              exact ⟨a, q, ha, hq, h0, he2, o2, o1, e1, e2⟩
            · left
              rw [decide_eq_false h0] at o1 o2
              exact ⟨o1, o2⟩
          · left
            have hnd2 := hstop2 (by omega)
            refine ⟨dead (a + 1 + q + 1) (by omega) ?_, ?_⟩
            · show (n_step (w (p + (a + 1 + q))) (n_scan w p (a + 1 + q))).2.2.2 = false
              rw [n_scan_B hdig ha hx hdig2 q (Nat.le_refl _) hq]
              refine n_step_bad (by rwa [show p + (a + 1 + q) = p + a + 1 + q by omega]) (fun h => ?_)
              exact absurd h.2 (nI_pos (by omega))
            · unfold k_ok
              rw [eat, decide_eq_false (by omega)]
              rfl
        · left
          refine ⟨dead (a + 1 + 7) (by omega) (n_scan_B7 hdig ha hx hdig2 (by omega)), ?_⟩
          unfold k_ok
          rw [eq, decide_eq_false hq]
          simp
      · left
        have ept : k_pt w size = false := by
          unfold k_pt
          rw [hpp, ea, decide_eq_false hx]
          simp
        have eat : k_at w size = p + a := by unfold k_at; rw [hpp, ea, ept]; rfl
        refine ⟨dead (a + 1) (by omega) ?_, ?_⟩
        · show (n_step (w (p + a)) (n_scan w p a)).2.2.2 = false
          rw [n_scan_A hdig a (Nat.le_refl _) ha]
          exact n_step_bad hnd (fun h => hx h.1)
        · unfold k_ok
          rw [eat, decide_eq_false (by omega)]
          rfl
  · left
    refine ⟨dead 10 (by omega) (n_scan_A10 hdig (by omega)), ?_⟩
    unfold k_ok
    rw [ea, decide_eq_false ha]
    simp
theorem nk_ok {w : Nat → Int32} {size : Nat} (hs : size ≤ 20) : n_ok w size = k_ok w size := by
  rcases n_cases hs with ⟨h1, h2⟩ | ⟨a, _, _, _, h1, h2, _⟩ | ⟨a, q, _, _, _, _, h1, h2, _⟩ <;> rw [h1, h2]
theorem n_mul_eq (v : Int64) : ∀ n, n_mul v n = v * Int64.ofNat (10 ^ n)
  | 0 => by show v = v * 1; rw [Int64.mul_one]
  | n + 1 => by
    show 10 * n_mul v n = _
    rw [n_mul_eq v n, Nat.pow_succ, Int64.ofNat_mul, Int64.mul_comm 10, Int64.mul_assoc]
    rfl
theorem nk_sgn (w : Nat → Int32) (size : Nat) : (n_p w size = 1 ∧ w 0 = 45) ↔ (0 < size ∧ w 0 = 45) := by
  unfold n_p n_sign
  constructor
  · rintro ⟨h1, h2⟩
    split at h1
    · rename_i h
      simp only [Bool.and_eq_true, decide_eq_true_eq] at h
      exact ⟨h.1, h2⟩
    · cases h1
  · rintro ⟨h1, h2⟩
    refine ⟨?_, h2⟩
    rw [if_pos]
    simp [h1, h2]
theorem nk_val {w : Nat → Int32} {size : Nat} (hs : size ≤ 20) (h : n_ok w size = true) : n_val w size = k_val w size := by
  have key : (if (n_end w size).2.2.2 = true then n_mul (n_end w size).1 (6 - ix (n_many (n_end w size))) else (n_end w size).1) = (k_end w size).1 * k_ten (k_end w size).2.1 := by
    rcases n_cases hs with ⟨h1, h2⟩ | ⟨a, _, _, _, _, _, e1, e2⟩ | ⟨a, q, _, hq, _, _, _, _, e1, e2⟩
    · rw [h1] at h; cases h
    · rw [e1, e2]
      show n_mul _ (6 - ix (if (-1 : Int32) < 0 then 0 else -1)) = _
      rw [if_pos (by decide), n_mul_eq]
      rfl
    · rw [e1, e2]
      show n_mul _ (6 - ix (if nI q < 0 then 0 else nI q)) = _ * k_ten (nI (6 - q))
      rw [if_neg (nI_pos (by omega)), n_mul_eq, ix_nI (by omega)]
      congr 1
      unfold k_ten m_in
      rw [decide_eq_true (nI_pos' (by omega)), decide_eq_true (by rw [show (16 : Int32) = nI 16 from rfl]; exact (nI_leI (by omega) (by omega)).mpr (by omega)), ix_nI (by omega)]
      rfl
  unfold n_val k_val
  simp only [key]
  by_cases hg : 0 < size ∧ w 0 = 45
  · rw [if_pos hg, if_pos ((nk_sgn w size).mpr hg)]
  · rw [if_neg hg, if_neg (fun q => hg ((nk_sgn w size).mp q))]
