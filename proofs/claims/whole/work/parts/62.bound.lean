/-! a number's size -/
theorem dig_val {v : Int64} {x : Int32} {u : Nat} (hx : s_dig x = true) (hv : v.toInt = (u : Int)) (hu : u < 10000000000000000) : ∃ j : Nat, j < 10 ∧ (10 * v + x.toInt64 - 48).toInt = ((10 * u + j : Nat) : Int) := by
  obtain ⟨j, hj, rfl⟩ := s_dig_of hx
  refine ⟨j, hj, ?_⟩
  have e1 : (nI (48 + j)).toInt64.toInt = ((48 + j : Nat) : Int) := by rw [Int32.toInt_toInt64, nI_toInt (by omega)]
  rw [Int64.toInt_sub, Int64.toInt_add, Int64.toInt_mul, hv, e1, show (10 : Int64).toInt = 10 from rfl, show (48 : Int64).toInt = 48 from rfl]
  rw [r_bm (z := 10 * (u : Int)) (by omega) (by omega), r_bm (z := 10 * (u : Int) + ((48 + j : Nat) : Int)) (by omega) (by omega), r_bm (z := 10 * (u : Int) + ((48 + j : Nat) : Int) - 48) (by omega) (by omega)]
  omega
theorem nv_inv (w : Nat → Int32) (p : Nat) : ∀ n, ∃ u a q : Nat, (n_scan w p n).1.toInt = (u : Int) ∧ (n_scan w p n).2.1 = nI a ∧ (((n_scan w p n).2.2.1 = -1 ∧ q = 0) ∨ (n_scan w p n).2.2.1 = nI q) ∧ u < 10 ^ (a + q) ∧ a ≤ 10 ∧ q ≤ 7 ∧ ((n_scan w p n).2.2.2 = true → a ≤ 9 ∧ q ≤ 6)
  | 0 => ⟨0, 0, 0, rfl, rfl, Or.inl ⟨rfl, rfl⟩, by decide, by omega, by omega, fun _ => by omega⟩
  | n + 1 => by
    obtain ⟨u, a, q, hu, ha, hb, hl, ha10, hq7, hg⟩ := nv_inv w p n
    show ∃ u a q : Nat, (n_step (w (p + n)) (n_scan w p n)).1.toInt = (u : Int) ∧ (n_step (w (p + n)) (n_scan w p n)).2.1 = nI a ∧ (((n_step (w (p + n)) (n_scan w p n)).2.2.1 = -1 ∧ q = 0) ∨ (n_step (w (p + n)) (n_scan w p n)).2.2.1 = nI q) ∧ u < 10 ^ (a + q) ∧ a ≤ 10 ∧ q ≤ 7 ∧ ((n_step (w (p + n)) (n_scan w p n)).2.2.2 = true → a ≤ 9 ∧ q ≤ 6)
    generalize n_scan w p n = t at hu ha hb hg
    generalize w (p + n) = x
    cases h : (s_dig x && t.2.2.2) with
    | true =>
      rw [Bool.and_eq_true] at h
      have hgo := hg h.2
      have hle : (10 : Nat) ^ (a + q) ≤ 10 ^ 15 := Nat.pow_le_pow_right (by decide) (by omega)
      have h15 : (10 : Nat) ^ 15 = 1000000000000000 := by decide
      obtain ⟨j, hj, hv⟩ := dig_val (v := t.1) (u := u) h.1 hu (by omega)
      have hpow : 10 * u + j < 10 ^ (a + q + 1) := by rw [Nat.pow_succ]; omega
      rw [n_A h.1 h.2]
      rcases hb with ⟨e, hq⟩ | e
      · have c1 : t.2.2.1 < 0 := by rw [e]; decide
        have w1 : (if t.2.2.1 < 0 then t.2.1 + 1 else t.2.1) = nI (a + 1) := by rw [if_pos c1, ha, nI_succ]
        refine ⟨10 * u + j, a + 1, q, hv, w1, Or.inl ⟨?_, hq⟩, by rw [show a + 1 + q = a + q + 1 by omega]; exact hpow, by omega, by omega, fun z => ?_⟩
        · show (if t.2.2.1 < 0 then t.2.2.1 else t.2.2.1 + 1) = -1
          rw [if_pos c1, e]
        · change (t.2.2.2 && (decide ((if t.2.2.1 < 0 then t.2.1 + 1 else t.2.1) ≤ 9) && decide ((if t.2.2.1 < 0 then t.2.2.1 else t.2.2.1 + 1) ≤ 6))) = true at z
          rw [w1, Bool.and_eq_true, Bool.and_eq_true, decide_eq_true_eq, show (9 : Int32) = nI 9 from rfl, nI_leI (by omega) (by omega)] at z
          exact ⟨z.2.1, by omega⟩
      · have c1 : ¬ t.2.2.1 < 0 := by rw [e]; exact nI_pos (by omega)
        have w1 : (if t.2.2.1 < 0 then t.2.2.1 else t.2.2.1 + 1) = nI (q + 1) := by rw [if_neg c1, e, nI_succ]
        refine ⟨10 * u + j, a, q + 1, hv, ?_, Or.inr w1, hpow, by omega, by omega, fun z => ?_⟩
        · show (if t.2.2.1 < 0 then t.2.1 + 1 else t.2.1) = nI a
          rw [if_neg c1, ha]
        · change (t.2.2.2 && (decide ((if t.2.2.1 < 0 then t.2.1 + 1 else t.2.1) ≤ 9) && decide ((if t.2.2.1 < 0 then t.2.2.1 else t.2.2.1 + 1) ≤ 6))) = true at z
          rw [w1, Bool.and_eq_true, Bool.and_eq_true, decide_eq_true_eq, decide_eq_true_eq, show (6 : Int32) = nI 6 from rfl, nI_leI (by omega) (by omega)] at z
          exact ⟨hgo.1, z.2.2⟩
    | false =>
      by_cases h1 : x = 46 ∧ t.2.2.1 < 0
      · rw [n_B h h1.1 h1.2]
        have hq : q = 0 := by
          rcases hb with ⟨_, hq⟩ | e
          · exact hq
          · have := h1.2
            rw [e] at this
            exact absurd this (nI_pos (by omega))
        refine ⟨u, a, q, hu, ha, Or.inr (by rw [hq]; rfl), hl, ha10, hq7, fun z => ?_⟩
        change (t.2.2.2 && _) = true at z
        rw [Bool.and_eq_true] at z
        exact hg z.1
      · rw [n_C h h1]
        exact ⟨u, a, q, hu, ha, hb, hl, ha10, hq7, fun z => absurd z (by simp)⟩
theorem nv_bound {w : Nat → Int32} {z : Nat} (h : n_ok w z = true) : -(10 ^ 15 : Int) < (n_val w z).toInt ∧ (n_val w z).toInt < 10 ^ 15 := by
  obtain ⟨u, a, q, hu, ha, hb, hl, ha10, hq7, hg⟩ := nv_inv w (n_p w z) (z - n_p w z)
  have hgood : (n_scan w (n_p w z) (z - n_p w z)).2.2.2 = true := by
    unfold n_ok at h
    rw [Bool.and_eq_true] at h
    exact h.1
  have hg := hg hgood
  have hm : n_many (n_scan w (n_p w z) (z - n_p w z)) = nI q := by
    unfold n_many
    rcases hb with ⟨e, hq⟩ | e
    · rw [e, hq]; rfl
    · rw [e, if_neg (nI_pos (by omega))]
  rw [n_val_eq hm (by omega), hgood, if_pos rfl, n_mul_eq]
  have hlt : u * 10 ^ (6 - q) < 1000000000000000 := by
    have h1 : u * 10 ^ (6 - q) < 10 ^ (a + q) * 10 ^ (6 - q) := Nat.mul_lt_mul_of_pos_right hl (Nat.pow_pos (by decide))
    rw [← Nat.pow_add] at h1
    have h2 : (10 : Nat) ^ (a + q + (6 - q)) ≤ 10 ^ 15 := Nat.pow_le_pow_right (by decide) (by omega)
    have h15 : (10 : Nat) ^ 15 = 1000000000000000 := by decide
    omega
  have e : ((n_scan w (n_p w z) (z - n_p w z)).1 * Int64.ofNat (10 ^ (6 - q))).toInt = ((u * 10 ^ (6 - q) : Nat) : Int) := by
    have e2 : (Int64.ofNat (10 ^ (6 - q))).toInt = ((10 ^ (6 - q) : Nat) : Int) := (by decide +kernel : ∀ i, i < 7 → (Int64.ofNat (10 ^ i)).toInt = ((10 ^ i : Nat) : Int)) _ (by omega)
    rw [Int64.toInt_mul, hu, e2, ← Int.natCast_mul]
    exact r_bm (by omega) (by omega)
  generalize (n_scan w (n_p w z) (z - n_p w z)).1 * Int64.ofNat (10 ^ (6 - q)) = v at e
  have h15 : (10 : Int) ^ 15 = 1000000000000000 := by decide
  rw [h15]
  split
  · rw [Int64.toInt_neg, e, r_bm (by omega) (by omega)]
    omega
  · rw [e]
    omega
theorem kv_bound {w : Nat → Int32} {z : Nat} (hs : z ≤ 20) (h : k_ok w z = true) : -(10 ^ 15 : Int) < (k_val w z).toInt ∧ (k_val w z).toInt < 10 ^ 15 := by
  rw [← nk_ok hs] at h
  rw [← nk_val hs h]
  exact nv_bound h
