/-! what the class finds is what the reference says -/
def mU (N : Nat → Nat) (E : Nat → Nat → Int32) : Prop := (∀ f, E 21 f = -1 ∨ rg (E 21 f) 8) ∧ (∀ c, E 1 c = 0 ∨ E 1 c = 1 ∨ E 1 c = 2) ∧ (∀ c, E 3 c = 0 ∨ E 3 c = 1) ∧ (∀ a, a < N 1 → ¬ E 9 a = 0)
theorem rg_nn {x : Int32} {n : Nat} (h : rg x n) (hn : n ≤ 2 ^ 30) : 0 ≤ x := by
  rw [h.1]
  exact nI_pos' (by have := h.2; omega)
theorem cf_eq {B : Nat → Nat → Bool} {N : Nat → Nat} {E : Nat → Nat → Int32} (U : mU N E) (f : Nat) : c_fault E f (ix (E 19 f)) (m_known B E (ix (E 19 f))) = m_fault B E f := by
  have hu := U.1 f
  have ht := U.2.1 (ix (E 19 f))
  have hp := U.2.2.1 (ix (E 19 f))
  unfold c_fault m_fault c_huf m_text m_money c_cur
  generalize E 1 (ix (E 19 f)) = t at *
  generalize E 3 (ix (E 19 f)) = pd at *
  generalize E 21 f = u at *
  generalize E 12 (ix (E 20 f)) = sx at *
  generalize E 22 f = md at *
  generalize m_known B E (ix (E 19 f)) = kn at *
  cases kn
  · rfl
  have k3 : (¬ (if sx = -1 then (0 : Int32) else 1) = pd) ↔ (decide (sx = -1) = !decide (pd = 0)) := by
    rcases hp with rfl | rfl <;> by_cases h : sx = -1 <;> simp [h]
  have k4 : ((!decide (t = 0)) = (!decide (md = 0))) ↔ (decide (t = 0) = decide (md = 0)) := by
    by_cases h : t = 0 <;> by_cases h2 : md = 0 <;> simp [h, h2]
  rcases hu with rfl | hu
  · rcases ht with rfl | rfl | rfl
    · simp [k3, k4]
    · simp
    · simp
  · have h0 := rg_nn hu (by decide)
    have h1 : ¬ u < 0 := Int32.not_lt.mpr h0
    have h2 : ¬ u = -1 := fun q => by rw [q] at h0; exact absurd h0 (by decide)
    rcases ht with rfl | rfl | rfl
    · simp [h0, h1, h2]
    · simp [h0, h1, h2, k3, k4]
    · simp only [h0, h1, h2, if_false, decide_true, decide_false, Bool.true_and, Bool.not_false, Bool.not_true, k3, k4]
      simp
theorem one_len {q : Prop} [Decidable q] {x : Int32} : (if q then [x] else []).length ≤ 1 := by split <;> simp
section LN
variable {B : Nat → Nat → Bool} {N : Nat → Nat} {E : Nat → Nat → Int32} {V : Nat → Int64}
theorem p1_len : ∀ n, (lstN (fun f => m_p1 B E 1 f) n).length + (lstN (fun f => m_p1 B E 2 f) n).length + (lstN (fun f => m_p1 B E 3 f) n).length + (lstN (fun f => m_p1 B E 4 f) n).length ≤ n
  | 0 => Nat.le_refl _
  | n + 1 => by
    have ih := p1_len n
    have h : (m_p1 B E 1 n).length + (m_p1 B E 2 n).length + (m_p1 B E 3 n).length + (m_p1 B E 4 n).length ≤ 1 := by
      unfold m_p1
      generalize m_fault B E n = x
      by_cases h1 : x = nI 1
      · subst h1; simp [show ¬ nI 1 = nI 2 from by decide, show ¬ nI 1 = nI 3 from by decide, show ¬ nI 1 = nI 4 from by decide]
      · by_cases h2 : x = nI 2
        · subst h2; simp [show ¬ nI 2 = nI 1 from by decide, show ¬ nI 2 = nI 3 from by decide, show ¬ nI 2 = nI 4 from by decide]
        · by_cases h3 : x = nI 3
          · subst h3; simp [show ¬ nI 3 = nI 1 from by decide, show ¬ nI 3 = nI 2 from by decide, show ¬ nI 3 = nI 4 from by decide]
          · simp only [h1, h2, h3, if_false, List.length_nil, Nat.zero_add]; exact one_len
    show (lstN _ n ++ m_p1 B E 1 n).length + (lstN _ n ++ m_p1 B E 2 n).length + (lstN _ n ++ m_p1 B E 3 n).length + (lstN _ n ++ m_p1 B E 4 n).length ≤ n + 1
    simp only [List.length_append]
    omega
theorem p67_len : ∀ n, (lstN (fun a => m_p6 B E a) n).length + (lstN (fun a => m_p7 B N E a) n).length ≤ n
  | 0 => Nat.le_refl _
  | n + 1 => by
    have ih := p67_len n
    have h : (m_p6 B E n).length + (m_p7 B N E n).length ≤ 1 := by
      by_cases hc : m_counts B E n = true
      · rw [show m_p6 B E n = [] from if_neg (fun q => by rw [hc] at q; exact absurd q.2 (by decide))]
        simp only [List.length_nil, Nat.zero_add]
        exact one_len
      · rw [Bool.not_eq_true] at hc
        rw [show m_p7 B N E n = [] from if_neg (by unfold m_wrong; rw [left_no1 hc]; simp)]
        simp only [List.length_nil, Nat.add_zero]
        exact one_len
    show (lstN _ n ++ m_p6 B E n).length + (lstN _ n ++ m_p7 B N E n).length ≤ n + 1
    simp only [List.length_append]
    omega
theorem probs_len (hN : mN N) : (m_probs B N E V).length ≤ 180 := by
  obtain ⟨n0, n1, n2, n3, n4, n5⟩ := hN
  have e1 : (lstN (fun q => lstN (fun f => m_p1 B E (q + 1) f) (N 5)) 4).length ≤ N 5 := by
    refine Nat.le_trans (Nat.le_of_eq ?_) (p1_len (B := B) (E := E) (N 5))
    show (((([] ++ lstN (fun f => m_p1 B E 1 f) (N 5)) ++ lstN (fun f => m_p1 B E 2 f) (N 5)) ++ lstN (fun f => m_p1 B E 3 f) (N 5)) ++ lstN (fun f => m_p1 B E 4 f) (N 5)).length = _
    simp only [List.length_append, List.length_nil, Nat.zero_add]
  have e5 := lstN_len (f := fun f => m_p5 N E f) (n := N 5) (k := 1) (fun i _ => one_len)
  have e6 := p67_len (B := B) (N := N) (E := E) (N 1)
  have e8 := lstN_len (f := fun r => lstN (fun c => m_p8 B N E r c) (N 0)) (n := 3) (k := N 0) (fun i _ => Nat.le_trans (lstN_len (k := 1) (fun _ _ => one_len)) (by omega))
  have e9 := lstN_len (f := fun r => lstN (fun f => m_p9 B N E V r f) (N 5)) (n := 3) (k := N 5) (fun i _ => Nat.le_trans (lstN_len (k := 1) (fun _ _ => one_len)) (by omega))
  unfold m_probs
  simp only [List.length_append]
  omega
end LN
theorem dsym {α : Type} [DecidableEq α] (x y : α) : decide (x = y) = decide (y = x) := decide_eq_decide.mpr ⟨Eq.symm, Eq.symm⟩
theorem eqX_sym (E : Nat → Nat → Int32) (a b : Nat) : m_eqX E a b = m_eqX E b a := by
  unfold m_eqX
  rw [dsym (E 11 a), dsym (E 12 a), dsym (E 13 a), dsym (E 14 a)]
theorem eqU_sym (E : Nat → Nat → Int32) (a b : Int32) : m_eqU E a b = m_eqU E b a := by
  unfold m_eqU
  by_cases h : a < 0 ∨ b < 0
  · rw [if_pos h, if_pos h.symm, dsym]
  · rw [if_neg h, if_neg (fun q => h q.symm), dsym (E 15 (ix a)) (E 15 (ix b)), dsym (E 16 (ix a)) (E 16 (ix b)), dsym (E 15 (ix a)) (E 16 (ix b)), dsym (E 16 (ix a)) (E 15 (ix b)), dsym (E 17 (ix a)), Bool.and_comm (decide (E 16 (ix b) = E 15 (ix a)))]
section SM
variable {B : Nat → Nat → Bool} {N : Nat → Nat} {E : Nat → Nat → Int32} {V : Nat → Int64} {r : Int32} {f : Nat}
theorem part_eq (a g : Nat) : (c_sel B N E r f a && c_ok B N E a f g) = m_part B N E r f a g := by
  unfold c_sel c_ok m_part
  rw [eqX_sym E (ix (E 20 g)), eqU_sym E (E 21 g), dsym (E 19 g)]
  ac_rfl
theorem is_iff {Q : Nat → Bool} (n1 : N 1 ≤ 32) : anyB (fun k => m_is B N E r f k && Q (k / 32)) (32 * N 5) = true ↔ ∃ a, a < N 1 ∧ ∃ g, g < N 5 ∧ m_part B N E r f a g = true ∧ Q g = true := by
  rw [anyB_iff]
  constructor
  · rintro ⟨k, hk, h⟩
    unfold m_is at h
    simp only [Bool.and_eq_true, decide_eq_true_eq] at h
    exact ⟨k % 32, h.1.1, k / 32, Nat.div_lt_of_lt_mul hk, h.1.2, h.2⟩
  · rintro ⟨a, ha, g, hg, h1, h2⟩
    have e1 : (32 * g + a) / 32 = g := by omega
    have e2 : (32 * g + a) % 32 = a := by omega
    refine ⟨32 * g + a, by omega, ?_⟩
    unfold m_is
    rw [e1, e2, decide_eq_true ha, h1, h2]
    rfl
theorem cnt_pos {P : Nat → Bool} : ∀ n, 0 < cntN P n ↔ anyB P n = true
  | 0 => ⟨fun h => absurd h (Nat.lt_irrefl 0), fun h => absurd h (by decide : ¬ false = true)⟩
  | n + 1 => by
    have ih := cnt_pos (P := P) n
    show 0 < cntN P n + (if P n = true then 1 else 0) ↔ (anyB P n || P n) = true
    rw [Bool.or_eq_true, ← ih]
    by_cases h : P n = true
    · simp [h]
    · simp [h]
theorem cnt_le {P : Nat → Bool} : ∀ n, cntN P n ≤ n
  | 0 => Nat.le_refl _
  | n + 1 => by
    have ih := cnt_le (P := P) n
    show cntN P n + (if P n = true then 1 else 0) ≤ n + 1
    split <;> omega
theorem gc_pos : ∀ n, 0 < g_cnt B N E r f n ↔ ∃ a, a < n ∧ ∃ g, g < N 5 ∧ m_part B N E r f a g = true
  | 0 => ⟨fun h => absurd h (Nat.lt_irrefl 0), fun ⟨a, ha, _⟩ => absurd ha (Nat.not_lt_zero a)⟩
  | n + 1 => by
    have ih := gc_pos n
    have hs : 0 < (if c_sel B N E r f n = true then cntN (fun g => c_ok B N E n f g) (N 5) else 0) ↔ ∃ g, g < N 5 ∧ m_part B N E r f n g = true := by
      by_cases h : c_sel B N E r f n = true
      · rw [if_pos h, cnt_pos, anyB_iff]
        constructor
        · rintro ⟨g, hg, h2⟩
          exact ⟨g, hg, by rw [← part_eq, h, h2]; rfl⟩
        · rintro ⟨g, hg, h2⟩
          rw [← part_eq, Bool.and_eq_true] at h2
          exact ⟨g, hg, h2.2⟩
      · rw [if_neg h]
        constructor
        · intro q; exact absurd q (Nat.lt_irrefl 0)
        · rintro ⟨g, hg, h2⟩
          rw [← part_eq, Bool.and_eq_true] at h2
          exact absurd h2.1 h
    show 0 < g_cnt B N E r f n + (if c_sel B N E r f n = true then cntN (fun g => c_ok B N E n f g) (N 5) else 0) ↔ _
    constructor
    · intro q
      rcases Nat.eq_zero_or_pos (g_cnt B N E r f n) with z | z
      · rw [z, Nat.zero_add] at q
        obtain ⟨g, hg, h⟩ := hs.mp q
        exact ⟨n, Nat.lt_succ_self n, g, hg, h⟩
      · obtain ⟨a, ha, h⟩ := ih.mp z
        exact ⟨a, by omega, h⟩
    · rintro ⟨a, ha, g, hg, h⟩
      by_cases e : a = n
      · rw [e] at h
        have := hs.mpr ⟨g, hg, h⟩
        omega
      · have := ih.mpr ⟨a, by omega, g, hg, h⟩
        omega
theorem gc_le : ∀ n, g_cnt B N E r f n ≤ n * N 5
  | 0 => by rw [Nat.zero_mul]; exact Nat.le_refl _
  | n + 1 => by
    have ih := gc_le n
    have h2 := cnt_le (P := fun g => c_ok B N E n f g) (N 5)
    show g_cnt B N E r f n + (if c_sel B N E r f n = true then cntN (fun g => c_ok B N E n f g) (N 5) else 0) ≤ (n + 1) * N 5
    rw [Nat.succ_mul]
    split <;> omega
theorem bound_iff (hN : mN N) : 0 < G_p B N E r f ↔ m_bound B N E r f = true := by
  obtain ⟨n0, n1, n2, n3, n4, n5⟩ := hN
  unfold G_p m_bound
  by_cases hs : m_single B N E f = true
  · rw [if_pos hs, hs, Bool.and_true]
    have hb : g_cnt B N E r f (N 1) ≤ 640 := Nat.le_trans (gc_le (N 1)) (Nat.mul_le_mul n1 n5)
    have e1 : 0 < nI (g_cnt B N E r f (N 1)) ↔ 0 < g_cnt B N E r f (N 1) := by
      rw [← Int32.not_le, show (0 : Int32) = nI 0 from rfl, nI_leI (by omega) (by omega)]
      omega
    rw [e1, gc_pos]
    have e2 := is_iff (B := B) (N := N) (E := E) (r := r) (f := f) (Q := fun _ => true) n1
    simp only [Bool.and_true, and_true] at e2
    exact e2.symm
  · rw [if_neg hs]
    rw [Bool.not_eq_true] at hs
    rw [hs, Bool.and_false]
    exact ⟨fun q => absurd q (by decide), fun q => absurd q (by decide)⟩
theorem gv_iff : ∀ n, g_vag B N E r f n = true ↔ ∃ a, a < n ∧ ∃ g, g < N 5 ∧ m_part B N E r f a g = true ∧ m_vague E g = true
  | 0 => ⟨fun h => absurd h (by decide : ¬ false = true), fun ⟨a, ha, _⟩ => absurd ha (Nat.not_lt_zero a)⟩
  | n + 1 => by
    have ih := gv_iff n
    show (g_vag B N E r f n || (c_sel B N E r f n && anyB (fun g => c_v B N E n f g) (N 5))) = true ↔ _
    rw [Bool.or_eq_true, Bool.and_eq_true, ih, anyB_iff]
    constructor
    · rintro (⟨a, ha, h⟩ | ⟨h1, g, hg, h2⟩)
      · exact ⟨a, by omega, h⟩
      · unfold c_v at h2
        rw [Bool.and_eq_true] at h2
        exact ⟨n, Nat.lt_succ_self n, g, hg, by rw [← part_eq, h1, h2.1]; rfl, h2.2⟩
    · rintro ⟨a, ha, g, hg, h1, h2⟩
      by_cases e : a = n
      · rw [e, ← part_eq, Bool.and_eq_true] at h1
        exact Or.inr ⟨h1.1, g, hg, by unfold c_v; rw [h1.2, h2]; rfl⟩
      · exact Or.inl ⟨a, by omega, g, hg, h1, h2⟩
theorem gs_eq : ∀ n, g_sum B N E V r f n = sumN (fun a => sumN (fun g => if m_part B N E r f a g = true then (E 9 a).toInt64 * m_rounded E V g else 0) (N 5)) n
  | 0 => rfl
  | n + 1 => by
    show g_sum B N E V r f n + (if c_sel B N E r f n = true then sumN (fun g => c_f B N E V n f g) (N 5) else 0) = sumN _ n + sumN _ (N 5)
    rw [gs_eq n]
    congr 1
    by_cases h : c_sel B N E r f n = true
    · rw [if_pos h]
      apply sumN_congr
      intro g _
      unfold c_f
      rw [← part_eq, h, Bool.true_and]
    · rw [if_neg h]
      rw [Bool.not_eq_true] at h
      exact (sumN_zero (fun g _ => by rw [← part_eq, h, Bool.false_and]; rfl)).symm
theorem sum_eq (n1 : N 1 ≤ 32) : g_sum B N E V r f (N 1) = m_sum B N E V r f := by
  rw [gs_eq, sumN_swap]
  unfold m_sum
  have e := sumN_pairs (f := fun g a => if (decide (a < N 1) && m_part B N E r f a g) = true then (E 9 a).toInt64 * m_rounded E V g else 0) (w := 32) (by decide) (N 5)
  refine Eq.trans ?_ e.symm
  apply sumN_congr
  intro g _
  have e2 := sumN_more (f := fun a => if (decide (a < N 1) && m_part B N E r f a g) = true then (E 9 a).toInt64 * m_rounded E V g else 0) (n := N 1) (32 - N 1) (fun i h1 h2 => by rw [decide_eq_false (Nat.not_lt.mpr h1), Bool.false_and]; rfl)
  rw [show N 1 + (32 - N 1) = 32 by omega] at e2
  refine Eq.trans ?_ e2.symm
  apply sumN_congr
  intro a ha
  rw [decide_eq_true ha, Bool.true_and]
theorem ten_eq {x : Int32} (h : 1 ≤ x ∧ x ≤ 16) : k_ten x = m_ten x ∧ 0 < m_ten x := by
  have h1 := Int32.le_iff_toInt_le.mp h.1
  have h2 := Int32.le_iff_toInt_le.mp h.2
  have e1 : (1 : Int32).toInt = 1 := rfl
  have e2 : (16 : Int32).toInt = 16 := rfl
  constructor
  · unfold k_ten m_ten
    rw [if_pos]
    unfold m_in
    rw [decide_eq_true h.2, decide_eq_true (Int32.le_iff_toInt_le.mpr (by have e0 : (0 : Int32).toInt = 0 := rfl; omega))]
    rfl
  · unfold m_ten
    have : ix x ≤ 16 := by unfold ix; rw [← Int32.toNat_toInt]; omega
    exact (by decide +kernel : ∀ q, q < 17 → 0 < Int64.ofNat (10 ^ q)) _ (by omega)
theorem agr_eq (hN : mN N) (hV : mV E V) (hb : m_bound B N E r f = true) : (!(m_vague E f) && (!(G_v B N E r f) && decide (r_c (G_t B N E V r f) (k_ten (7 - m_places (E 22 f) (E 23 f) (V f))) = 10 * m_rounded E V f))) = m_agrees B N E V r f := by
  obtain ⟨n0, n1, n2, n3, n4, n5⟩ := hN
  unfold m_bound at hb
  rw [Bool.and_eq_true] at hb
  have hp := pl_in (md := E 22 f) (k := E 23 f) (v := V f) (hV.1 f)
  have ht := ten_eq (x := 7 - m_places (E 22 f) (E 23 f) (V f)) (by
    generalize m_places (E 22 f) (E 23 f) (V f) = q at hp
    have h1 := Int32.le_iff_toInt_le.mp hp.1
    have h2 := Int32.le_iff_toInt_le.mp hp.2
    have e9 : (-9 : Int32).toInt = -9 := rfl
    have e6 : (6 : Int32).toInt = 6 := rfl
    have e1 : (1 : Int32).toInt = 1 := rfl
    have e16 : (16 : Int32).toInt = 16 := rfl
    have e7 : (7 - q).toInt = 7 - q.toInt := by
      rw [Int32.toInt_sub]
      have : (7 : Int32).toInt = 7 := rfl
      rw [this]
      exact Int.bmod_eq_of_le (by omega) (by omega)
    exact ⟨Int32.le_iff_toInt_le.mpr (by omega), Int32.le_iff_toInt_le.mpr (by omega)⟩)
  unfold m_agrees G_v G_t
  rw [hb.2, if_pos rfl, Bool.true_and, ht.1, r_cm ht.2, sum_eq n1, Bool.and_assoc]
  congr 2
  have e := is_iff (B := B) (N := N) (E := E) (r := r) (f := f) (Q := fun g => m_vague E g) n1
  rw [← gv_iff (N 1)] at e
  cases hg : g_vag B N E r f (N 1) with
  | true =>
    obtain ⟨k, hk, h⟩ := anyB_iff.mp (e.mpr hg)
    cases ha : allB (fun k => !(m_is B N E r f k && m_vague E (k / 32))) (32 * N 5) with
    | false => rfl
    | true =>
      have := allB_iff.mp ha k hk
      rw [h] at this
      exact absurd this (by decide)
  | false =>
    refine Eq.symm (allB_iff.mpr (fun k hk => ?_))
    cases h : (m_is B N E r f k && m_vague E (k / 32)) with
    | false => rfl
    | true =>
      have := e.mp (anyB_iff.mpr ⟨k, hk, h⟩)
      rw [hg] at this
      exact absurd this (by decide)
end SM
