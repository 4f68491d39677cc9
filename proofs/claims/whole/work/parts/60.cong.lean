/-! what is found depends only on the rows below the counters -/
def sm (N : Nat → Nat) (B B1 : Nat → Nat → Bool) (E E1 : Nat → Nat → Int32) (V V1 : Nat → Int64) : Prop := (∀ d, d < 8 → B 2 d = B1 2 d) ∧ (∀ a, a < N 1 → B 3 a = B1 3 a) ∧ (∀ k c, k < 4 → c < N 0 → E k c = E1 k c) ∧ (∀ k a, 4 ≤ k → k ≤ 10 → a < N 1 → E k a = E1 k a) ∧ (∀ k x, 11 ≤ k → k ≤ 14 → x < N 2 → E k x = E1 k x) ∧ (∀ k u, 15 ≤ k → k ≤ 17 → u < N 3 → E k u = E1 k u) ∧ (∀ k f, 19 ≤ k → k ≤ 23 → f < N 5 → E k f = E1 k f) ∧ ∀ f, f < N 5 → V f = V1 f
def wf (N : Nat → Nat) (E : Nat → Nat → Int32) : Prop := (∀ a, a < N 1 → ix (E 7 a) < N 0 ∧ ix (E 8 a) < N 0) ∧ (∀ f, f < N 5 → ix (E 19 f) < N 0 ∧ ix (E 20 f) < N 2 ∧ (E 21 f < 0 ∨ ix (E 21 f) < N 3)) ∧ (∀ c, c < N 0 → ix (E 0 c) < 8) ∧ ∀ a, a < N 1 → ix (E 4 a) < 8
section CG
variable {N N1 : Nat → Nat} {B B1 : Nat → Nat → Bool} {E E1 : Nat → Nat → Int32} {V V1 : Nat → Int64}
theorem s_c (S : sm N B B1 E E1 V V1) {k c : Nat} (hk : k < 4) (hc : c < N 0) : E k c = E1 k c := S.2.2.1 k c hk hc
theorem s_a (S : sm N B B1 E E1 V V1) {k a : Nat} (hk : 4 ≤ k ∧ k ≤ 10) (ha : a < N 1) : E k a = E1 k a := S.2.2.2.1 k a hk.1 hk.2 ha
theorem s_x (S : sm N B B1 E E1 V V1) {k x : Nat} (hk : 11 ≤ k ∧ k ≤ 14) (hx : x < N 2) : E k x = E1 k x := S.2.2.2.2.1 k x hk.1 hk.2 hx
theorem s_u (S : sm N B B1 E E1 V V1) {k u : Nat} (hk : 15 ≤ k ∧ k ≤ 17) (hu : u < N 3) : E k u = E1 k u := S.2.2.2.2.2.1 k u hk.1 hk.2 hu
theorem s_f (S : sm N B B1 E E1 V V1) {k f : Nat} (hk : 19 ≤ k ∧ k ≤ 23) (hf : f < N 5) : E k f = E1 k f := S.2.2.2.2.2.2.1 k f hk.1 hk.2 hf
theorem s_known (S : sm N B B1 E E1 V V1) (F : wf N E) {c : Nat} (hc : c < N 0) : m_known B E c = m_known B1 E1 c := by
  have h := F.2.2.1 c hc
  rw [s_c S (k := 0) (by omega) hc] at h
  unfold m_known
  rw [s_c S (k := 0) (by omega) hc, S.1 _ h]
theorem s_counts (S : sm N B B1 E E1 V V1) (F : wf N E) {a : Nat} (ha : a < N 1) : m_counts B E a = m_counts B1 E1 a := by
  have h4 := F.2.2.2 a ha
  rw [s_a S (k := 4) (by omega) ha] at h4
  unfold m_counts
  rw [s_known S F (F.1 a ha).1, s_known S F (F.1 a ha).2, s_a S (k := 4) (by omega) ha, s_a S (k := 7) (by omega) ha, s_a S (k := 8) (by omega) ha, S.1 _ h4]
theorem s_alike (S : sm N B B1 E E1 V V1) {a b : Nat} (ha : a < N 1) (hb : b < N 1) : m_alike E a b = m_alike E1 a b := by
  unfold m_alike
  rw [s_a S (k := 5) (by omega) ha, s_a S (k := 5) (by omega) hb, s_a S (k := 6) (by omega) ha, s_a S (k := 6) (by omega) hb, s_a S (k := 7) (by omega) ha, s_a S (k := 7) (by omega) hb, s_a S (k := 8) (by omega) ha, s_a S (k := 8) (by omega) hb, s_a S (k := 9) (by omega) ha, s_a S (k := 9) (by omega) hb]
theorem s_beat (S : sm N B B1 E E1 V V1) (F : wf N E) {a b : Nat} (ha : a < N 1) (hb : b < N 1) : m_beat B E a b = m_beat B1 E1 a b := by
  unfold m_beat
  rw [s_counts S F hb, s_alike S ha hb, s_a S (k := 10) (by omega) ha, s_a S (k := 10) (by omega) hb, S.2.1 b hb]
theorem s_left (S : sm N B B1 E E1 V V1) (F : wf N E) (h1 : N1 1 = N 1) {a : Nat} (ha : a < N 1) : m_left B N E a = m_left B1 N1 E1 a := by
  unfold m_left
  rw [s_counts S F ha, h1, allB_congr (P' := fun b => !(m_beat B1 E1 a b)) (fun b hb => by rw [s_beat S F ha hb])]
theorem s_eqX (S : sm N B B1 E E1 V V1) {a b : Nat} (ha : a < N 2) (hb : b < N 2) : m_eqX E a b = m_eqX E1 a b := by
  unfold m_eqX
  rw [s_x S (k := 11) (by omega) ha, s_x S (k := 11) (by omega) hb, s_x S (k := 12) (by omega) ha, s_x S (k := 12) (by omega) hb, s_x S (k := 13) (by omega) ha, s_x S (k := 13) (by omega) hb, s_x S (k := 14) (by omega) ha, s_x S (k := 14) (by omega) hb]
theorem s_eqU (S : sm N B B1 E E1 V V1) {a b : Int32} (ha : a < 0 ∨ ix a < N 3) (hb : b < 0 ∨ ix b < N 3) : m_eqU E a b = m_eqU E1 a b := by
  unfold m_eqU
  by_cases h : a < 0 ∨ b < 0
  · rw [if_pos h, if_pos h]
  · rw [if_neg h, if_neg h]
    have ha := ha.resolve_left (fun q => h (Or.inl q))
    have hb := hb.resolve_left (fun q => h (Or.inr q))
    rw [s_u S (k := 15) (by omega) ha, s_u S (k := 15) (by omega) hb, s_u S (k := 16) (by omega) ha, s_u S (k := 16) (by omega) hb, s_u S (k := 17) (by omega) ha, s_u S (k := 17) (by omega) hb]
theorem s_text (S : sm N B B1 E E1 V V1) (F : wf N E) {f : Nat} (hf : f < N 5) : m_text E f = m_text E1 f := by
  unfold m_text
  rw [s_c S (k := 1) (by omega) (F.2.1 f hf).1, s_f S (k := 19) (by omega) hf]
theorem s_money (S : sm N B B1 E E1 V V1) {u : Int32} (hu : u < 0 ∨ ix u < N 3) : m_money E u = m_money E1 u := by
  unfold m_money
  rcases hu with h | h
  · rw [decide_eq_false (Int32.not_le.mpr h)]; rfl
  · rw [s_u S (k := 15) (by omega) h, s_u S (k := 16) (by omega) h, s_u S (k := 17) (by omega) h]
theorem s_fault (S : sm N B B1 E E1 V V1) (F : wf N E) {f : Nat} (hf : f < N 5) : m_fault B E f = m_fault B1 E1 f := by
  unfold m_fault
  rw [s_known S F (F.2.1 f hf).1, s_text S F hf, s_money S (F.2.1 f hf).2.2, s_c S (k := 1) (by omega) (F.2.1 f hf).1, s_c S (k := 3) (by omega) (F.2.1 f hf).1, s_x S (k := 12) (by omega) (F.2.1 f hf).2.1, s_f S (k := 19) (by omega) hf, s_f S (k := 20) (by omega) hf, s_f S (k := 21) (by omega) hf, s_f S (k := 22) (by omega) hf]
theorem s_twins (S : sm N B B1 E E1 V V1) (F : wf N E) {a b : Nat} (ha : a < N 5) (hb : b < N 5) : m_twins E a b = m_twins E1 a b := by
  unfold m_twins
  rw [s_eqX S (F.2.1 a ha).2.1 (F.2.1 b hb).2.1, s_eqU S (F.2.1 a ha).2.2 (F.2.1 b hb).2.2, s_f S (k := 19) (by omega) ha, s_f S (k := 19) (by omega) hb, s_f S (k := 20) (by omega) ha, s_f S (k := 20) (by omega) hb, s_f S (k := 21) (by omega) ha, s_f S (k := 21) (by omega) hb]
theorem loN_congr {P P1 : Nat → Bool} : ∀ n, (∀ i, i < n → P i = P1 i) → loN P n = loN P1 n
  | 0, _ => rfl
  | n + 1, h => by
    unfold loN
    rw [loN_congr n (fun i hi => h i (by omega)), h n (by omega)]
theorem s_twin (S : sm N B B1 E E1 V V1) (F : wf N E) (h5 : N1 5 = N 5) {f : Nat} (hf : f < N 5) : m_twin N E f = m_twin N1 E1 f := by
  unfold m_twin
  rw [h5]
  exact loN_congr _ (fun g hg => s_twins S F hf hg)
theorem s_single (S : sm N B B1 E E1 V V1) (F : wf N E) (h5 : N1 5 = N 5) {f : Nat} (hf : f < N 5) : m_single B N E f = m_single B1 N1 E1 f := by
  unfold m_single
  rw [s_text S F hf, s_fault S F hf, s_twin S F h5 hf]
theorem s_part (S : sm N B B1 E E1 V V1) (F : wf N E) (h1 : N1 1 = N 1) (h5 : N1 5 = N 5) {r : Int32} {f a g : Nat} (hf : f < N 5) (ha : a < N 1) (hg : g < N 5) : m_part B N E r f a g = m_part B1 N1 E1 r f a g := by
  unfold m_part
  rw [s_left S F h1 ha, s_single S F h5 hg, s_eqX S (F.2.1 f hf).2.1 (F.2.1 g hg).2.1, s_eqU S (F.2.1 f hf).2.2 (F.2.1 g hg).2.2, s_a S (k := 5) (by omega) ha, s_a S (k := 6) (by omega) ha, s_a S (k := 7) (by omega) ha, s_a S (k := 8) (by omega) ha, s_f S (k := 19) (by omega) hf, s_f S (k := 19) (by omega) hg, s_f S (k := 20) (by omega) hf, s_f S (k := 20) (by omega) hg, s_f S (k := 21) (by omega) hf, s_f S (k := 21) (by omega) hg]
theorem s_is (S : sm N B B1 E E1 V V1) (F : wf N E) (h1 : N1 1 = N 1) (h5 : N1 5 = N 5) {r : Int32} {f k : Nat} (hf : f < N 5) (hk : k < 32 * N 5) : m_is B N E r f k = m_is B1 N1 E1 r f k := by
  unfold m_is
  rw [h1]
  by_cases h : k % 32 < N 1
  · rw [s_part S F h1 h5 hf h (Nat.div_lt_of_lt_mul hk)]
  · rw [decide_eq_false h, Bool.false_and, Bool.false_and]
theorem s_bound (S : sm N B B1 E E1 V V1) (F : wf N E) (h1 : N1 1 = N 1) (h5 : N1 5 = N 5) {r : Int32} {f : Nat} (hf : f < N 5) : m_bound B N E r f = m_bound B1 N1 E1 r f := by
  unfold m_bound
  rw [h5, s_single S F h5 hf, anyB_congr (P' := fun k => m_is B1 N1 E1 r f k) (fun k hk => s_is S F h1 h5 hf hk)]
theorem s_rounded (S : sm N B B1 E E1 V V1) {f : Nat} (hf : f < N 5) : m_rounded E V f = m_rounded E1 V1 f := by
  unfold m_rounded
  rw [s_f S (k := 22) (by omega) hf, s_f S (k := 23) (by omega) hf, S.2.2.2.2.2.2.2 f hf]
theorem s_vague (S : sm N B B1 E E1 V V1) {f : Nat} (hf : f < N 5) : m_vague E f = m_vague E1 f := by
  unfold m_vague
  rw [s_f S (k := 22) (by omega) hf, s_f S (k := 23) (by omega) hf]
theorem s_sum (S : sm N B B1 E E1 V V1) (F : wf N E) (h1 : N1 1 = N 1) (h5 : N1 5 = N 5) {r : Int32} {f : Nat} (hf : f < N 5) : m_sum B N E V r f = m_sum B1 N1 E1 V1 r f := by
  unfold m_sum
  rw [h5]
  refine sumN_congr (fun k hk => ?_)
  rw [s_is S F h1 h5 hf hk]
  by_cases h : m_is B1 N1 E1 r f k = true
  · rw [if_pos h, if_pos h]
    have h2 : k % 32 < N 1 := by
      unfold m_is at h
      rw [Bool.and_eq_true, decide_eq_true_eq, h1] at h
      exact h.1
    rw [s_a S (k := 9) (by omega) h2, s_rounded S (Nat.div_lt_of_lt_mul hk)]
  · rw [if_neg h, if_neg h]
theorem s_agrees (S : sm N B B1 E E1 V V1) (F : wf N E) (h1 : N1 1 = N 1) (h5 : N1 5 = N 5) {r : Int32} {f : Nat} (hf : f < N 5) : m_agrees B N E V r f = m_agrees B1 N1 E1 V1 r f := by
  unfold m_agrees
  rw [s_sum S F h1 h5 hf, s_rounded S hf, s_vague S hf, h5, s_f S (k := 22) (by omega) hf, s_f S (k := 23) (by omega) hf, S.2.2.2.2.2.2.2 f hf, allB_congr (P' := fun k => !(m_is B1 N1 E1 r f k && m_vague E1 (k / 32))) (fun k hk => by rw [s_is S F h1 h5 hf hk, s_vague S (Nat.div_lt_of_lt_mul hk)])]
theorem s_wrong (S : sm N B B1 E E1 V V1) (F : wf N E) (h1 : N1 1 = N 1) {a : Nat} (ha : a < N 1) : m_wrong B N E a = m_wrong B1 N1 E1 a := by
  unfold m_wrong
  rw [s_left S F h1 ha, s_c S (k := 2) (by omega) (F.1 a ha).1, s_c S (k := 2) (by omega) (F.1 a ha).2, s_a S (k := 6) (by omega) ha, s_a S (k := 7) (by omega) ha, s_a S (k := 8) (by omega) ha, s_a S (k := 9) (by omega) ha]
theorem s_arcs (S : sm N B B1 E E1 V V1) (F : wf N E) (h1 : N1 1 = N 1) (r : Int32) : m_arcs B N E r = m_arcs B1 N1 E1 r := by
  funext i j
  unfold m_arcs
  rw [h1]
  refine anyB_congr (fun a ha => ?_)
  rw [s_left S F h1 ha, s_a S (k := 5) (by omega) ha, s_a S (k := 6) (by omega) ha, s_a S (k := 7) (by omega) ha, s_a S (k := 8) (by omega) ha]
theorem s_way (S : sm N B B1 E E1 V V1) (F : wf N E) (h1 : N1 1 = N 1) (r : Int32) : m_way B N E r = m_way B1 N1 E1 r := by
  unfold m_way
  rw [s_arcs S F h1 r]
theorem way_out (F : wf N E) (r : Int32) {c : Nat} (hc : N 0 ≤ c) : m_way B N E r c c = false := by
  unfold m_way
  exact w_all_col (m_arcs_no F.1) 16 c c hc
theorem lst_more {f : Nat → List Int32} {n : Nat} : ∀ d, (∀ i, n ≤ i → f i = []) → lstN f (n + d) = lstN f n
  | 0, _ => rfl
  | d + 1, h => by
    show lstN f (n + d) ++ f (n + d) = _
    rw [lst_more d h, h _ (by omega), List.append_nil]
theorem s_probs (S : sm N B B1 E E1 V V1) (F : wf N E) (h1 : N1 1 = N 1) (h5 : N1 5 = N 5) (h0 : N 0 ≤ N1 0) : m_probs B N E V = m_probs B1 N1 E1 V1 := by
  unfold m_probs
  rw [h1, h5]
  congr 1
  · exact lstN_congr (fun q _ => lstN_congr (fun f hf => by unfold m_p1; rw [s_fault S F hf]))
  congr 1
  · exact lstN_congr (fun f hf => by unfold m_p5; rw [s_twin S F h5 hf])
  congr 1
  · exact lstN_congr (fun a ha => by unfold m_p6; rw [s_counts S F ha, s_a S (k := 4) (by omega) ha, S.1 _ (by have h4 := F.2.2.2 a ha; rwa [s_a S (k := 4) (by omega) ha] at h4)])
  congr 1
  · exact lstN_congr (fun a ha => by unfold m_p7; rw [s_wrong S F h1 ha])
  congr 1
  · refine lstN_congr (fun q _ => ?_)
    rw [show N1 0 = N 0 + (N1 0 - N 0) by omega]
    refine Eq.trans ?_ (lst_more (N1 0 - N 0) (fun c hc => ?_)).symm
    · exact lstN_congr (fun c _ => by unfold m_p8; rw [s_way S F h1])
    · unfold m_p8
      rw [← s_way S F h1, way_out F _ hc]
      rfl
  · exact lstN_congr (fun q _ => lstN_congr (fun f hf => by unfold m_p9; rw [s_bound S F h1 h5 hf, s_agrees S F h1 h5 hf]))
theorem s_fresh (S : sm N B B1 E E1 V V1) (F : wf N E) (h1 : N1 1 = N 1) (h5 : N1 5 = N 5) (h0 : N 0 ≤ N1 0) {X : Nat → Nat → Bool} {Y : Nat → Nat → Int32} {fc : Nat} (h : fresh B N E V X Y fc) : fresh B1 N1 E1 V1 X Y fc := by
  obtain ⟨a1, a2, a3, a4, a5⟩ := h
  rw [s_probs S F h1 h5 h0] at a4 a5
  exact ⟨fun j hj => by rw [a1 j (by omega), s_left S F h1 (by omega)], fun j hj => by rw [a2 j (by omega), s_fault S F (by omega)], fun j hj => by rw [a3 j (by omega), s_twin S F h5 (by omega)], a4, a5⟩
end CG
