/-! bits (the family bt of the kit's rows to paste) -/
def bt (x : Int32) (i : Nat) : Bool := x.toBitVec.getLsbD i
theorem b_ext {x y : Int32} (h : ∀ i, i < 32 → bt x i = bt y i) : x = y := Int32.toBitVec_inj.mp (BitVec.eq_of_getLsbD_eq (fun i hi => h i hi))
theorem b_or (x y : Int32) (i : Nat) : bt (x ||| y) i = (bt x i || bt y i) := by unfold bt; rw [Int32.toBitVec_or, BitVec.getLsbD_or]
theorem b_and (x y : Int32) (i : Nat) : bt (x &&& y) i = (bt x i && bt y i) := by unfold bt; rw [Int32.toBitVec_and, BitVec.getLsbD_and]
theorem b_0 (i : Nat) : bt 0 i = false := BitVec.getLsbD_zero
theorem s_l : ∀ n, n < 32 → ((nI n &&& 31).toBitVec.smod 32).toNat = n := by decide +kernel
theorem b_shl (n : Nat) (hn : n < 32) (x : Int32) {i : Nat} (hi : i < 32) : bt (x <<< (nI n &&& 31)) i = (decide (n ≤ i) && bt x (i - n)) := by
  unfold bt
  rw [Int32.toBitVec_shiftLeft]
  show (x.toBitVec <<< ((nI n &&& 31).toBitVec.smod 32).toNat).getLsbD i = _
  rw [s_l n hn, BitVec.getLsbD_shiftLeft]
  rcases Nat.lt_or_ge i n with h | h
  · simp [h, Nat.not_le.mpr h]
  · simp [hi, h, Nat.not_lt.mpr h]
theorem b_sshr (n : Nat) (hn : n < 32) (x : Int32) {i : Nat} (hi : i < 32) : bt (x >>> (nI n &&& 31)) i = if n + i < 32 then bt x (n + i) else bt x 31 := by
  unfold bt
  rw [Int32.toBitVec_shiftRight]
  show (x.toBitVec.sshiftRight ((nI n &&& 31).toBitVec.smod 32).toNat).getLsbD i = _
  rw [s_l n hn, BitVec.getLsbD_sshiftRight, BitVec.msb_eq_getLsbD_last]
  simp [hi]
theorem b_1 : ∀ i, i < 32 → bt 1 i = decide (i = 0) := by decide +kernel
theorem b_bit (x : Int32) {n : Nat} (hn : n < 32) : (x >>> (nI n &&& 31) &&& 1) = 0 ↔ bt x n = false := by
  constructor
  · intro h
    have h1 : bt (x >>> (nI n &&& 31) &&& 1) 0 = false := by rw [h]; exact b_0 0
    rw [b_and, b_sshr n hn x (by omega), b_1 0 (by omega)] at h1
    simpa [hn] using h1
  · intro h
    apply b_ext
    intro i hi
    rw [b_and, b_0, b_sshr n hn x hi, b_1 i hi]
    by_cases h0 : i = 0
    · subst h0
      simp [hn, h]
    · simp [h0]
theorem b_tw {b i : Nat} (hb : b < 32) (hi : i < 32) : bt ((1 : Int32) <<< (nI b &&& 31)) i = decide (i = b) := by
  rw [b_shl b hb 1 hi]
  by_cases h : b ≤ i
  · rw [b_1 (i - b) (by omega)]
    by_cases h2 : i = b
    · simp [h2]
    · simp [h, h2]; omega
  · simp [h]; omega
/-! the class's round: a document's row is added where the document is there -/
def e_st (rf : Nat → Nat → Bool) (f : Nat → Bool) (d : Nat) : Nat → Bool := fun b => f b || (f d && rf d b)
def e_sw (rf : Nat → Nat → Bool) (f : Nat → Bool) : Nat → Nat → Bool
  | 0 => f
  | n + 1 => e_st rf (e_sw rf f n) n
theorem e_sw_step {rf : Nat → Nat → Bool} {f : Nat → Bool} {n a : Nat} (h : e_sw rf f n a = true) : e_sw rf f (n + 1) a = true := by
  show (e_sw rf f n a || _) = true
  rw [h]
  rfl
theorem e_sw_mono {rf : Nat → Nat → Bool} {f : Nat → Bool} {n a : Nat} (h : e_sw rf f n a = true) : ∀ d, e_sw rf f (n + d) a = true
  | 0 => h
  | d + 1 => e_sw_step (e_sw_mono h d)
theorem e_sw_in {rf : Nat → Nat → Bool} {f S : Nat → Bool} (hS : ∀ a, a < 8 → f a = true → S a = true) (hc : cl_ok rf S) : ∀ n, n ≤ 8 → ∀ a, a < 8 → e_sw rf f n a = true → S a = true
  | 0, _, a, ha, h => hS a ha h
  | n + 1, hn, a, ha, h => by
    have ih := e_sw_in hS hc n (by omega)
    change (e_sw rf f n a || (e_sw rf f n n && rf n a)) = true at h
    rw [Bool.or_eq_true, Bool.and_eq_true] at h
    rcases h with h | ⟨h, h2⟩
    · exact ih a ha h
    · exact hc n a (by omega) ha (ih n (by omega) h) h2
theorem e_rd_ok (rf : Nat → Nat → Bool) : cl_rd rf (fun g => e_sw rf g 8) := by
  intro f
  refine ⟨fun a _ h => by have := e_sw_mono (rf := rf) (f := f) (n := 0) (a := a) h 8; rwa [Nat.zero_add] at this, fun S hS hc a ha h => e_sw_in hS hc 8 (Nat.le_refl _) a ha h, fun he a b ha hb h1 h2 => ?_⟩
  have he : ∀ a, a < 8 → e_sw rf f 8 a = f a := he
  have h3 : e_sw rf f a a = true := by
    have := e_sw_mono (rf := rf) (f := f) (n := 0) (a := a) h1 a
    rwa [Nat.zero_add] at this
  have h4 : e_sw rf f (a + 1) b = true := by
    show (e_sw rf f a b || (e_sw rf f a a && rf a b)) = true
    rw [h3, h2]
    simp
  have h5 := e_sw_mono h4 (8 - (a + 1))
  rw [show a + 1 + (8 - (a + 1)) = 8 by omega, he b hb] at h5
  exact h5
def c_st (r : Nat → Int32) (x : Int32) (d : Nat) : Int32 := if bt x d = true then x ||| r d else x
def c_sw (r : Nat → Int32) (x : Int32) : Nat → Int32
  | 0 => x
  | n + 1 => c_st r (c_sw r x n) n
def c_rd (r : Nat → Int32) (x : Int32) : Nat → Int32
  | 0 => x
  | n + 1 => c_sw r (c_rd r x n) 8
theorem c_sw_bt (r : Nat → Int32) (x : Int32) : ∀ n, (fun b => bt (c_sw r x n) b) = e_sw (fun a b => bt (r a) b) (fun b => bt x b) n
  | 0 => rfl
  | n + 1 => by
    have ih := c_sw_bt r x n
    funext b
    show bt (c_st r (c_sw r x n) n) b = e_st _ (e_sw _ _ n) n b
    rw [← ih]
    unfold c_st e_st
    by_cases h : bt (c_sw r x n) n = true
    · rw [if_pos h, b_or]; simp [h]
    · rw [if_neg h]
      simp [h]
theorem c_rd_bt (r : Nat → Int32) (x : Int32) : ∀ n, (fun b => bt (c_rd r x n) b) = cl_it (fun g => e_sw (fun a b => bt (r a) b) g 8) (fun b => bt x b) n
  | 0 => rfl
  | n + 1 => by
    show (fun b => bt (c_sw r (c_rd r x n) 8) b) = e_sw _ (cl_it _ _ n) 8
    rw [c_sw_bt, c_rd_bt r x n]
/-! ways: the rounds by a concept -/
def w_by (w : Nat → Nat → Bool) (t : Nat) : Nat → Nat → Bool := fun i j => w i j || (w i t && w t j)
def w_all (w : Nat → Nat → Bool) : Nat → Nat → Nat → Bool
  | 0 => w
  | n + 1 => w_by (w_all w n) n
theorem w_all_col {w : Nat → Nat → Bool} {m : Nat} (h : ∀ i t, m ≤ t → w i t = false) : ∀ n i t, m ≤ t → w_all w n i t = false
  | 0, i, t, ht => h i t ht
  | n + 1, i, t, ht => by
    show (w_all w n i t || (w_all w n i n && w_all w n n t)) = false
    rw [w_all_col h n i t ht, w_all_col h n n t ht]
    simp
theorem w_all_more {w : Nat → Nat → Bool} {m : Nat} (h : ∀ i t, m ≤ t → w i t = false) : ∀ d, w_all w (m + d) = w_all w m
  | 0 => rfl
  | d + 1 => by
    show w_by (w_all w (m + d)) (m + d) = _
    rw [← w_all_more h d]
    funext i j
    show (w_all w (m + d) i j || (w_all w (m + d) i (m + d) && w_all w (m + d) (m + d) j)) = _
    rw [w_all_col h (m + d) i (m + d) (by omega)]
    simp
theorem w_all_row {w : Nat → Nat → Bool} {m : Nat} (h : ∀ i t, m ≤ i → w i t = false) : ∀ n i t, m ≤ i → w_all w n i t = false
  | 0, i, t, ht => h i t ht
  | n + 1, i, t, ht => by
    show (w_all w n i t || (w_all w n i n && w_all w n n t)) = false
    rw [w_all_row h n i t ht, w_all_row h n i n ht]
    simp
/-! the nearest multiple: the class's way and the reference's -/
def r_fd (x u : Int64) : Int64 := if (x ^^^ u) < 0 ∧ ¬ x / u * u = x then x / u - 1 else x / u
def r_c (x u : Int64) : Int64 := if u ≤ 0 then x else if u < 2 * (x - r_fd x u * u) ∨ (2 * (x - r_fd x u * u) = u ∧ ¬ (r_fd x u &&& 1) = 0) then (r_fd x u + 1) * u else r_fd x u * u
def r_q (x u : Int64) : Int64 := if x - x / u * u < 0 then x / u - 1 else x / u
def r_m (x u : Int64) : Int64 := if u < 2 * (x - r_q x u * u) ∨ (2 * (x - r_q x u * u) = u ∧ ¬ r_q x u - r_q x u / 2 * 2 = 0) then (r_q x u + 1) * u else r_q x u * u
theorem r_bm {z : Int} (h1 : -2 ^ 63 ≤ z) (h2 : z < 2 ^ 63) : z.bmod (2 ^ 64) = z := Int.bmod_eq_of_le (by omega) (by omega)
theorem r_div {x u : Int64} (hu : 0 < u) : (x / u).toInt = x.toInt.tdiv u.toInt := by
  have hu' : 0 < u.toInt := Int64.lt_iff_toInt_lt.mp hu
  have a1 := Int64.le_toInt x
  have a2 := Int64.toInt_lt x
  rw [Int64.toInt_div]
  apply r_bm
  · rcases Int.le_total 0 x.toInt with h | h
    · have := Int.tdiv_nonneg h (Int.le_of_lt hu'); omega
    · have h3 : (-x.toInt).tdiv u.toInt ≤ -x.toInt := by
        rw [Int.tdiv_eq_ediv_of_nonneg (by omega)]
        exact Int.ediv_le_self _ (by omega)
      rw [Int.neg_tdiv] at h3
      omega
  · rcases Int.le_total 0 x.toInt with h | h
    · have h3 : x.toInt.tdiv u.toInt ≤ x.toInt := by
        rw [Int.tdiv_eq_ediv_of_nonneg h]
        exact Int.ediv_le_self _ h
      omega
    · have h3 : 0 ≤ (-x.toInt).tdiv u.toInt := Int.tdiv_nonneg (by omega) (Int.le_of_lt hu')
      rw [Int.neg_tdiv] at h3
      omega
theorem r_tm (x : Int) {u : Int} (hu : 0 < u) : (0 ≤ x → 0 ≤ x.tmod u) ∧ (x ≤ 0 → x.tmod u ≤ 0) ∧ -u < x.tmod u ∧ x.tmod u < u := by
  refine ⟨fun h => Int.tmod_nonneg u h, fun h => ?_, Int.lt_tmod_of_pos x hu, Int.tmod_lt_of_pos x hu⟩
  have h1 := Int.tmod_nonneg u (a := -x) (by omega)
  rw [Int.neg_tmod] at h1
  omega
theorem r_mul {x u : Int64} (hu : 0 < u) : (x / u * u).toInt = x.toInt - x.toInt.tmod u.toInt := by
  have hu' : 0 < u.toInt := Int64.lt_iff_toInt_lt.mp hu
  have a1 := Int64.le_toInt x
  have a2 := Int64.toInt_lt x
  obtain ⟨t1, t2, t3, t4⟩ := r_tm x.toInt hu'
  have e : x.toInt.tdiv u.toInt * u.toInt = x.toInt - x.toInt.tmod u.toInt := by
    have := Int.tdiv_mul_add_tmod x.toInt u.toInt
    omega
  rw [Int64.toInt_mul, r_div hu, e]
  apply r_bm
  · rcases Int.le_total 0 x.toInt with h | h
    · have := t1 h
      have h5 : x.toInt.tmod u.toInt ≤ x.toInt := by
        have h6 : 0 ≤ x.toInt.tdiv u.toInt * u.toInt := Int.mul_nonneg (Int.tdiv_nonneg h (Int.le_of_lt hu')) (Int.le_of_lt hu')
        omega
      omega
    · have := t2 h; omega
  · rcases Int.le_total 0 x.toInt with h | h
    · have := t1 h; omega
    · have h6 : 0 ≤ (-x.toInt).tdiv u.toInt * u.toInt := Int.mul_nonneg (Int.tdiv_nonneg (by omega) (Int.le_of_lt hu')) (Int.le_of_lt hu')
      rw [Int.neg_tdiv, Int.neg_mul, e] at h6
      omega
theorem r_rem {x u : Int64} (hu : 0 < u) : (x - x / u * u).toInt = x.toInt.tmod u.toInt := by
  have hu' : 0 < u.toInt := Int64.lt_iff_toInt_lt.mp hu
  have b2 := Int64.toInt_lt u
  obtain ⟨t1, t2, t3, t4⟩ := r_tm x.toInt hu'
  rw [Int64.toInt_sub, r_mul hu, show x.toInt - (x.toInt - x.toInt.tmod u.toInt) = x.toInt.tmod u.toInt by omega]
  apply r_bm <;> omega
theorem r_sgn {x u : Int64} (hu : 0 < u) : (x ^^^ u) < 0 ↔ x < 0 := by
  have hu' : 0 < u.toInt := Int64.lt_iff_toInt_lt.mp hu
  have key : ∀ z : Int64, z < 0 ↔ z.toBitVec.msb = true := by
    intro z
    rw [Int64.lt_iff_toInt_lt, BitVec.msb_eq_toInt]
    show z.toInt < 0 ↔ decide (z.toBitVec.toInt < 0) = true
    rw [decide_eq_true_iff]
    rfl
  have h1 : u.toBitVec.msb = false := by
    cases h : u.toBitVec.msb with
    | false => rfl
    | true => have h2 := (key u).mpr h; rw [Int64.lt_iff_toInt_lt] at h2; exact absurd hu' (by have h3 : u.toInt < 0 := h2; omega)
  rw [key, key, Int64.toBitVec_xor, BitVec.msb_xor, h1]
  simp
theorem r_fq {x u : Int64} (hu : 0 < u) : r_fd x u = r_q x u := by
  have hu' : 0 < u.toInt := Int64.lt_iff_toInt_lt.mp hu
  obtain ⟨t1, t2, t3, t4⟩ := r_tm x.toInt hu'
  have e : ((x ^^^ u) < 0 ∧ ¬ x / u * u = x) ↔ x - x / u * u < 0 := by
    rw [r_sgn hu, Int64.lt_iff_toInt_lt, Int64.lt_iff_toInt_lt, r_rem hu, ← Int64.toInt_inj, r_mul hu]
    show x.toInt < 0 ∧ _ ↔ x.toInt.tmod u.toInt < 0
    constructor
    · rintro ⟨h1, h2⟩
      have := t2 (by omega)
      omega
    · intro h
      refine ⟨?_, by omega⟩
      rcases Int.lt_or_le x.toInt 0 with h3 | h3
      · exact h3
      · have := t1 h3; omega
  unfold r_fd r_q
  by_cases h : x - x / u * u < 0
  · rw [if_pos h, if_pos (e.mpr h)]
  · rw [if_neg h, if_neg (fun q => h (e.mp q))]
theorem r_odd (q : Int64) : (q &&& 1) = 0 ↔ q - q / 2 * 2 = 0 := by
  have h2 : (0 : Int64) < 2 := by decide
  have e1 : q - q / 2 * 2 = 0 ↔ q.toInt.tmod 2 = 0 := by
    rw [← Int64.toInt_inj, r_rem h2]
    rfl
  have e2 : (q &&& 1) = 0 ↔ q.toBitVec.toNat % 2 = 0 := by
    rw [← Int64.toBitVec_inj, Int64.toBitVec_and]
    constructor
    · intro h
      have h3 := congrArg BitVec.toNat h
      rw [BitVec.toNat_and] at h3
      have h4 : q.toBitVec.toNat &&& 1 = 0 := h3
      rwa [Nat.and_one_is_mod] at h4
    · intro h
      apply BitVec.eq_of_toNat_eq
      rw [BitVec.toNat_and]
      show q.toBitVec.toNat &&& 1 = 0
      rw [Nat.and_one_is_mod]
      exact h
  rw [e1, e2]
  have h5 : q.toInt = if 2 * q.toBitVec.toNat < 2 ^ 64 then (q.toBitVec.toNat : Int) else (q.toBitVec.toNat : Int) - (2 ^ 64 : Nat) := BitVec.toInt_eq_toNat_cond q.toBitVec
  constructor
  · intro h
    have h6 : (2 : Int) ∣ q.toInt := by
      rw [h5]
      split <;> omega
    exact Int.tmod_eq_zero_of_dvd h6
  · intro h
    have h6 : (2 : Int) ∣ q.toInt := Int.dvd_of_tmod_eq_zero h
    rw [h5] at h6
    split at h6 <;> omega
theorem r_cm {x u : Int64} (hu : 0 < u) : r_c x u = r_m x u := by
  have hn : ¬ u ≤ 0 := by
    rw [Int64.le_iff_toInt_le]
    have hu' : (0 : Int64).toInt < u.toInt := Int64.lt_iff_toInt_lt.mp hu
    omega
  unfold r_c r_m
  rw [if_neg hn, r_fq hu]
  by_cases h : u < 2 * (x - r_q x u * u) ∨ (2 * (x - r_q x u * u) = u ∧ ¬ r_q x u - r_q x u / 2 * 2 = 0)
  · rw [if_pos h, if_pos]
    rcases h with h | ⟨h, h1⟩
    · exact Or.inl h
    · exact Or.inr ⟨h, fun q => h1 ((r_odd _).mp q)⟩
  · rw [if_neg h, if_neg]
    rintro (h1 | ⟨h1, h2⟩)
    · exact h (Or.inl h1)
    · exact h (Or.inr ⟨h1, fun q => h2 ((r_odd _).mpr q)⟩)
