/-! pure words: loops over numbers -/
def allB (P : Nat → Bool) : Nat → Bool
  | 0 => true
  | n + 1 => allB P n && P n
def anyB (P : Nat → Bool) : Nat → Bool
  | 0 => false
  | n + 1 => anyB P n || P n
def sumN (f : Nat → Int64) : Nat → Int64
  | 0 => 0
  | n + 1 => sumN f n + f n
def lstN (f : Nat → List Int32) : Nat → List Int32
  | 0 => []
  | n + 1 => lstN f n ++ f n
theorem allB_iff {P : Nat → Bool} : ∀ {n : Nat}, allB P n = true ↔ ∀ i, i < n → P i = true
  | 0 => ⟨fun _ i h => absurd h (Nat.not_lt_zero i), fun _ => rfl⟩
  | n + 1 => by
    simp only [allB, Bool.and_eq_true, allB_iff (n := n)]
    constructor
    · intro h i hi
      rcases Nat.lt_succ_iff_lt_or_eq.mp hi with h1 | rfl
      · exact h.1 i h1
      · exact h.2
    · intro h
      exact ⟨fun i hi => h i (Nat.lt_succ_of_lt hi), h n (Nat.lt_succ_self n)⟩
theorem anyB_iff {P : Nat → Bool} : ∀ {n : Nat}, anyB P n = true ↔ ∃ i, i < n ∧ P i = true
  | 0 => ⟨fun h => (by cases h), fun ⟨i, h, _⟩ => absurd h (Nat.not_lt_zero i)⟩
  | n + 1 => by
    simp only [anyB, Bool.or_eq_true, anyB_iff (n := n)]
    constructor
    · rintro (⟨i, h1, h2⟩ | h)
      · exact ⟨i, Nat.lt_succ_of_lt h1, h2⟩
      · exact ⟨n, Nat.lt_succ_self n, h⟩
    · rintro ⟨i, h1, h2⟩
      rcases Nat.lt_succ_iff_lt_or_eq.mp h1 with h3 | rfl
      · exact Or.inl ⟨i, h3, h2⟩
      · exact Or.inr h2
theorem allB_congr {P P' : Nat → Bool} {n : Nat} (h : ∀ i, i < n → P i = P' i) : allB P n = allB P' n := by
  induction n with
  | zero => rfl
  | succ n ih => simp only [allB]; rw [ih (fun i hi => h i (Nat.lt_succ_of_lt hi)), h n (Nat.lt_succ_self n)]
theorem anyB_congr {P P' : Nat → Bool} {n : Nat} (h : ∀ i, i < n → P i = P' i) : anyB P n = anyB P' n := by
  induction n with
  | zero => rfl
  | succ n ih => simp only [anyB]; rw [ih (fun i hi => h i (Nat.lt_succ_of_lt hi)), h n (Nat.lt_succ_self n)]
theorem sumN_congr {f f' : Nat → Int64} {n : Nat} (h : ∀ i, i < n → f i = f' i) : sumN f n = sumN f' n := by
  induction n with
  | zero => rfl
  | succ n ih => simp only [sumN]; rw [ih (fun i hi => h i (Nat.lt_succ_of_lt hi)), h n (Nat.lt_succ_self n)]
theorem lstN_congr {f f' : Nat → List Int32} {n : Nat} (h : ∀ i, i < n → f i = f' i) : lstN f n = lstN f' n := by
  induction n with
  | zero => rfl
  | succ n ih => simp only [lstN]; rw [ih (fun i hi => h i (Nat.lt_succ_of_lt hi)), h n (Nat.lt_succ_self n)]
theorem lstN_len {f : Nat → List Int32} {n k : Nat} (h : ∀ i, i < n → (f i).length ≤ k) : (lstN f n).length ≤ k * n := by
  induction n with
  | zero => exact Nat.le_refl _
  | succ n ih =>
    simp only [lstN, List.length_append]
    have h1 := ih (fun i hi => h i (Nat.lt_succ_of_lt hi))
    have h2 := h n (Nat.lt_succ_self n)
    rw [Nat.mul_succ]
    omega
theorem sumN_zero {f : Nat → Int64} {n : Nat} (h : ∀ i, i < n → f i = 0) : sumN f n = 0 := by
  induction n with
  | zero => rfl
  | succ n ih => simp only [sumN]; rw [ih (fun i hi => h i (Nat.lt_succ_of_lt hi)), h n (Nat.lt_succ_self n)]; rfl
theorem sumN_plus {f g : Nat → Int64} : ∀ n : Nat, sumN (fun i => f i + g i) n = sumN f n + sumN g n
  | 0 => rfl
  | n + 1 => by
    simp only [sumN, sumN_plus n]
    rw [Int64.add_assoc, Int64.add_assoc, ← Int64.add_assoc (sumN g n), Int64.add_comm (sumN g n) (f n), Int64.add_assoc]
theorem sumN_swap {f : Nat → Nat → Int64} {m : Nat} : ∀ n : Nat, sumN (fun i => sumN (fun j => f i j) m) n = sumN (fun j => sumN (fun i => f i j) n) m
  | 0 => (sumN_zero (fun _ _ => rfl)).symm
  | n + 1 => by
    simp only [sumN]
    rw [sumN_swap n, ← sumN_plus]
theorem sumN_more {f : Nat → Int64} {n : Nat} : ∀ d : Nat, (∀ i, n ≤ i → i < n + d → f i = 0) → sumN f (n + d) = sumN f n
  | 0, _ => rfl
  | d + 1, h => by
    show sumN f (n + d) + f (n + d) = _
    rw [h (n + d) (Nat.le_add_right _ _) (by omega), sumN_more d (fun i h1 h2 => h i h1 (by omega))]
    exact Int64.add_zero _
theorem sumN_app {f : Nat → Int64} {n : Nat} : ∀ d : Nat, sumN f (n + d) = sumN f n + sumN (fun i => f (n + i)) d
  | 0 => (Int64.add_zero _).symm
  | d + 1 => by
    show sumN f (n + d) + f (n + d) = _
    rw [sumN_app d]
    simp only [sumN]
    rw [Int64.add_assoc]
/-- a run over pairs, the second place inside -/
theorem sumN_pairs {f : Nat → Nat → Int64} {w : Nat} (hw : 0 < w) : ∀ n : Nat, sumN (fun k => f (k / w) (k % w)) (w * n) = sumN (fun i => sumN (fun j => f i j) w) n
  | 0 => rfl
  | n + 1 => by
    rw [Nat.mul_succ, sumN_app, sumN_pairs hw n]
    simp only [sumN]
    congr 1
    apply sumN_congr
    intro j hj
    rw [Nat.mul_add_div hw, Nat.mul_add_mod, Nat.div_eq_of_lt hj, Nat.mod_eq_of_lt hj, Nat.add_zero]
theorem anyB_pairs {P : Nat → Nat → Bool} {w : Nat} (hw : 0 < w) (n : Nat) : anyB (fun k => P (k / w) (k % w)) (w * n) = anyB (fun i => anyB (fun j => P i j) w) n := by
  rw [Bool.eq_iff_iff, anyB_iff, anyB_iff]
  constructor
  · rintro ⟨k, hk, h⟩
    exact ⟨k / w, Nat.div_lt_of_lt_mul hk, anyB_iff.mpr ⟨k % w, Nat.mod_lt _ hw, h⟩⟩
  · rintro ⟨i, hi, h⟩
    obtain ⟨j, hj, h⟩ := anyB_iff.mp h
    refine ⟨w * i + j, ?_, ?_⟩
    · calc w * i + j < w * i + w := by omega
        _ = w * (i + 1) := (Nat.mul_succ _ _).symm
        _ ≤ w * n := Nat.mul_le_mul_left _ hi
    · rw [Nat.mul_add_div hw, Nat.mul_add_mod, Nat.div_eq_of_lt hj, Nat.mod_eq_of_lt hj, Nat.add_zero]
      exact h
/-! closure: which documents belong to the report -/
def cl_ok (rf : Nat → Nat → Bool) (f : Nat → Bool) : Prop := ∀ a b, a < 8 → b < 8 → f a = true → rf a b = true → f b = true
/-- the least set that holds en and is closed -/
def cl_in (rf : Nat → Nat → Bool) (en : Nat → Bool) (d : Nat) : Prop := ∀ S : Nat → Bool, (∀ a, a < 8 → en a = true → S a = true) → cl_ok rf S → S d = true
/-- a round: adds, adds no more than must be, and adds something unless nothing is left to add -/
def cl_rd (rf : Nat → Nat → Bool) (T : (Nat → Bool) → Nat → Bool) : Prop := ∀ f : Nat → Bool, (∀ a, a < 8 → f a = true → T f a = true) ∧ (∀ S : Nat → Bool, (∀ a, a < 8 → f a = true → S a = true) → cl_ok rf S → ∀ a, a < 8 → T f a = true → S a = true) ∧ ((∀ a, a < 8 → T f a = f a) → cl_ok rf f)
def cl_it (T : (Nat → Bool) → Nat → Bool) (f : Nat → Bool) : Nat → Nat → Bool
  | 0 => f
  | n + 1 => T (cl_it T f n)
def cl_n (f : Nat → Bool) : Nat → Nat
  | 0 => 0
  | n + 1 => cl_n f n + (if f n = true then 1 else 0)
theorem cl_n_le {f g : Nat → Bool} : ∀ n : Nat, (∀ a, a < n → f a = true → g a = true) → cl_n f n ≤ cl_n g n
  | 0, _ => Nat.le_refl _
  | n + 1, h => by
    have h1 := cl_n_le n (fun a ha => h a (Nat.lt_succ_of_lt ha))
    have h2 := h n (Nat.lt_succ_self n)
    simp only [cl_n]
    by_cases hf : f n = true
    · simp only [hf, h2 hf, if_true]; omega
    · simp only [hf]; simp; omega
theorem cl_n_lt {f g : Nat → Bool} : ∀ n : Nat, (∀ a, a < n → f a = true → g a = true) → ¬ (∀ a, a < n → g a = f a) → cl_n f n < cl_n g n
  | 0, _, h => absurd (fun a ha => absurd ha (Nat.not_lt_zero a)) h
  | n + 1, h, hne => by
    have h1 := cl_n_le n (fun a ha => h a (Nat.lt_succ_of_lt ha))
    have h2 := h n (Nat.lt_succ_self n)
    simp only [cl_n]
    by_cases he : g n = f n
    · have h3 := cl_n_lt n (fun a ha => h a (Nat.lt_succ_of_lt ha)) (fun q => hne (fun a ha => by
        rcases Nat.lt_succ_iff_lt_or_eq.mp ha with h4 | rfl
        · exact q a h4
        · exact he))
      rw [he]
      omega
    · cases hf : f n with
      | true => exact absurd (h2 hf) (fun q => he (by rw [q, hf]))
      | false =>
        cases hg : g n with
        | false => exact absurd (by rw [hf, hg]) he
        | true => simp; omega
theorem cl_n_max (f : Nat → Bool) : ∀ n : Nat, cl_n f n ≤ n
  | 0 => Nat.le_refl _
  | n + 1 => by
    have := cl_n_max f n
    simp only [cl_n]
    split <;> omega
theorem cl_n_full {f : Nat → Bool} : ∀ n : Nat, cl_n f n = n → ∀ a, a < n → f a = true
  | 0, _, a, h => absurd h (Nat.not_lt_zero a)
  | n + 1, h, a, ha => by
    have h1 := cl_n_max f n
    simp only [cl_n] at h
    by_cases hf : f n = true
    · simp only [hf, if_true] at h
      rcases Nat.lt_succ_iff_lt_or_eq.mp ha with h2 | rfl
      · exact cl_n_full n (by omega) a h2
      · exact hf
    · simp [hf] at h
      omega
theorem cl_n_zero {f : Nat → Bool} : ∀ n : Nat, cl_n f n = 0 → ∀ a, a < n → f a = false
  | 0, _, a, h => absurd h (Nat.not_lt_zero a)
  | n + 1, h, a, ha => by
    simp only [cl_n] at h
    by_cases hf : f n = true
    · simp [hf] at h
    · rcases Nat.lt_succ_iff_lt_or_eq.mp ha with h2 | rfl
      · exact cl_n_zero n (by simp [hf] at h; exact h) a h2
      · simpa using hf
theorem cl_it_up {rf : Nat → Nat → Bool} {T : (Nat → Bool) → Nat → Bool} (hT : cl_rd rf T) (f : Nat → Bool) : ∀ n a, a < 8 → f a = true → cl_it T f n a = true
  | 0, _, _, h => h
  | n + 1, a, ha, h => (hT (cl_it T f n)).1 a ha (cl_it_up hT f n a ha h)
theorem cl_it_in {rf : Nat → Nat → Bool} {T : (Nat → Bool) → Nat → Bool} (hT : cl_rd rf T) {f S : Nat → Bool} (hS : ∀ a, a < 8 → f a = true → S a = true) (hc : cl_ok rf S) : ∀ n a, a < 8 → cl_it T f n a = true → S a = true
  | 0, a, ha, h => hS a ha h
  | n + 1, a, ha, h => (hT (cl_it T f n)).2.1 S (fun a ha h => cl_it_in hT hS hc n a ha h) hc a ha h
theorem cl_ok_next {rf : Nat → Nat → Bool} {T : (Nat → Bool) → Nat → Bool} (hT : cl_rd rf T) {f : Nat → Bool} (h : cl_ok rf f) : (∀ a, a < 8 → T f a = f a) := by
  intro a ha
  cases hf : f a with
  | true => exact (hT f).1 a ha hf
  | false =>
    cases ht : T f a with
    | false => rfl
    | true => exact absurd ((hT f).2.1 f (fun _ _ q => q) h a ha ht) (by rw [hf]; exact Bool.false_ne_true)
theorem cl_ok_congr {rf : Nat → Nat → Bool} {f g : Nat → Bool} (e : ∀ a, a < 8 → g a = f a) (h : cl_ok rf f) : cl_ok rf g := fun a b ha hb h1 h2 => by
  rw [e b hb]
  exact h a b ha hb (by rw [← e a ha]; exact h1) h2
theorem cl_it_ok {rf : Nat → Nat → Bool} {T : (Nat → Bool) → Nat → Bool} (hT : cl_rd rf T) (f : Nat → Bool) : ∀ n : Nat, cl_ok rf (cl_it T f n) ∨ (1 ≤ cl_n f 8 ∧ n + 1 ≤ cl_n (cl_it T f n) 8)
  | 0 => by
    by_cases h : cl_n f 8 = 0
    · left
      intro a b ha hb h1 h2
      have := cl_n_zero 8 h a ha
      rw [show cl_it T f 0 a = f a from rfl, this] at h1
      cases h1
    · right
      have h1 : 1 ≤ cl_n f 8 := by omega
      exact ⟨h1, h1⟩
  | n + 1 => by
    rcases cl_it_ok hT f n with h | ⟨h0, h⟩
    · exact Or.inl (cl_ok_congr (cl_ok_next hT h) h)
    · by_cases he : ∀ a, a < 8 → cl_it T f (n + 1) a = cl_it T f n a
      · exact Or.inl (cl_ok_congr he ((hT (cl_it T f n)).2.2 he))
      · right
        have := cl_n_lt 8 ((hT (cl_it T f n)).1) he
        exact ⟨h0, by show n + 1 + 1 ≤ cl_n (T (cl_it T f n)) 8; omega⟩
theorem cl_done {rf : Nat → Nat → Bool} {T : (Nat → Bool) → Nat → Bool} (hT : cl_rd rf T) (f : Nat → Bool) {n : Nat} (hn : 7 ≤ n) : cl_ok rf (cl_it T f n) := by
  rcases cl_it_ok hT f n with h | ⟨-, h⟩
  · exact h
  · have h1 := cl_n_max (cl_it T f n) 8
    intro a b ha hb _ _
    exact cl_n_full 8 (by omega) b hb
/-- so many rounds give the least closed set, from any start between en and it -/
theorem cl_thm {rf : Nat → Nat → Bool} {T : (Nat → Bool) → Nat → Bool} (hT : cl_rd rf T) {en f : Nat → Bool} (h1 : ∀ a, a < 8 → en a = true → f a = true) (h2 : ∀ a, a < 8 → f a = true → cl_in rf en a) {n : Nat} (hn : 7 ≤ n) {d : Nat} (hd : d < 8) : cl_it T f n d = true ↔ cl_in rf en d := by
  constructor
  · intro h S hS hc
    exact cl_it_in hT (fun a ha hf => h2 a ha hf S hS hc) hc n d hd h
  · intro h
    exact h (cl_it T f n) (fun a ha he => cl_it_up hT f n a ha (h1 a ha he)) (cl_done hT f hn)
theorem cl_in_mono {rf rf' : Nat → Nat → Bool} {en en' : Nat → Bool} (h1 : ∀ a b, a < 8 → b < 8 → rf a b = true → rf' a b = true) (h2 : ∀ a, a < 8 → en a = true → en' a = true) {d : Nat} (h : cl_in rf en d) : cl_in rf' en' d :=
  fun S hS hc => h S (fun a ha he => hS a ha (h2 a ha he)) (fun a b ha hb hs hr => hc a b ha hb hs (h1 a b ha hb hr))
theorem cl_in_en {rf : Nat → Nat → Bool} {en : Nat → Bool} {d : Nat} (hd : d < 8) (h : en d = true) : cl_in rf en d := fun _ hS _ => hS d hd h
theorem gup_ne {α : Type} (f : Nat → α) {k j : Nat} (v : α) (h : ¬ j = k) : va_up f k v j = f j := if_neg h
/-! the reference's round: 64 steps -/
def d_st (rf f : Nat → Bool) (k : Nat) : Nat → Bool := va_up f (k % 8) (f (k % 8) || (f (k / 8) && rf k))
def d_sw (rf f : Nat → Bool) : Nat → Nat → Bool
  | 0 => f
  | n + 1 => d_st rf (d_sw rf f n) n
def d_rd (rf f : Nat → Bool) (n : Nat) : Nat → Bool := cl_it (fun g => d_sw rf g 64) f n
theorem d_sw_up {rf f : Nat → Bool} : ∀ n a, f a = true → d_sw rf f n a = true
  | 0, _, h => h
  | n + 1, a, h => by
    have h1 := d_sw_up (rf := rf) n a h
    show d_st rf (d_sw rf f n) n a = true
    unfold d_st
    by_cases e : a = n % 8
    · rw [e, va_up_self, ← e, h1]; rfl
    · rw [gup_ne _ _ e]; exact h1
theorem d_sw_in {rf f S : Nat → Bool} (hS : ∀ a, a < 8 → f a = true → S a = true) (hc : cl_ok (fun a b => rf (8 * a + b)) S) : ∀ n, n ≤ 64 → ∀ a, a < 8 → d_sw rf f n a = true → S a = true
  | 0, _, a, ha, h => hS a ha h
  | n + 1, hn, a, ha, h => by
    have ih := d_sw_in hS hc n (by omega)
    change d_st rf (d_sw rf f n) n a = true at h
    unfold d_st at h
    by_cases e : a = n % 8
    · rw [e, va_up_self, Bool.or_eq_true, Bool.and_eq_true] at h
      rcases h with h | ⟨h, h2⟩
      · rw [e]; exact ih _ (by omega) h
      · refine hc (n / 8) a (by omega) ha (ih _ (by omega) h) ?_
        show rf (8 * (n / 8) + a) = true
        rw [e, Nat.div_add_mod]
        exact h2
    · rw [gup_ne _ _ e] at h
      exact ih a ha h
theorem d_sw_fix {rf f : Nat → Bool} : ∀ n, n ≤ 64 → (∀ a, a < 8 → d_sw rf f n a = f a) ∨ ∃ a, a < 8 ∧ f a = false ∧ d_sw rf f n a = true
  | 0, _ => Or.inl (fun _ _ => rfl)
  | n + 1, hn => by
    rcases d_sw_fix (rf := rf) (f := f) n (by omega) with h | ⟨a, ha, h1, h2⟩
    · by_cases h3 : f (n % 8) = false ∧ d_sw rf f (n + 1) (n % 8) = true
      · exact Or.inr ⟨n % 8, by omega, h3.1, h3.2⟩
      · left
        intro a ha
        by_cases e : a = n % 8
        · subst e
          cases hf : f (n % 8) with
          | true => exact d_sw_up (n + 1) _ hf
          | false =>
            cases ht : d_sw rf f (n + 1) (n % 8) with
            | false => rfl
            | true => exact absurd ⟨hf, ht⟩ h3
        · show d_st rf (d_sw rf f n) n a = f a
          unfold d_st
          rw [gup_ne _ _ e]
          exact h a ha
    · refine Or.inr ⟨a, ha, h1, ?_⟩
      show d_st rf (d_sw rf f n) n a = true
      unfold d_st
      by_cases e : a = n % 8
      · rw [e, va_up_self, ← e, h2]; rfl
      · rw [gup_ne _ _ e]; exact h2
theorem d_rd_ok (rf : Nat → Bool) : cl_rd (fun a b => rf (8 * a + b)) (fun g => d_sw rf g 64) := by
  intro f
  refine ⟨fun a _ h => d_sw_up 64 a h, fun S hS hc a ha h => d_sw_in hS hc 64 (Nat.le_refl _) a ha h, fun he a b ha hb h1 h2 => ?_⟩
  have he : ∀ a, a < 8 → d_sw rf f 64 a = f a := he
  have h2 : rf (8 * a + b) = true := h2
  have key : ∀ n, n ≤ 64 → ∀ x, x < 8 → d_sw rf f n x = f x := by
    intro n hn
    rcases d_sw_fix (rf := rf) (f := f) n hn with h | ⟨x, hx, h3, h4⟩
    · exact h
    · exfalso
      have mono : ∀ d, n + d ≤ 64 → d_sw rf f (n + d) x = true := by
        intro d
        induction d with
        | zero => intro _; exact h4
        | succ d ih =>
          intro hd
          show d_st rf (d_sw rf f (n + d)) (n + d) x = true
          have h5 := ih (by omega)
          unfold d_st
          by_cases e : x = (n + d) % 8
          · rw [e, va_up_self, ← e, h5]; rfl
          · rw [gup_ne _ _ e]; exact h5
      have h6 := mono (64 - n) (by omega)
      rw [show n + (64 - n) = 64 by omega, he x hx, h3] at h6
      cases h6
  have h7 := key (8 * a + b + 1) (by omega) b hb
  change d_st rf (d_sw rf f (8 * a + b)) (8 * a + b) b = f b at h7
  unfold d_st at h7
  rw [show (8 * a + b) % 8 = b by omega, show (8 * a + b) / 8 = a by omega, va_up_self, key (8 * a + b) (by omega) a ha, h1, h2] at h7
  rw [← h7]
  simp
