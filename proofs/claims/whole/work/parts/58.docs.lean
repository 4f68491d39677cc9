/-! the documents: class and reference hold the same closure -/
def rlD (B : Nat → Nat → Bool) (r : Nat → Int32) (en re : Int32) : Prop := (∀ a b, a < 8 → b < 8 → bt (r a) b = B 0 (8 * a + b)) ∧ (∀ d, d < 8 → bt en d = B 1 d) ∧ ∀ d, d < 8 → (bt re d = true ↔ cl_in (fun a b => bt (r a) b) (fun b => bt en b) d)
theorem found_iff (B : Nat → Nat → Bool) {d : Nat} (hd : d < 8) : d_fo B d = true ↔ cl_in (fun a b => B 0 (8 * a + b)) (B 1) d := by
  rw [d_fo_eq]
  unfold d_fi d_rd
  refine cl_thm (d_rd_ok (B 0)) (fun a ha h => ?_) (fun a ha h => ?_) (by omega) hd
  · rw [d_cp_at _ _ 8 a ha]; exact h
  · rw [d_cp_at _ _ 8 a ha] at h; exact cl_in_en ha h
theorem rlD_cl {B : Nat → Nat → Bool} {r : Nat → Int32} {en re : Int32} (h : rlD B r en re) {d : Nat} (hd : d < 8) : bt re d = d_fo B d := by
  rw [Bool.eq_iff_iff, h.2.2 d hd, found_iff B hd]
  constructor
  · exact fun q => cl_in_mono (fun a b ha hb e => by rw [← h.1 a b ha hb]; exact e) (fun a ha e => by rw [← h.2.1 a ha]; exact e) q
  · exact fun q => cl_in_mono (fun a b ha hb e => by rw [h.1 a b ha hb]; exact e) (fun a ha e => by show bt en a = true; rw [h.2.1 a ha]; exact e) q
theorem doc_step {r : Nat → Int32} {en re0 : Int32} (h1 : ∀ a, a < 8 → bt en a = true → bt re0 a = true) (h2 : ∀ a, a < 8 → bt re0 a = true → cl_in (fun a b => bt (r a) b) (fun b => bt en b) a) {d : Nat} (hd : d < 8) : bt (c_rd r re0 7) d = true ↔ cl_in (fun a b => bt (r a) b) (fun b => bt en b) d := by
  have e := congrFun (c_rd_bt r re0 7) d
  rw [show bt (c_rd r re0 7) d = _ from e]
  exact cl_thm (e_rd_ok (fun a b => bt (r a) b)) (en := fun b => bt en b) (f := fun b => bt re0 b) h1 h2 (by omega) hd
theorem bt_tw {x : Int32} (hx : rg x 8) {i : Nat} (hi : i < 8) : bt ((1 : Int32) <<< (x &&& 31)) i = decide (i = ix x) := by
  rw [hx.1, ix_nI (by have := hx.2; omega)]
  exact b_tw (by have := hx.2; omega) (by omega)
theorem rlD_refer {B : Nat → Nat → Bool} {r : Nat → Int32} {en re : Int32} (h : rlD B r en re) {x y : Int32} (hx : rg x 8) (hy : rg y 8) : rlD (va_up B 0 (va_up (B 0) (8 * ix x + ix y) true)) (upd r (ix x) (r (ix x) ||| ((1 : Int32) <<< (y &&& 31)))) en (c_rd (upd r (ix x) (r (ix x) ||| ((1 : Int32) <<< (y &&& 31)))) re 7) := by
  have hx2 := hx.2
  have hy2 := hy.2
  have hup : ∀ a b, a < 8 → b < 8 → bt (r a) b = true → bt (upd r (ix x) (r (ix x) ||| ((1 : Int32) <<< (y &&& 31))) a) b = true := fun a b ha hb e => by
    by_cases e1 : a = ix x
    · rw [e1, pk_us, b_or, ← e1, e]; rfl
    · rw [pk_un e1]; exact e
  refine ⟨fun a b ha hb => ?_, fun d hd => h.2.1 d hd, fun d hd => doc_step (fun a ha e => ?_) (fun a ha e => ?_) hd⟩
  · show _ = va_up (B 0) (8 * ix x + ix y) true (8 * a + b)
    by_cases e1 : a = ix x
    · rw [e1, pk_us, b_or, bt_tw hy hb, h.1 _ _ hx2 hb]
      by_cases e2 : b = ix y
      · rw [e2, va_up_self]; simp
      · rw [va_up_ne _ _ (by omega)]; simp [e2]
    · rw [pk_un e1, va_up_ne _ _ (by omega), h.1 a b ha hb]
  · exact (h.2.2 a ha).mpr (cl_in_en ha e)
  · exact cl_in_mono hup (fun _ _ q => q) ((h.2.2 a ha).mp e)
theorem rlD_enter {B : Nat → Nat → Bool} {r : Nat → Int32} {en re : Int32} (h : rlD B r en re) {x : Int32} (hx : rg x 8) : rlD (va_up B 1 (va_up (B 1) (ix x) true)) r (en ||| ((1 : Int32) <<< (x &&& 31))) (c_rd r (re ||| ((1 : Int32) <<< (x &&& 31))) 7) := by
  have hx2 := hx.2
  have hor : ∀ (u : Int32) (a : Nat), a < 8 → (bt (u ||| ((1 : Int32) <<< (x &&& 31))) a = true ↔ bt u a = true ∨ a = ix x) := fun u a ha => by
    rw [b_or, bt_tw hx ha, Bool.or_eq_true, decide_eq_true_eq]
  refine ⟨fun a b ha hb => h.1 a b ha hb, fun d hd => ?_, fun d hd => doc_step (fun a ha e => ?_) (fun a ha e => ?_) hd⟩
  · show _ = va_up (B 1) (ix x) true d
    rw [b_or, bt_tw hx hd, h.2.1 d hd]
    by_cases e : d = ix x
    · rw [e, va_up_self]; simp
    · rw [va_up_ne _ _ e]; simp [e]
  · rcases (hor en a ha).mp e with q | q
    · exact (hor re a ha).mpr (Or.inl ((h.2.2 a ha).mpr (cl_in_en ha q)))
    · exact (hor re a ha).mpr (Or.inr q)
  · rcases (hor re a ha).mp e with q | q
    · exact cl_in_mono (fun _ _ _ _ q => q) (fun a ha q => (hor en a ha).mpr (Or.inl q)) ((h.2.2 a ha).mp q)
    · exact cl_in_en ha ((hor en a ha).mpr (Or.inr q))
theorem rlD_0 : rlD (fun _ _ => false) (fun _ => 0) 0 0 := by
  refine ⟨fun a b _ _ => b_0 b, fun d _ => b_0 d, fun d hd => ?_⟩
  rw [b_0]
  constructor
  · intro q; exact absurd q (by decide)
  · intro q
    have := q (fun _ => false) (fun a _ e => (b_0 a).symm.trans e) (fun a b _ _ e _ => e)
    exact this
/-! the k-th problem -/
theorem paR_at {x : Int32} {j : Nat} (hx : x = nI j) (hj : j < 2 ^ 31) : ∀ l : List Int32, l.length < 2 ^ 31 → paR x l = if j < l.length then (l.reverse[j]?).getD 0 else -1
  | [], _ => rfl
  | y :: l, hl => by
    have hl2 : l.length + 1 < 2 ^ 31 := hl
    have ih := paR_at hx hj l (by omega)
    show (if nI l.length = x then y else paR x l) = _
    rw [List.reverse_cons, List.length_cons]
    by_cases e : l.length = j
    · rw [if_pos (by rw [hx, e]), if_pos (by omega), List.getElem?_append_right (by rw [List.length_reverse]; omega), List.length_reverse, e, Nat.sub_self]
      rfl
    · rw [if_neg (fun q => e ((nI_eq (by omega) hj).mp (q.trans hx))), ih]
      by_cases h2 : j < l.length
      · rw [if_pos h2, if_pos (by omega), List.getElem?_append_left (by rw [List.length_reverse]; exact h2)]
      · rw [if_neg h2, if_neg (by omega)]
theorem prob_eq {x : Int32} {ps : List Int32} (hp : ps.length ≤ 180) : (if m_in x 0 (nI ps.length - 1) = true then (ps[ix x]?).getD 0 else -1) = (if 0 ≤ x then pa x ps else -1) := by
  by_cases h0 : 0 ≤ x
  · rw [if_pos h0]
    have hb := Int32.toInt_lt x
    have h1 := Int32.le_iff_toInt_le.mp h0
    have e0 : (0 : Int32).toInt = 0 := rfl
    have e : x = nI (ix x) := (rg_of (n := 2 ^ 31 - 1) h0 |> fun f => by
      by_cases q : x < nI (2 ^ 31 - 1)
      · exact (f q (by omega)).1
      · have q2 := Int32.le_iff_toInt_le.mp (Int32.not_lt.mp q)
        rw [nI_toInt (by omega)] at q2
        have : x = nI (2 ^ 31 - 1) := Int32.toInt_inj.mp (by rw [nI_toInt (by omega)]; omega)
        rw [this, ix_nI (by omega)])
    have hj : ix x < 2 ^ 31 := by unfold ix; rw [← Int32.toNat_toInt]; omega
    unfold pa
    rw [paR_at e hj ps.reverse (by rw [List.length_reverse]; omega), List.length_reverse, List.reverse_reverse]
    by_cases h : ix x < ps.length
    · rw [if_pos h, if_pos]
      have := inNt (c := ix x) (n := ps.length) h (by omega)
      rwa [← e] at this
    · rw [if_neg h, if_neg]
      intro q
      exact h (in_rgN q (by omega)).2
  · rw [if_neg h0, if_neg]
    intro q
    unfold m_in at q
    rw [Bool.and_eq_true, decide_eq_true_eq] at q
    exact h0 q.1
