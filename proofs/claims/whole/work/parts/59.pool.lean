/-! two worlds side by side; a pool that grows -/
section SW
variable {p : Program} {l : Launch} {e : Env} {R : Room} {s : State} {m : MethodId} {args : Array Value} {below : List Frame} {meth : Method} {c : Code} {Q : State → Prop} {k n : Nat}
variable {nL : Nat} {D : va_G} {A : Nat → Prop} {L : List (Option Value)} {st : List Value} {pc : Nat}
theorem gy_swap (U M : va_W) (h : gG p l e R s m args below meth c nL D A Q k n (M ++ U) L st pc) : gG p l e R s m args below meth c nL D A Q k n (U ++ M) L st pc := by
  refine gx_perm (fun i => if i < M.length then U.length + i else i - M.length) id (fun i q hq => ?_) (fun i j hi hj hf => ?_) h
  · by_cases h1 : i < M.length
    · rw [List.getElem?_append_left h1] at hq
      simp only [h1, if_true]
      rw [List.getElem?_append_right (by omega), show U.length + i - U.length = i by omega]
      exact hq
    · rw [List.getElem?_append_right (by omega)] at hq
      simp only [h1, if_false]
      rw [List.getElem?_append_left (List.getElem?_eq_some_iff.mp hq).1]
      exact hq
  · rw [List.length_append] at hi hj
    try dsimp only at hf
    split at hf <;> split at hf <;> omega
theorem gy_swap3 (U M : va_W) (x : Nat × va_E) (h : gG p l e R s m args below meth c nL D A Q k n (M ++ (U ++ [x])) L st pc) : gG p l e R s m args below meth c nL D A Q k n ((U ++ M) ++ [x]) L st pc := by
  refine gx_perm (fun i => if i < M.length then U.length + i else if i < M.length + U.length then i - M.length else i) id (fun i q hq => ?_) (fun i j hi hj hf => ?_) h
  · by_cases h1 : i < M.length
    · rw [List.getElem?_append_left h1] at hq
      simp only [h1, if_true]
      rw [List.append_assoc, List.getElem?_append_right (by omega), show U.length + i - U.length = i by omega, List.getElem?_append_left h1]
      exact hq
    · rw [List.getElem?_append_right (by omega)] at hq
      simp only [h1, if_false]
      by_cases h2 : i < M.length + U.length
      · simp only [h2, if_true]
        rw [List.getElem?_append_left (by omega)] at hq
        rw [List.append_assoc, List.getElem?_append_left (by omega)]
        exact hq
      · simp only [h2, if_false]
        have h3 := (List.getElem?_eq_some_iff.mp hq).1
        rw [List.length_append] at h3
        simp only [List.length_cons, List.length_nil] at h3
        have e1 : i - M.length = U.length := by omega
        have e2 : i = (U ++ M).length := by rw [List.length_append]; omega
        rw [e1, pe_at] at hq
        rw [e2, pe_at]
        exact hq
  · rw [List.length_append, List.length_append] at hi hj
    simp only [List.length_cons, List.length_nil] at hi hj
    try dsimp only at hf
    split at hf <;> split at hf <;> (try split at hf) <;> (try split at hf) <;> omega
end SW
theorem ge_app {α : Type} {l m : List α} {k : Nat} {x : α} (h : l[k]? = some x) : (l ++ m)[k]? = some x := by
  rw [List.getElem?_append_left (List.getElem?_eq_some_iff.mp h).1]
  exact h
section PE
variable {B : Nat → Nat → Bool} {N : Nat → Nat} {E : Nat → Nat → Int32} {V : Nat → Int64} {O : Nat → Nat → Option Nat} {P : va_W} {re : Int32}
theorem pUn_ext {u : Value} {x : Int32} (M : va_W) (h : pUn E P u x) : pUn E (P ++ M) u x := by
  rcases h with h | ⟨y, l, h1, h2, h3⟩
  · exact Or.inl h
  · exact Or.inr ⟨y, l, h1, h2, ge_app h3⟩
theorem pCon_ext {n : Nat} (M : va_W) (h : pCon O E P n) : pCon O E (P ++ M) n := fun c hc => by
  obtain ⟨q, k, h1, h2⟩ := h c hc
  exact ⟨q, k, h1, ge_app h2⟩
theorem pArc_ext {n : Nat} (M : va_W) (h : pArc O B E P n) : pArc O B E (P ++ M) n := fun c hc => by
  obtain ⟨q, k, z, j, h1, h2, h3⟩ := h c hc
  exact ⟨q, k, z, j, h1, ge_app h2, ge_app h3⟩
theorem pCtx_ext {n : Nat} (M : va_W) (h : pCtx O E P n) : pCtx O E (P ++ M) n := fun c hc => by
  obtain ⟨q, k, h1, h2⟩ := h c hc
  exact ⟨q, k, h1, ge_app h2⟩
theorem pUni_ext {n : Nat} (M : va_W) (h : pUni O E P n) : pUni O E (P ++ M) n := fun c hc => by
  obtain ⟨q, k, h1, h2⟩ := h c hc
  exact ⟨q, k, h1, ge_app h2⟩
theorem pFac_ext {n : Nat} (M : va_W) (h : pFac O E V P n) : pFac O E V (P ++ M) n := fun c hc => by
  obtain ⟨q, k, x, i, u, h1, h2, h3, h4⟩ := h c hc
  exact ⟨q, k, x, i, u, h1, ge_app h2, ge_app h3, pUn_ext M h4⟩
theorem cI_ext (M : va_W) (h : cI B N E V O P re) : cI B N E V O (P ++ M) re := by
  obtain ⟨pC, pA, pX, pU, pF, r⟩ := h
  exact ⟨pCon_ext M pC, pArc_ext M pA, pCtx_ext M pX, pUni_ext M pU, pFac_ext M pF, r⟩
end PE
