/-! what the tables give at the law's entry -/
section RD
variable {s : State} {args : Array Value}
set_option maxRecDepth 100000 in
theorem w_cls (hB : ∀ w ∈ gB, w.before args s = true) : ∃ D : va_G, ∀ (c : Nat) (q : vw_C), vwCl[c]? = some q → u_Kn s q.1 q.2.1 q.2.2 (D.1 c) (D.2 c) := by
  have h : ∀ c : Nat, ∃ x : ClassId × (Nat → Nat), ∀ q : vw_C, vwCl[c]? = some q → u_Kn s q.1 q.2.1 q.2.2 x.1 x.2 := by
    intro c
    match c with
    | 0 =>
      obtain ⟨cC, iS, hk⟩ := u_known hB in_FB (hB _ k16)
      exact ⟨(cC, iS), fun q hq => by cases hq; exact hk⟩
    | 1 =>
      obtain ⟨cC, iS, hk⟩ := u_known hB in_Tax (hB _ k24)
      exact ⟨(cC, iS), fun q hq => by cases hq; exact hk⟩
    | 2 =>
      obtain ⟨cC, iS, hk⟩ := u_known hB in_Doc (hB _ k30)
      exact ⟨(cC, iS), fun q hq => by cases hq; exact hk⟩
    | 3 =>
      obtain ⟨cC, iS, hk⟩ := u_known hB in_Rep (hB _ k98)
      exact ⟨(cC, iS), fun q hq => by cases hq; exact hk⟩
    | 4 =>
      obtain ⟨cC, iS, hk⟩ := u_known hB in_Num (hB _ k110)
      exact ⟨(cC, iS), fun q hq => by cases hq; exact hk⟩
    | 5 =>
      obtain ⟨cC, iS, hk⟩ := u_known hB in_Rev (hB _ k153)
      exact ⟨(cC, iS), fun q hq => by cases hq; exact hk⟩
    | 6 =>
      obtain ⟨cC, iS, hk⟩ := u_known hB in_Con (hB _ k254)
      exact ⟨(cC, iS), fun q hq => by cases hq; exact hk⟩
    | 7 =>
      obtain ⟨cC, iS, hk⟩ := u_known hB in_Set (hB _ k51)
      exact ⟨(cC, iS), fun q hq => by cases hq; exact hk⟩
    | 8 =>
      obtain ⟨cC, iS, hk⟩ := u_known hB in_Arc (hB _ k297)
      exact ⟨(cC, iS), fun q hq => by cases hq; exact hk⟩
    | 9 =>
      obtain ⟨cC, iS, hk⟩ := u_known hB in_Ctx (hB _ k345)
      exact ⟨(cC, iS), fun q hq => by cases hq; exact hk⟩
    | 10 =>
      obtain ⟨cC, iS, hk⟩ := u_known hB in_Uni (hB _ k371)
      exact ⟨(cC, iS), fun q hq => by cases hq; exact hk⟩
    | 11 =>
      obtain ⟨cC, iS, hk⟩ := u_known hB in_Fac (hB _ k440)
      exact ⟨(cC, iS), fun q hq => by cases hq; exact hk⟩
    | 12 =>
      obtain ⟨cC, iS, hk⟩ := u_known hB in_Mod (hB _ k691)
      exact ⟨(cC, iS), fun q hq => by cases hq; exact hk⟩
    | c + 13 => exact ⟨(0, fun _ => 0), fun q hq => by rw [List.getElem?_eq_none (show vwCl.length ≤ c + 13 from Nat.le_add_left _ _)] at hq; cases hq⟩
  exact ⟨(fun c => (Classical.choose (h c)).1, fun c => (Classical.choose (h c)).2), fun c q hq => Classical.choose_spec (h c) q hq⟩
theorem w_prim {t : FieldType} (hp : ∀ C, t ≠ .object C) (h : (Cond.arrayClass t).before args s = true) : ∃ cA : ClassId, ArrOfT s cA t ∧ va_RA s cA t := by
  obtain ⟨cA, kA, comp, h1, h2, h3⟩ := Cond.arrayClass_spec h
  refine ⟨cA, fun n z => ⟨fun k h => (by cases h), kA, h2, comp, h3⟩, ?_⟩
  cases t <;> first | exact h1 | exact absurd rfl (hp _)
theorem w_obj {C : String} (h : (Cond.arrayOver (.object C)).before args s = true) : ∃ cA : ClassId, ArrOfT s cA (.object C) ∧ va_RA s cA (.object C) := by
  obtain ⟨comp, cA, k, f1, -, f3, f4, f5⟩ := Cond.arrayOver_spec h
  exact ⟨cA, fun n z => ⟨fun k h => (by cases h), k, f3, comp, f4⟩, k, comp, f3, f4, f1, f5⟩
theorem w_ao (h : ∀ w ∈ lw_tbl, w.before args s = true) : gAO s := ⟨h (Cond.arrayOver (.object gO4)) (List.mem_append_right _ (gT1 47 rfl)), h (Cond.arrayOver (.object gO5)) (List.mem_append_right _ (gT1 49 rfl)), h (Cond.arrayOver (.object gO6)) (List.mem_append_right _ (gT1 104 rfl)), h (Cond.arrayOver (.object gO7)) (List.mem_append_right _ (gT1 106 rfl)), h (Cond.arrayOver (.object gO8)) (List.mem_append_right _ (gT1 108 rfl))⟩
theorem w_ty (h : ∀ w ∈ lw_tbl, w.before args s = true) (hB : ∀ w ∈ gB, w.before args s = true) : ∃ ty : Nat → ClassId, ∀ (k : Nat) (q : ClassId × FieldType), (gTy ty)[k]? = some q → ArrOfT s q.1 q.2 ∧ va_RA s q.1 q.2 := by
  obtain ⟨t0, h0⟩ := w_prim (t := .int) (fun C q => by cases q) (hB _ k45)
  obtain ⟨t1, h1⟩ := w_prim (t := .long) (fun C q => by cases q) (hB _ k826)
  obtain ⟨t2, h2⟩ := w_prim (t := .boolean) (fun C q => by cases q) (hB _ k203)
  obtain ⟨t3, h3⟩ := w_prim (t := .char) (fun C q => by cases q) (hB _ k123)
  obtain ⟨t4, h4⟩ := w_obj (C := gO4) (h (Cond.arrayOver (.object gO4)) (List.mem_append_right _ (gT1 47 rfl)))
  obtain ⟨t5, h5⟩ := w_obj (C := gO5) (h (Cond.arrayOver (.object gO5)) (List.mem_append_right _ (gT1 49 rfl)))
  obtain ⟨t6, h6⟩ := w_obj (C := gO6) (h (Cond.arrayOver (.object gO6)) (List.mem_append_right _ (gT1 104 rfl)))
  obtain ⟨t7, h7⟩ := w_obj (C := gO7) (h (Cond.arrayOver (.object gO7)) (List.mem_append_right _ (gT1 106 rfl)))
  obtain ⟨t8, h8⟩ := w_obj (C := gO8) (h (Cond.arrayOver (.object gO8)) (List.mem_append_right _ (gT1 108 rfl)))
  refine ⟨fun j => if j = 0 then t0 else if j = 1 then t1 else if j = 2 then t2 else if j = 3 then t3 else if j = 4 then t4 else if j = 5 then t5 else if j = 6 then t6 else if j = 7 then t7 else t8, fun k q hq => ?_⟩
  match k with
  | 0 => cases hq; exact h0
  | 1 => cases hq; exact h1
  | 2 => cases hq; exact h2
  | 3 => cases hq; exact h3
  | 4 => cases hq; exact h4
  | 5 => cases hq; exact h5
  | 6 => cases hq; exact h6
  | 7 => cases hq; exact h7
  | 8 => cases hq; exact h8
  | k + 9 => rw [List.getElem?_eq_none (show 9 ≤ k + 9 from Nat.le_add_left _ _)] at hq; cases hq
theorem w_nw (h : ∀ w ∈ lw_tbl, w.before args s = true) : gNw s := fun w hw => va_tabs (A' := #[]) (by have := gN_is w hw; cases w <;> first | rfl | cases this) rfl (h w (List.mem_append_right _ (List.mem_filter.mp hw).1))
set_option maxRecDepth 100000 in
theorem w_tens (h : ∀ w ∈ lw_tbl, w.before args s = true) (hB : ∀ w ∈ gB, w.before args s = true) (hg : (Cond.and given_1 narrow_1).before args s = true) : ∃ tt : Nat, va_Z gFB "TENS" "[J" (.ref tt) (fun q => s.heap.size ≤ q) s s.heap ∧ va_T .long tt 17 gTens (fun q => s.heap.size ≤ q) s s.heap := by
  have hs := flat_of_before _ hg
  have hA : ∀ a : Nat, a < s.heap.size → ¬ s.heap.size ≤ a := fun a q => Nat.not_le.mpr q
  have hel : ∀ j : Nat, j < 17 → (Term.elem (.static "FactBinder" "TENS" "[J") (.int (Int32.ofNat j))).eval args s none [] s = some (gTens j) := by
    intro j hj
    match j, hj with
    | 0, _ => exact va_eqv (hs (Cond.eq (.elem (.static "FactBinder" "TENS" "[J") (.int 0)) (.long 1)) (by decide +kernel)) rfl
    | 1, _ => exact va_eqv (hs (Cond.eq (.elem (.static "FactBinder" "TENS" "[J") (.int 1)) (.long 10)) (by decide +kernel)) rfl
    | 2, _ => exact va_eqv (hs (Cond.eq (.elem (.static "FactBinder" "TENS" "[J") (.int 2)) (.long 100)) (by decide +kernel)) rfl
    | 3, _ => exact va_eqv (hs (Cond.eq (.elem (.static "FactBinder" "TENS" "[J") (.int 3)) (.long 1000)) (by decide +kernel)) rfl
    | 4, _ => exact va_eqv (hs (Cond.eq (.elem (.static "FactBinder" "TENS" "[J") (.int 4)) (.long 10000)) (by decide +kernel)) rfl
    | 5, _ => exact va_eqv (hs (Cond.eq (.elem (.static "FactBinder" "TENS" "[J") (.int 5)) (.long 100000)) (by decide +kernel)) rfl
    | 6, _ => exact va_eqv (hs (Cond.eq (.elem (.static "FactBinder" "TENS" "[J") (.int 6)) (.long 1000000)) (by decide +kernel)) rfl
    | 7, _ => exact va_eqv (hs (Cond.eq (.elem (.static "FactBinder" "TENS" "[J") (.int 7)) (.long 10000000)) (by decide +kernel)) rfl
    | 8, _ => exact va_eqv (hs (Cond.eq (.elem (.static "FactBinder" "TENS" "[J") (.int 8)) (.long 100000000)) (by decide +kernel)) rfl
    | 9, _ => exact va_eqv (hs (Cond.eq (.elem (.static "FactBinder" "TENS" "[J") (.int 9)) (.long 1000000000)) (by decide +kernel)) rfl
    | 10, _ => exact va_eqv (hs (Cond.eq (.elem (.static "FactBinder" "TENS" "[J") (.int 10)) (.long 10000000000)) (by decide +kernel)) rfl
    | 11, _ => exact va_eqv (hs (Cond.eq (.elem (.static "FactBinder" "TENS" "[J") (.int 11)) (.long 100000000000)) (by decide +kernel)) rfl
    | 12, _ => exact va_eqv (hs (Cond.eq (.elem (.static "FactBinder" "TENS" "[J") (.int 12)) (.long 1000000000000)) (by decide +kernel)) rfl
    | 13, _ => exact va_eqv (hs (Cond.eq (.elem (.static "FactBinder" "TENS" "[J") (.int 13)) (.long 10000000000000)) (by decide +kernel)) rfl
    | 14, _ => exact va_eqv (hs (Cond.eq (.elem (.static "FactBinder" "TENS" "[J") (.int 14)) (.long 100000000000000)) (by decide +kernel)) rfl
    | 15, _ => exact va_eqv (hs (Cond.eq (.elem (.static "FactBinder" "TENS" "[J") (.int 15)) (.long 1000000000000000)) (by decide +kernel)) rfl
    | 16, _ => exact va_eqv (hs (Cond.eq (.elem (.static "FactBinder" "TENS" "[J") (.int 16)) (.long 10000000000000000)) (by decide +kernel)) rfl
    | j + 17, q => exact absurd q (by omega)
  obtain ⟨t, ht, hT⟩ := va_Tof (N := 17) (f := gTens) (tm := (.static "FactBinder" "TENS" "[J")) (ty := .long) (A := fun q => s.heap.size ≤ q) (by decide) (hs (Cond.arrayOf (.static "FactBinder" "TENS" "[J") .long) (by decide +kernel)) (va_eqv (hs (Cond.eq (.length (.static "FactBinder" "TENS" "[J")) (.int 17)) (by decide +kernel)) rfl) hel hA
  exact ⟨t, va_Zref (h (Cond.laysStatic "FactBinder" "TENS" "[J") (List.mem_append_right _ (gT2 199 rfl))) (hB _ k1) ht hA, hT⟩
end RD
