/-! the law's loop -/
section LO
variable {p : Program} {l : Launch} {e : Env} {R : Room} {s : State} {m : MethodId} {args : Array Value} {below : List Frame} {meth : Method} {c : Code} {Q : State → Prop} {k n : Nat}
variable {D : va_G} {ty : Nat → ClassId} {tt : Nat} {A : Nat → Prop} {a b : Nat → Nat} {bb ll i : Nat} {xs : Nat → Int32}
theorem lt6 {i ll : Nat} (hi : i ≤ 3072) (hl : ll ≤ 3072) : nI ll - 6 < nI i ↔ ll < i + 6 := by
  rw [Int32.lt_iff_toInt_lt, Int32.toInt_sub, nI_toInt (by omega), nI_toInt (by omega), show (6 : Int32).toInt = 6 from rfl, Int.bmod_eq_of_le (by omega) (by omega)]
  omega
set_option maxRecDepth 100000 in
set_option maxHeartbeats 1000000 in
theorem w_head (K : gK p s m args c c_Law_law 4 "FactBinderLaw" D ty tt A) (S : lwS bb ll xs s A) (hR : 9 ≤ R.frames ∧ 400 ≤ R.locals) (hC : 10000 ≤ R.cells ∧ 100000 ≤ R.slots) (hi : i ≤ ll) (nxt : i + 6 ≤ ll → LC p l e R s m args below meth c D A Q ty a b (60 + (i + 6)) (2000 + 8 * (i + 6)) (lwL bb a b (i + 6)) 18) (ex : ∀ (k n : Nat) (ws : va_W) (i : Nat), k ≤ 10000 → n ≤ 100000 → gG p l e R s m args below meth c 4 D A Q k n ws (lwL bb a b i) [] 798) : LC p l e R s m args below meth c D A Q ty a b (60 + i) (2000 + 8 * i) (lwL bb a b i) 18 := by
  intro B N E J ph V rd r en re O z tx X Y fc sl pt tot hv P h
  have hl := S.2.2.2
  refine gx_iload_n K d_Law_law_18 rfl rfl ?_
  refine gx_aload_n K d_Law_law_19 rfl rfl ?_
  refine gx_slen K S d_Law_law_20 ?_
  refine gx_bipush (v := 6) K d_Law_law_21 rfl ?_
  refine gx_isub K d_Law_law_23 ?_
  refine gx_icmp_gt K d_Law_law_24 rfl (fun q => ?_) (fun q => ?_)
  · exact ex _ _ _ _ (by omega) (by omega)
  · have h6 : i + 6 ≤ ll := Nat.not_lt.mp (fun t => q ((lt6 (by omega) hl).mpr t))
    have nx : LC p l e R s m args below meth c D A Q ty a b (60 + i + 1) (2000 + 8 * i + 8) (lwL bb a b i) 792 := by
      intro B N E J ph V rd r en re O z tx X Y fc sl pt tot hv P h
      refine gx_iinc (v := nI (i + 6)) K d_Law_law_792 rfl (nI_add _ _) (gle rfl) rfl ?_
      refine gx_goto K d_Law_law_795 rfl ?_
      refine gx_L (L1 := lwL bb a b (i + 6)) rfl ?_
      refine gx_wide (k1 := 60 + (i + 6)) (n1 := 2000 + 8 * (i + 6)) (by omega) (by omega) ?_
      exact nxt h6 _ _ _ _ _ _ _ _ _ _ _ _ _ _ _ _ _ _ _ _ _ h
    have hC1 : 60 + i + 1 ≤ R.cells ∧ 2000 + 8 * i + 8 ≤ R.slots := ⟨by have := hC.1; omega, by have := hC.2; omega⟩
    refine gx_aload_n K d_Law_law_27 rfl rfl ?_
    refine gx_iload_n K d_Law_law_28 rfl rfl ?_
    refine gx_sld K S (j := i) rfl (by omega) d_Law_law_29 ?_
    refine gx_bipush (v := 31) K d_Law_law_30 rfl ?_
    refine gx_iand K d_Law_law_32 ?_
    obtain ⟨j, hj, ej⟩ := and31 (xs i)
    rw [ej]
    by_cases h19 : 19 ≤ j
    · refine gx_swo K d_Law_law_33 (Or.inr (by rw [nI_toInt (by omega)]; omega)) (tgt := 792) rfl ?_
      refine gx_wide (k1 := 60 + i + 1) (n1 := 2000 + 8 * i + 8) (by omega) (by omega) ?_
      exact nx _ _ _ _ _ _ _ _ _ _ _ _ _ _ _ _ _ _ _ _ _ h
    · have hj2 : j < 19 := by omega
      clear h19 hj ej
      match j, hj2 with
      | 0, _ => exact gx_swi K d_Law_law_33 (off := 91) (tgt := 124) (by decide) (by decide) rfl rfl (w_refer K S h6 hR hC1 nx h)
      | 1, _ => exact gx_swi K d_Law_law_33 (off := 124) (tgt := 157) (by decide) (by decide) rfl rfl (w_enter K S h6 hR hC1 nx h)
      | 2, _ => exact gx_swi K d_Law_law_33 (off := 147) (tgt := 180) (by decide) (by decide) rfl rfl (w_concept K S h6 hR hC1 nx h)
      | 3, _ => exact gx_swi K d_Law_law_33 (off := 200) (tgt := 233) (by decide) (by decide) rfl rfl (w_setting K S h6 hR hC1 nx h)
      | 4, _ => exact gx_swi K d_Law_law_33 (off := 259) (tgt := 292) (by decide) (by decide) rfl rfl (w_arc K S h6 hR hC1 nx h)
      | 5, _ => exact gx_swi K d_Law_law_33 (off := 322) (tgt := 355) (by decide) (by decide) rfl rfl (w_context K S h6 hR hC1 nx h)
      | 6, _ => exact gx_swi K d_Law_law_33 (off := 375) (tgt := 408) (by decide) (by decide) rfl rfl (w_unit K S h6 hR hC1 nx h)
      | 7, _ => exact gx_swi K d_Law_law_33 (off := 418) (tgt := 451) (by decide) (by decide) rfl rfl (w_write K S h6 hR hC1 nx h)
      | 8, _ => exact gx_swi K d_Law_law_33 (off := 443) (tgt := 476) (by decide) (by decide) rfl rfl (w_fact K S h6 hR hC1 nx h)
      | 9, _ => exact gx_swi K d_Law_law_33 (off := 506) (tgt := 539) (by decide) (by decide) rfl rfl (w_discovered K S h6 hR hC1 nx h)
      | 10, _ => exact gx_swi K d_Law_law_33 (off := 529) (tgt := 562) (by decide) (by decide) rfl rfl (w_left K S h6 hR hC1 nx h)
      | 11, _ => exact gx_swi K d_Law_law_33 (off := 552) (tgt := 585) (by decide) (by decide) rfl rfl (w_sameContext K S h6 hR hC1 nx h)
      | 12, _ => exact gx_swi K d_Law_law_33 (off := 585) (tgt := 618) (by decide) (by decide) rfl rfl (w_sameUnit K S h6 hR hC1 nx h)
      | 13, _ => exact gx_swi K d_Law_law_33 (off := 618) (tgt := 651) (by decide) (by decide) rfl rfl (w_value K S h6 hR hC1 nx h)
      | 14, _ => exact gx_swi K d_Law_law_33 (off := 642) (tgt := 675) (by decide) (by decide) rfl rfl (w_places K S h6 hR hC1 nx h)
      | 15, _ => exact gx_swi K d_Law_law_33 (off := 665) (tgt := 698) (by decide) (by decide) rfl rfl (w_rounded K S h6 hR hC1 nx h)
      | 16, _ => exact gx_swi K d_Law_law_33 (off := 689) (tgt := 722) (by decide) (by decide) rfl rfl (w_sum K S h6 hR hC1 nx h)
      | 17, _ => exact gx_swi K d_Law_law_33 (off := 723) (tgt := 756) (by decide) (by decide) rfl rfl (w_problems K S h6 hR hC1 nx h)
      | 18, _ => exact gx_swi K d_Law_law_33 (off := 736) (tgt := 769) (by decide) (by decide) rfl rfl (w_problem K S h6 hR hC1 nx h)
      | j + 19, q => exact absurd q (by omega)
theorem w_loop (K : gK p s m args c c_Law_law 4 "FactBinderLaw" D ty tt A) (S : lwS bb ll xs s A) (hR : 9 ≤ R.frames ∧ 400 ≤ R.locals) (hC : 10000 ≤ R.cells ∧ 100000 ≤ R.slots) (ex : ∀ (k n : Nat) (ws : va_W) (i : Nat), k ≤ 10000 → n ≤ 100000 → gG p l e R s m args below meth c 4 D A Q k n ws (lwL bb a b i) [] 798) : ∀ (f i : Nat), i ≤ ll → ll ≤ i + 6 * f → LC p l e R s m args below meth c D A Q ty a b (60 + i) (2000 + 8 * i) (lwL bb a b i) 18
  | 0, i, hi, hf => w_head K S hR hC hi (fun q => absurd q (by omega)) ex
  | f + 1, i, hi, hf => w_head K S hR hC hi (fun q => w_loop K S hR hC ex f (i + 6) q (by omega)) ex
end LO
