section NN
variable {x : Int32} {t : NS}
theorem n_A (h1 : s_dig x = true) (h2 : t.2.2.2 = true) : n_step x t = (10 * t.1 + x.toInt64 - 48, (if t.2.2.1 < 0 then t.2.1 + 1 else t.2.1), (if t.2.2.1 < 0 then t.2.2.1 else t.2.2.1 + 1), t.2.2.2 && (decide ((if t.2.2.1 < 0 then t.2.1 + 1 else t.2.1) ≤ 9) && decide ((if t.2.2.1 < 0 then t.2.2.1 else t.2.2.1 + 1) ≤ 6))) := by
  unfold n_step n_mid
  rw [if_pos (by rw [h1, h2]; rfl)]
theorem n_B (h : (s_dig x && t.2.2.2) = false) (h1 : x = 46) (h2 : t.2.2.1 < 0) : n_step x t = (t.1, t.2.1, 0, t.2.2.2 && (decide (t.2.1 ≤ 9) && decide ((0 : Int32) ≤ 6))) := by
  unfold n_step n_mid
  rw [if_neg (by rw [h]; decide), if_pos ⟨h1, h2⟩]
theorem n_C (h : (s_dig x && t.2.2.2) = false) (h1 : ¬ (x = 46 ∧ t.2.2.1 < 0)) : n_step x t = (t.1, t.2.1, t.2.2.1, false && (decide (t.2.1 ≤ 9) && decide (t.2.2.1 ≤ 6))) := by
  unfold n_step n_mid
  rw [if_neg (by rw [h]; decide), if_neg h1]
end NN
theorem n_bound0 (w : Nat → Int32) (p : Nat) : ∀ n, (n_scan w p n).2.2.1 = -1 ∨ ∃ q : Nat, q ≤ 7 ∧ (n_scan w p n).2.2.1 = nI q ∧ ((n_scan w p n).2.2.2 = true → q ≤ 6)
  | 0 => Or.inl rfl
  | n + 1 => by
    have ih := n_bound0 w p n
    show (n_step (w (p + n)) (n_scan w p n)).2.2.1 = -1 ∨ ∃ q : Nat, q ≤ 7 ∧ (n_step (w (p + n)) (n_scan w p n)).2.2.1 = nI q ∧ ((n_step (w (p + n)) (n_scan w p n)).2.2.2 = true → q ≤ 6)
    generalize n_scan w p n = t at ih
    generalize w (p + n) = x
    cases h : (s_dig x && t.2.2.2) with
    | true =>
      rw [Bool.and_eq_true] at h
      rw [n_A h.1 h.2]
      rcases ih with e | ⟨q, hq, e, h6⟩
      · left
        show (if t.2.2.1 < 0 then t.2.2.1 else t.2.2.1 + 1) = -1
        rw [e]; rfl
      · right
        have hq6 := h6 h.2
        have e2 : (if t.2.2.1 < 0 then t.2.2.1 else t.2.2.1 + 1) = nI (q + 1) := by
          rw [e, if_neg (nI_pos (by omega)), nI_succ]
        refine ⟨q + 1, by omega, e2, fun hg => ?_⟩
        change (t.2.2.2 && (decide ((if t.2.2.1 < 0 then t.2.1 + 1 else t.2.1) ≤ 9) && decide ((if t.2.2.1 < 0 then t.2.2.1 else t.2.2.1 + 1) ≤ 6))) = true at hg
        rw [Bool.and_eq_true, Bool.and_eq_true, e2, decide_eq_true_eq, decide_eq_true_eq, show (6 : Int32) = nI 6 from rfl, nI_leI (by omega) (by omega)] at hg
        exact hg.2.2
    | false =>
      by_cases h1 : x = 46 ∧ t.2.2.1 < 0
      · rw [n_B h h1.1 h1.2]
        exact Or.inr ⟨0, by omega, rfl, fun _ => by omega⟩
      · rw [n_C h h1]
        rcases ih with e | ⟨q, hq, e, h6⟩
        · exact Or.inl e
        · exact Or.inr ⟨q, hq, e, fun hg => absurd hg (by simp)⟩
theorem n_bound (w : Nat → Int32) (p n : Nat) : ∃ q : Nat, q ≤ 7 ∧ n_many (n_scan w p n) = nI q := by
  unfold n_many
  rcases n_bound0 w p n with e | ⟨q, hq, e, _⟩
  · exact ⟨0, by omega, by rw [e]; rfl⟩
  · exact ⟨q, hq, by rw [e, if_neg (nI_pos (by omega))]⟩
theorem n_val_eq {w : Nat → Int32} {z mm : Nat} (h : n_many (n_scan w (n_p w z) (z - n_p w z)) = nI mm) (hm : mm ≤ 7) : n_val w z = if n_p w z = 1 ∧ w 0 = 45 then -(if (n_scan w (n_p w z) (z - n_p w z)).2.2.2 = true then n_mul (n_scan w (n_p w z) (z - n_p w z)).1 (6 - mm) else (n_scan w (n_p w z) (z - n_p w z)).1) else (if (n_scan w (n_p w z) (z - n_p w z)).2.2.2 = true then n_mul (n_scan w (n_p w z) (z - n_p w z)).1 (6 - mm) else (n_scan w (n_p w z) (z - n_p w z)).1) := by
  unfold n_val n_end
  rw [h, ix_nI (by omega)]
theorem n_ok_eq {w : Nat → Int32} {z mm : Nat} (h : n_many (n_scan w (n_p w z) (z - n_p w z)) = nI mm) : n_ok w z = ((n_scan w (n_p w z) (z - n_p w z)).2.2.2 && decide (0 < (n_scan w (n_p w z) (z - n_p w z)).2.1 + nI mm)) := by
  unfold n_ok n_end
  rw [h]
set_option maxRecDepth 100000 in
set_option maxHeartbeats 1000000 in
theorem z_Mod_isNumber {l : Launch} {D : va_G} {ty : Nat → ClassId} {tt : Nat} {b : Nat → Nat} {B : Nat → Nat → Bool} {N : Nat → Nat} {E : Nat → Nat → Int32} {J : Nat → Int32} {ph : Bool} {V : Nat → Int64} {rd : Int64} {rest : va_W} (I : mI E) (hN : mN N)  : Cd l y_Mod_isNumber c_Mod_isNumber 9 (some .boolean) 0 D ty tt [.ref (b 0)] (mdW b ty B N E J ph V rd rest) (some (.int (b2i (n_ok (E 18) (N 4))))) (mdW b ty B N E J ph V (n_val (E 18) (N 4)) rest) := by
  obtain ⟨n0, n1, n2, n3, n4, n5⟩ := id hN
  refine Ct_of (by decide) (gle rfl) (fun p e s m args below meth c K hr hlk hin => ?_)
  refine gx_cutI (X := nI (n_p (E 18) (N 4))) 34 ?_ (fun j34 => ?_)
  · skip
    refine gx_istore_n K d_Mod_isNumber_34 rfl (gle rfl) rfl ?_
    refine gx_iconst (v := 0) K d_Mod_isNumber_35 rfl ?_
    refine gx_istore_n K d_Mod_isNumber_36 rfl (gle rfl) rfl ?_
    refine gx_iconst (v := -1) K d_Mod_isNumber_37 rfl ?_
    refine gx_istore_n K d_Mod_isNumber_38 rfl (gle rfl) rfl ?_
    refine gx_lconst (v := 0) K d_Mod_isNumber_39 rfl ?_
    refine gx_lstore K d_Mod_isNumber_40 (gle rfl) rfl ?_
    refine gx_iconst (v := b2i true) K d_Mod_isNumber_42 rfl ?_
    refine gx_istore K d_Mod_isNumber_43 (gle rfl) rfl ?_
    refine gx_iload_n K d_Mod_isNumber_45 rfl rfl ?_
    refine gx_istore K d_Mod_isNumber_46 (gle rfl) rfl ?_
    have hp := n_p_le (E 18) (N 4)
    refine gx_loop [true, true, true, true, true, false, true, true, false] ((N 4 - n_p (E 18) (N 4))) (fun i => (mdW b ty B N E J ph V rd rest)) (fun i => [some (.ref (b 0)), some (.int (nI (n_p (E 18) (N 4)))), some (.int (n_scan (E 18) (n_p (E 18) (N 4)) i).2.1), some (.int (n_scan (E 18) (n_p (E 18) (N 4)) i).2.2.1), some (.long (n_scan (E 18) (n_p (E 18) (N 4)) i).1), none, some (.int (b2i (n_scan (E 18) (n_p (E 18) (N 4)) i).2.2.2)), some (.int (nI (n_p (E 18) (N 4) + i))), none]) rfl rfl (fun i hi ihi => ?_) ?_
    · skip
      refine gx_iload K d_Mod_isNumber_48 rfl ?_
      refine gx_aload_n K d_Mod_isNumber_50 rfl rfl ?_
      refine gx_get K f_Mod_152 (q0 := 0) rfl rfl d_Mod_isNumber_51 ?_
      refine gx_icmp_geF K d_Mod_isNumber_54 rfl (nI_ge (a := n_p (E 18) (N 4) + i) (b := N 4) (by omega) (by omega)) ?_
      refine gx_cut (X := s_dig (E 18 (n_p (E 18) (N 4) + i))) 86 ?_ (fun j86 => ?_)
      · skip
        refine gx_istore K d_Mod_isNumber_86 (gle rfl) rfl ?_
        refine gx_iload K d_Mod_isNumber_88 rfl ?_
        refine gx_if_eqB K d_Mod_isNumber_90 rfl (fun h90 => ?_) (fun h90 => ?_)
        · skip
          refine gx_aload_n K d_Mod_isNumber_146 rfl rfl ?_
          refine gx_get K f_Mod_77 (q0 := 0) rfl rfl d_Mod_isNumber_147 ?_
          refine gx_iload K d_Mod_isNumber_150 rfl ?_
          refine gx_iald K (q0 := 23) rfl rfl (by omega) (by decide) d_Mod_isNumber_152 ?_
          refine gx_bipush (v := 46) K d_Mod_isNumber_153 rfl ?_
          refine gx_icmp_ne K d_Mod_isNumber_155 rfl (fun h155 => ?_) (fun h155 => ?_)
          · skip
            refine gx_iconst (v := b2i false) K d_Mod_isNumber_167 rfl ?_
            refine gx_istore K d_Mod_isNumber_168 (gle rfl) rfl ?_
            refine gx_cut (X := false && (decide ((n_scan (E 18) (n_p (E 18) (N 4)) i).2.1 ≤ 9) && decide ((n_scan (E 18) (n_p (E 18) (N 4)) i).2.2.1 ≤ 6))) 192 ?_ (fun j192 => ?_)
            · skip
              refine gx_istore K d_Mod_isNumber_192 (gle rfl) rfl ?_
              refine gx_iinc (v := nI ((n_p (E 18) (N 4) + i) + 1)) K d_Mod_isNumber_194 rfl (nI_add _ _) (gle rfl) rfl ?_
              refine gx_goto K d_Mod_isNumber_197 rfl ?_
              exact gx_back [true, true, true, true, true, false, true, true, false] (by rw [show (n_scan (E 18) (n_p (E 18) (N 4)) (i + 1)) = n_step (E 18 (n_p (E 18) (N 4) + i)) (n_scan (E 18) (n_p (E 18) (N 4)) i) from rfl, n_C (by rw [h90]; rfl) (fun q => h155 q.1)]; rfl) rfl ihi
            · skip
              refine gx_iload K d_Mod_isNumber_170 rfl ?_
              refine gx_if_eqB K d_Mod_isNumber_172 rfl (fun h172 => ?_) (fun h172 => ?_)
              · skip
                refine gx_iconst (v := b2i false) K d_Mod_isNumber_191 rfl ?_
                exact j192 _ (by simp [h90, h155, h172] <;> simp_all)
              · skip
                refine gx_iload_n K d_Mod_isNumber_175 rfl rfl ?_
                refine gx_bipush (v := 9) K d_Mod_isNumber_176 rfl ?_
                refine gx_icmp_gt K d_Mod_isNumber_178 rfl (fun h178 => ?_) (fun h178 => ?_)
                · skip
                  refine gx_iconst (v := b2i false) K d_Mod_isNumber_191 rfl ?_
                  exact j192 _ (by simp [h90, h155, h172, h178, Int32.not_le.mpr h178] <;> simp_all)
                · skip
                  refine gx_iload_n K d_Mod_isNumber_181 rfl rfl ?_
                  refine gx_bipush (v := 6) K d_Mod_isNumber_182 rfl ?_
                  refine gx_icmp_gt K d_Mod_isNumber_184 rfl (fun h184 => ?_) (fun h184 => ?_)
                  · skip
                    refine gx_iconst (v := b2i false) K d_Mod_isNumber_191 rfl ?_
                    exact j192 _ (by simp [h90, h155, h172, h178, Int32.not_lt.mp h178, h184, Int32.not_le.mpr h184] <;> simp_all)
                  · skip
                    refine gx_iconst (v := b2i true) K d_Mod_isNumber_187 rfl ?_
                    refine gx_goto K d_Mod_isNumber_188 rfl ?_
                    exact j192 _ (by simp [h90, h155, h172, h178, Int32.not_lt.mp h178, h184, Int32.not_lt.mp h184] <;> simp_all)
          · skip
            refine gx_iload_n K d_Mod_isNumber_158 rfl rfl ?_
            refine gx_if_ge K d_Mod_isNumber_159 rfl (fun h159 => ?_) (fun h159 => ?_)
            · skip
              refine gx_iconst (v := b2i false) K d_Mod_isNumber_167 rfl ?_
              refine gx_istore K d_Mod_isNumber_168 (gle rfl) rfl ?_
              refine gx_cut (X := false && (decide ((n_scan (E 18) (n_p (E 18) (N 4)) i).2.1 ≤ 9) && decide ((n_scan (E 18) (n_p (E 18) (N 4)) i).2.2.1 ≤ 6))) 192 ?_ (fun j192 => ?_)
              · skip
                refine gx_istore K d_Mod_isNumber_192 (gle rfl) rfl ?_
                refine gx_iinc (v := nI ((n_p (E 18) (N 4) + i) + 1)) K d_Mod_isNumber_194 rfl (nI_add _ _) (gle rfl) rfl ?_
                refine gx_goto K d_Mod_isNumber_197 rfl ?_
                exact gx_back [true, true, true, true, true, false, true, true, false] (by rw [show (n_scan (E 18) (n_p (E 18) (N 4)) (i + 1)) = n_step (E 18 (n_p (E 18) (N 4) + i)) (n_scan (E 18) (n_p (E 18) (N 4)) i) from rfl, n_C (by rw [h90]; rfl) (fun q => Int32.not_lt.mpr h159 q.2)]; rfl) rfl ihi
              · skip
                refine gx_iload K d_Mod_isNumber_170 rfl ?_
                refine gx_if_eqB K d_Mod_isNumber_172 rfl (fun h172 => ?_) (fun h172 => ?_)
                · skip
                  refine gx_iconst (v := b2i false) K d_Mod_isNumber_191 rfl ?_
                  exact j192 _ (by simp [h90, h155, h159, Int32.not_lt.mpr h159, h172] <;> simp_all)
                · skip
                  refine gx_iload_n K d_Mod_isNumber_175 rfl rfl ?_
                  refine gx_bipush (v := 9) K d_Mod_isNumber_176 rfl ?_
                  refine gx_icmp_gt K d_Mod_isNumber_178 rfl (fun h178 => ?_) (fun h178 => ?_)
                  · skip
                    refine gx_iconst (v := b2i false) K d_Mod_isNumber_191 rfl ?_
                    exact j192 _ (by simp [h90, h155, h159, Int32.not_lt.mpr h159, h172, h178, Int32.not_le.mpr h178] <;> simp_all)
                  · skip
                    refine gx_iload_n K d_Mod_isNumber_181 rfl rfl ?_
                    refine gx_bipush (v := 6) K d_Mod_isNumber_182 rfl ?_
                    refine gx_icmp_gt K d_Mod_isNumber_184 rfl (fun h184 => ?_) (fun h184 => ?_)
                    · skip
                      refine gx_iconst (v := b2i false) K d_Mod_isNumber_191 rfl ?_
                      exact j192 _ (by simp [h90, h155, h159, Int32.not_lt.mpr h159, h172, h178, Int32.not_lt.mp h178, h184, Int32.not_le.mpr h184] <;> simp_all)
                    · skip
                      refine gx_iconst (v := b2i true) K d_Mod_isNumber_187 rfl ?_
                      refine gx_goto K d_Mod_isNumber_188 rfl ?_
                      exact j192 _ (by simp [h90, h155, h159, Int32.not_lt.mpr h159, h172, h178, Int32.not_lt.mp h178, h184, Int32.not_lt.mp h184] <;> simp_all)
            · skip
              refine gx_iconst (v := 0) K d_Mod_isNumber_162 rfl ?_
              refine gx_istore_n K d_Mod_isNumber_163 rfl (gle rfl) rfl ?_
              refine gx_goto K d_Mod_isNumber_164 rfl ?_
              refine gx_cut (X := (n_scan (E 18) (n_p (E 18) (N 4)) i).2.2.2 && (decide ((n_scan (E 18) (n_p (E 18) (N 4)) i).2.1 ≤ 9) && decide ((0 : Int32) ≤ 6))) 192 ?_ (fun j192 => ?_)
              · skip
                refine gx_istore K d_Mod_isNumber_192 (gle rfl) rfl ?_
                refine gx_iinc (v := nI ((n_p (E 18) (N 4) + i) + 1)) K d_Mod_isNumber_194 rfl (nI_add _ _) (gle rfl) rfl ?_
                refine gx_goto K d_Mod_isNumber_197 rfl ?_
                exact gx_back [true, true, true, true, true, false, true, true, false] (by rw [show (n_scan (E 18) (n_p (E 18) (N 4)) (i + 1)) = n_step (E 18 (n_p (E 18) (N 4) + i)) (n_scan (E 18) (n_p (E 18) (N 4)) i) from rfl, n_B (by rw [h90]; rfl) h155 (Int32.not_le.mp h159)]; rfl) rfl ihi
              · skip
                refine gx_iload K d_Mod_isNumber_170 rfl ?_
                refine gx_if_eqB K d_Mod_isNumber_172 rfl (fun h172 => ?_) (fun h172 => ?_)
                · skip
                  refine gx_iconst (v := b2i false) K d_Mod_isNumber_191 rfl ?_
                  exact j192 _ (by simp [h90, h155, h159, Int32.not_le.mp h159, h172] <;> simp_all)
                · skip
                  refine gx_iload_n K d_Mod_isNumber_175 rfl rfl ?_
                  refine gx_bipush (v := 9) K d_Mod_isNumber_176 rfl ?_
                  refine gx_icmp_gt K d_Mod_isNumber_178 rfl (fun h178 => ?_) (fun h178 => ?_)
                  · skip
                    refine gx_iconst (v := b2i false) K d_Mod_isNumber_191 rfl ?_
                    exact j192 _ (by simp [h90, h155, h159, Int32.not_le.mp h159, h172, h178, Int32.not_le.mpr h178] <;> simp_all)
                  · skip
                    refine gx_iload_n K d_Mod_isNumber_181 rfl rfl ?_
                    refine gx_bipush (v := 6) K d_Mod_isNumber_182 rfl ?_
                    refine gx_icmp_gt K d_Mod_isNumber_184 rfl (fun h184 => ?_) (fun h184 => ?_)
                    · skip
                      have h184n : 6 < 0 := (nI_ltI (a := 6) (b := 0) (by omega) (by omega)).mp h184
                      refine gx_iconst (v := b2i false) K d_Mod_isNumber_191 rfl ?_
                      exact j192 _ (by simp [h90, h155, h159, Int32.not_le.mp h159, h172, h178, Int32.not_lt.mp h178, h184, h184n, Nat.not_le.mpr h184n, Int32.not_le.mpr h184] <;> simp_all)
                    · skip
                      have h184n : ¬ 6 < 0 := fun q => h184 ((nI_ltI (a := 6) (b := 0) (by omega) (by omega)).mpr q)
                      refine gx_iconst (v := b2i true) K d_Mod_isNumber_187 rfl ?_
                      refine gx_goto K d_Mod_isNumber_188 rfl ?_
                      exact j192 _ (by simp [h90, h155, h159, Int32.not_le.mp h159, h172, h178, Int32.not_lt.mp h178, h184, h184n, Nat.not_lt.mp h184n, Int32.not_lt.mp h184] <;> simp_all)
        · skip
          refine gx_iload K d_Mod_isNumber_93 rfl ?_
          refine gx_if_eqB K d_Mod_isNumber_95 rfl (fun h95 => ?_) (fun h95 => ?_)
          · skip
            refine gx_aload_n K d_Mod_isNumber_146 rfl rfl ?_
            refine gx_get K f_Mod_77 (q0 := 0) rfl rfl d_Mod_isNumber_147 ?_
            refine gx_iload K d_Mod_isNumber_150 rfl ?_
            refine gx_iald K (q0 := 23) rfl rfl (by omega) (by decide) d_Mod_isNumber_152 ?_
            refine gx_bipush (v := 46) K d_Mod_isNumber_153 rfl ?_
            refine gx_icmp_ne K d_Mod_isNumber_155 rfl (fun h155 => ?_) (fun h155 => ?_)
            · skip
              refine gx_iconst (v := b2i false) K d_Mod_isNumber_167 rfl ?_
              refine gx_istore K d_Mod_isNumber_168 (gle rfl) rfl ?_
              refine gx_cut (X := false && (decide ((n_scan (E 18) (n_p (E 18) (N 4)) i).2.1 ≤ 9) && decide ((n_scan (E 18) (n_p (E 18) (N 4)) i).2.2.1 ≤ 6))) 192 ?_ (fun j192 => ?_)
              · skip
                refine gx_istore K d_Mod_isNumber_192 (gle rfl) rfl ?_
                refine gx_iinc (v := nI ((n_p (E 18) (N 4) + i) + 1)) K d_Mod_isNumber_194 rfl (nI_add _ _) (gle rfl) rfl ?_
                refine gx_goto K d_Mod_isNumber_197 rfl ?_
                exact gx_back [true, true, true, true, true, false, true, true, false] (by rw [show (n_scan (E 18) (n_p (E 18) (N 4)) (i + 1)) = n_step (E 18 (n_p (E 18) (N 4) + i)) (n_scan (E 18) (n_p (E 18) (N 4)) i) from rfl, n_C (by rw [h95, Bool.and_false]) (fun q => h155 q.1)]; rfl) rfl ihi
              · skip
                refine gx_iload K d_Mod_isNumber_170 rfl ?_
                refine gx_if_eqB K d_Mod_isNumber_172 rfl (fun h172 => ?_) (fun h172 => ?_)
                · skip
                  refine gx_iconst (v := b2i false) K d_Mod_isNumber_191 rfl ?_
                  exact j192 _ (by simp [h90, h95, h155, h172] <;> simp_all)
                · skip
                  refine gx_iload_n K d_Mod_isNumber_175 rfl rfl ?_
                  refine gx_bipush (v := 9) K d_Mod_isNumber_176 rfl ?_
                  refine gx_icmp_gt K d_Mod_isNumber_178 rfl (fun h178 => ?_) (fun h178 => ?_)
                  · skip
                    refine gx_iconst (v := b2i false) K d_Mod_isNumber_191 rfl ?_
                    exact j192 _ (by simp [h90, h95, h155, h172, h178, Int32.not_le.mpr h178] <;> simp_all)
                  · skip
                    refine gx_iload_n K d_Mod_isNumber_181 rfl rfl ?_
                    refine gx_bipush (v := 6) K d_Mod_isNumber_182 rfl ?_
                    refine gx_icmp_gt K d_Mod_isNumber_184 rfl (fun h184 => ?_) (fun h184 => ?_)
                    · skip
                      refine gx_iconst (v := b2i false) K d_Mod_isNumber_191 rfl ?_
                      exact j192 _ (by simp [h90, h95, h155, h172, h178, Int32.not_lt.mp h178, h184, Int32.not_le.mpr h184] <;> simp_all)
                    · skip
                      refine gx_iconst (v := b2i true) K d_Mod_isNumber_187 rfl ?_
                      refine gx_goto K d_Mod_isNumber_188 rfl ?_
                      exact j192 _ (by simp [h90, h95, h155, h172, h178, Int32.not_lt.mp h178, h184, Int32.not_lt.mp h184] <;> simp_all)
            · skip
              refine gx_iload_n K d_Mod_isNumber_158 rfl rfl ?_
              refine gx_if_ge K d_Mod_isNumber_159 rfl (fun h159 => ?_) (fun h159 => ?_)
              · skip
                refine gx_iconst (v := b2i false) K d_Mod_isNumber_167 rfl ?_
                refine gx_istore K d_Mod_isNumber_168 (gle rfl) rfl ?_
                refine gx_cut (X := false && (decide ((n_scan (E 18) (n_p (E 18) (N 4)) i).2.1 ≤ 9) && decide ((n_scan (E 18) (n_p (E 18) (N 4)) i).2.2.1 ≤ 6))) 192 ?_ (fun j192 => ?_)
                · skip
                  refine gx_istore K d_Mod_isNumber_192 (gle rfl) rfl ?_
                  refine gx_iinc (v := nI ((n_p (E 18) (N 4) + i) + 1)) K d_Mod_isNumber_194 rfl (nI_add _ _) (gle rfl) rfl ?_
                  refine gx_goto K d_Mod_isNumber_197 rfl ?_
                  exact gx_back [true, true, true, true, true, false, true, true, false] (by rw [show (n_scan (E 18) (n_p (E 18) (N 4)) (i + 1)) = n_step (E 18 (n_p (E 18) (N 4) + i)) (n_scan (E 18) (n_p (E 18) (N 4)) i) from rfl, n_C (by rw [h95, Bool.and_false]) (fun q => Int32.not_lt.mpr h159 q.2)]; rfl) rfl ihi
                · skip
                  refine gx_iload K d_Mod_isNumber_170 rfl ?_
                  refine gx_if_eqB K d_Mod_isNumber_172 rfl (fun h172 => ?_) (fun h172 => ?_)
                  · skip
                    refine gx_iconst (v := b2i false) K d_Mod_isNumber_191 rfl ?_
                    exact j192 _ (by simp [h90, h95, h155, h159, Int32.not_lt.mpr h159, h172] <;> simp_all)
                  · skip
                    refine gx_iload_n K d_Mod_isNumber_175 rfl rfl ?_
                    refine gx_bipush (v := 9) K d_Mod_isNumber_176 rfl ?_
                    refine gx_icmp_gt K d_Mod_isNumber_178 rfl (fun h178 => ?_) (fun h178 => ?_)
                    · skip
                      refine gx_iconst (v := b2i false) K d_Mod_isNumber_191 rfl ?_
                      exact j192 _ (by simp [h90, h95, h155, h159, Int32.not_lt.mpr h159, h172, h178, Int32.not_le.mpr h178] <;> simp_all)
                    · skip
                      refine gx_iload_n K d_Mod_isNumber_181 rfl rfl ?_
                      refine gx_bipush (v := 6) K d_Mod_isNumber_182 rfl ?_
                      refine gx_icmp_gt K d_Mod_isNumber_184 rfl (fun h184 => ?_) (fun h184 => ?_)
                      · skip
                        refine gx_iconst (v := b2i false) K d_Mod_isNumber_191 rfl ?_
                        exact j192 _ (by simp [h90, h95, h155, h159, Int32.not_lt.mpr h159, h172, h178, Int32.not_lt.mp h178, h184, Int32.not_le.mpr h184] <;> simp_all)
                      · skip
                        refine gx_iconst (v := b2i true) K d_Mod_isNumber_187 rfl ?_
                        refine gx_goto K d_Mod_isNumber_188 rfl ?_
                        exact j192 _ (by simp [h90, h95, h155, h159, Int32.not_lt.mpr h159, h172, h178, Int32.not_lt.mp h178, h184, Int32.not_lt.mp h184] <;> simp_all)
              · skip
                refine gx_iconst (v := 0) K d_Mod_isNumber_162 rfl ?_
                refine gx_istore_n K d_Mod_isNumber_163 rfl (gle rfl) rfl ?_
                refine gx_goto K d_Mod_isNumber_164 rfl ?_
                refine gx_cut (X := (n_scan (E 18) (n_p (E 18) (N 4)) i).2.2.2 && (decide ((n_scan (E 18) (n_p (E 18) (N 4)) i).2.1 ≤ 9) && decide ((0 : Int32) ≤ 6))) 192 ?_ (fun j192 => ?_)
                · skip
                  refine gx_istore K d_Mod_isNumber_192 (gle rfl) rfl ?_
                  refine gx_iinc (v := nI ((n_p (E 18) (N 4) + i) + 1)) K d_Mod_isNumber_194 rfl (nI_add _ _) (gle rfl) rfl ?_
                  refine gx_goto K d_Mod_isNumber_197 rfl ?_
                  exact gx_back [true, true, true, true, true, false, true, true, false] (by rw [show (n_scan (E 18) (n_p (E 18) (N 4)) (i + 1)) = n_step (E 18 (n_p (E 18) (N 4) + i)) (n_scan (E 18) (n_p (E 18) (N 4)) i) from rfl, n_B (by rw [h95, Bool.and_false]) h155 (Int32.not_le.mp h159)]; rfl) rfl ihi
                · skip
                  refine gx_iload K d_Mod_isNumber_170 rfl ?_
                  refine gx_if_eqB K d_Mod_isNumber_172 rfl (fun h172 => ?_) (fun h172 => ?_)
                  · skip
                    refine gx_iconst (v := b2i false) K d_Mod_isNumber_191 rfl ?_
                    exact j192 _ (by simp [h90, h95, h155, h159, Int32.not_le.mp h159, h172] <;> simp_all)
                  · skip
                    refine gx_iload_n K d_Mod_isNumber_175 rfl rfl ?_
                    refine gx_bipush (v := 9) K d_Mod_isNumber_176 rfl ?_
                    refine gx_icmp_gt K d_Mod_isNumber_178 rfl (fun h178 => ?_) (fun h178 => ?_)
                    · skip
                      refine gx_iconst (v := b2i false) K d_Mod_isNumber_191 rfl ?_
                      exact j192 _ (by simp [h90, h95, h155, h159, Int32.not_le.mp h159, h172, h178, Int32.not_le.mpr h178] <;> simp_all)
                    · skip
                      refine gx_iload_n K d_Mod_isNumber_181 rfl rfl ?_
                      refine gx_bipush (v := 6) K d_Mod_isNumber_182 rfl ?_
                      refine gx_icmp_gt K d_Mod_isNumber_184 rfl (fun h184 => ?_) (fun h184 => ?_)
                      · skip
                        have h184n : 6 < 0 := (nI_ltI (a := 6) (b := 0) (by omega) (by omega)).mp h184
                        refine gx_iconst (v := b2i false) K d_Mod_isNumber_191 rfl ?_
                        exact j192 _ (by simp [h90, h95, h155, h159, Int32.not_le.mp h159, h172, h178, Int32.not_lt.mp h178, h184, h184n, Nat.not_le.mpr h184n, Int32.not_le.mpr h184] <;> simp_all)
                      · skip
                        have h184n : ¬ 6 < 0 := fun q => h184 ((nI_ltI (a := 6) (b := 0) (by omega) (by omega)).mpr q)
                        refine gx_iconst (v := b2i true) K d_Mod_isNumber_187 rfl ?_
                        refine gx_goto K d_Mod_isNumber_188 rfl ?_
                        exact j192 _ (by simp [h90, h95, h155, h159, Int32.not_le.mp h159, h172, h178, Int32.not_lt.mp h178, h184, h184n, Nat.not_lt.mp h184n, Int32.not_lt.mp h184] <;> simp_all)
          · skip
            refine gx_ldc2 K d_Mod_isNumber_98 k914 ?_
            refine gx_lload K d_Mod_isNumber_101 rfl ?_
            refine gx_lmul K d_Mod_isNumber_103 ?_
            refine gx_aload_n K d_Mod_isNumber_104 rfl rfl ?_
            refine gx_get K f_Mod_77 (q0 := 0) rfl rfl d_Mod_isNumber_105 ?_
            refine gx_iload K d_Mod_isNumber_108 rfl ?_
            refine gx_iald K (q0 := 23) rfl rfl (by omega) (by decide) d_Mod_isNumber_110 ?_
            refine gx_i2l K d_Mod_isNumber_111 ?_
            refine gx_ladd K d_Mod_isNumber_112 ?_
            refine gx_ldc2 K d_Mod_isNumber_113 k915 ?_
            refine gx_lsub K d_Mod_isNumber_116 ?_
            refine gx_lstore K d_Mod_isNumber_117 (gle rfl) rfl ?_
            refine gx_cutI (X := if (n_scan (E 18) (n_p (E 18) (N 4)) i).2.2.1 < 0 then (n_scan (E 18) (n_p (E 18) (N 4)) i).2.1 + 1 else (n_scan (E 18) (n_p (E 18) (N 4)) i).2.1) 130 ?_ (fun j130 => ?_)
            · skip
              refine gx_istore_n K d_Mod_isNumber_130 rfl (gle rfl) rfl ?_
              refine gx_cutI (X := if (n_scan (E 18) (n_p (E 18) (N 4)) i).2.2.1 < 0 then (n_scan (E 18) (n_p (E 18) (N 4)) i).2.2.1 else (n_scan (E 18) (n_p (E 18) (N 4)) i).2.2.1 + 1) 142 ?_ (fun j142 => ?_)
              · skip
                refine gx_istore_n K d_Mod_isNumber_142 rfl (gle rfl) rfl ?_
                refine gx_goto K d_Mod_isNumber_143 rfl ?_
                refine gx_cut (X := (n_scan (E 18) (n_p (E 18) (N 4)) i).2.2.2 && (decide ((if (n_scan (E 18) (n_p (E 18) (N 4)) i).2.2.1 < 0 then (n_scan (E 18) (n_p (E 18) (N 4)) i).2.1 + 1 else (n_scan (E 18) (n_p (E 18) (N 4)) i).2.1) ≤ 9) && decide ((if (n_scan (E 18) (n_p (E 18) (N 4)) i).2.2.1 < 0 then (n_scan (E 18) (n_p (E 18) (N 4)) i).2.2.1 else (n_scan (E 18) (n_p (E 18) (N 4)) i).2.2.1 + 1) ≤ 6))) 192 ?_ (fun j192 => ?_)
                · skip
                  refine gx_istore K d_Mod_isNumber_192 (gle rfl) rfl ?_
                  refine gx_iinc (v := nI ((n_p (E 18) (N 4) + i) + 1)) K d_Mod_isNumber_194 rfl (nI_add _ _) (gle rfl) rfl ?_
                  refine gx_goto K d_Mod_isNumber_197 rfl ?_
                  exact gx_back [true, true, true, true, true, false, true, true, false] (by rw [show (n_scan (E 18) (n_p (E 18) (N 4)) (i + 1)) = n_step (E 18 (n_p (E 18) (N 4) + i)) (n_scan (E 18) (n_p (E 18) (N 4)) i) from rfl, n_A h90 h95]; rfl) rfl ihi
                · skip
                  refine gx_iload K d_Mod_isNumber_170 rfl ?_
                  refine gx_if_eqB K d_Mod_isNumber_172 rfl (fun h172 => ?_) (fun h172 => ?_)
                  · skip
                    refine gx_iconst (v := b2i false) K d_Mod_isNumber_191 rfl ?_
                    exact j192 _ (by simp [h90, h95, h172] <;> simp_all)
                  · skip
                    refine gx_iload_n K d_Mod_isNumber_175 rfl rfl ?_
                    refine gx_bipush (v := 9) K d_Mod_isNumber_176 rfl ?_
                    refine gx_icmp_gt K d_Mod_isNumber_178 rfl (fun h178 => ?_) (fun h178 => ?_)
                    · skip
                      refine gx_iconst (v := b2i false) K d_Mod_isNumber_191 rfl ?_
                      exact j192 _ (by simp [h90, h95, h172, h178, Int32.not_le.mpr h178] <;> simp_all)
                    · skip
                      refine gx_iload_n K d_Mod_isNumber_181 rfl rfl ?_
                      refine gx_bipush (v := 6) K d_Mod_isNumber_182 rfl ?_
                      refine gx_icmp_gt K d_Mod_isNumber_184 rfl (fun h184 => ?_) (fun h184 => ?_)
                      · skip
                        refine gx_iconst (v := b2i false) K d_Mod_isNumber_191 rfl ?_
                        exact j192 _ (by simp [h90, h95, h172, h178, Int32.not_lt.mp h178, h184, Int32.not_le.mpr h184] <;> simp_all)
                      · skip
                        refine gx_iconst (v := b2i true) K d_Mod_isNumber_187 rfl ?_
                        refine gx_goto K d_Mod_isNumber_188 rfl ?_
                        exact j192 _ (by simp [h90, h95, h172, h178, Int32.not_lt.mp h178, h184, Int32.not_lt.mp h184] <;> simp_all)
              · skip
                refine gx_iload_n K d_Mod_isNumber_131 rfl rfl ?_
                refine gx_if_ge K d_Mod_isNumber_132 rfl (fun h132 => ?_) (fun h132 => ?_)
                · skip
                  refine gx_iload_n K d_Mod_isNumber_139 rfl rfl ?_
                  refine gx_iconst (v := 1) K d_Mod_isNumber_140 rfl ?_
                  refine gx_iadd K d_Mod_isNumber_141 ?_
                  exact j142 _ (by simp [h90, h95, h132, Int32.not_lt.mpr h132])
                · skip
                  refine gx_iload_n K d_Mod_isNumber_135 rfl rfl ?_
                  refine gx_goto K d_Mod_isNumber_136 rfl ?_
                  exact j142 _ (by simp [h90, h95, h132, Int32.not_le.mp h132])
            · skip
              refine gx_iload_n K d_Mod_isNumber_119 rfl rfl ?_
              refine gx_if_ge K d_Mod_isNumber_120 rfl (fun h120 => ?_) (fun h120 => ?_)
              · skip
                refine gx_iload_n K d_Mod_isNumber_129 rfl rfl ?_
                exact j130 _ (by simp [h90, h95, h120, Int32.not_lt.mpr h120])
              · skip
                refine gx_iload_n K d_Mod_isNumber_123 rfl rfl ?_
                refine gx_iconst (v := 1) K d_Mod_isNumber_124 rfl ?_
                refine gx_iadd K d_Mod_isNumber_125 ?_
                refine gx_goto K d_Mod_isNumber_126 rfl ?_
                exact j130 _ (by simp [h90, h95, h120, Int32.not_le.mp h120])
      · skip
        refine gx_aload_n K d_Mod_isNumber_57 rfl rfl ?_
        refine gx_get K f_Mod_77 (q0 := 0) rfl rfl d_Mod_isNumber_58 ?_
        refine gx_iload K d_Mod_isNumber_61 rfl ?_
        refine gx_iald K (q0 := 23) rfl rfl (by omega) (by decide) d_Mod_isNumber_63 ?_
        refine gx_bipush (v := 48) K d_Mod_isNumber_64 rfl ?_
        refine gx_icmp_lt K d_Mod_isNumber_66 rfl (fun h66 => ?_) (fun h66 => ?_)
        · skip
          refine gx_iconst (v := b2i false) K d_Mod_isNumber_85 rfl ?_
          exact j86 _ (by simp [s_dig, h66, Int32.not_le.mpr h66])
        · skip
          refine gx_aload_n K d_Mod_isNumber_69 rfl rfl ?_
          refine gx_get K f_Mod_77 (q0 := 0) rfl rfl d_Mod_isNumber_70 ?_
          refine gx_iload K d_Mod_isNumber_73 rfl ?_
          refine gx_iald K (q0 := 23) rfl rfl (by omega) (by decide) d_Mod_isNumber_75 ?_
          refine gx_bipush (v := 57) K d_Mod_isNumber_76 rfl ?_
          refine gx_icmp_gt K d_Mod_isNumber_78 rfl (fun h78 => ?_) (fun h78 => ?_)
          · skip
            refine gx_iconst (v := b2i false) K d_Mod_isNumber_85 rfl ?_
            exact j86 _ (by simp [s_dig, h66, Int32.not_lt.mp h66, h78, Int32.not_le.mpr h78])
          · skip
            refine gx_iconst (v := b2i true) K d_Mod_isNumber_81 rfl ?_
            refine gx_goto K d_Mod_isNumber_82 rfl ?_
            exact j86 _ (by simp [s_dig, h66, Int32.not_lt.mp h66, h78, Int32.not_lt.mp h78])
    · skip
      refine gx_iload K d_Mod_isNumber_48 rfl ?_
      refine gx_aload_n K d_Mod_isNumber_50 rfl rfl ?_
      refine gx_get K f_Mod_152 (q0 := 0) rfl rfl d_Mod_isNumber_51 ?_
      refine gx_icmp_geT K d_Mod_isNumber_54 rfl (by rw [show n_p (E 18) (N 4) + (N 4 - n_p (E 18) (N 4)) = N 4 by omega]; exact Int32.le_refl _) ?_
      refine gx_cutI (X := n_many (n_scan (E 18) (n_p (E 18) (N 4)) (N 4 - n_p (E 18) (N 4)))) 209 ?_ (fun j209 => ?_)
      · skip
        obtain ⟨mm, hm7, hme⟩ := n_bound (E 18) (n_p (E 18) (N 4)) (N 4 - n_p (E 18) (N 4))
        rw [hme]
        refine gx_istore K d_Mod_isNumber_209 (gle rfl) rfl ?_
        refine gx_iload K d_Mod_isNumber_211 rfl ?_
        refine gx_istore K d_Mod_isNumber_213 (gle rfl) rfl ?_
        refine gx_loop [true, true, true, false, true, false, true, true, true] (6 - mm) (fun i => (mdW b ty B N E J ph V rd rest)) (fun i => [some (.ref (b 0)), some (.int (nI (n_p (E 18) (N 4)))), some (.int (n_scan (E 18) (n_p (E 18) (N 4)) (N 4 - n_p (E 18) (N 4))).2.1), none, some (.long (if (n_scan (E 18) (n_p (E 18) (N 4)) (N 4 - n_p (E 18) (N 4))).2.2.2 = true then n_mul (n_scan (E 18) (n_p (E 18) (N 4)) (N 4 - n_p (E 18) (N 4))).1 i else (n_scan (E 18) (n_p (E 18) (N 4)) (N 4 - n_p (E 18) (N 4))).1)), none, some (.int (b2i (n_scan (E 18) (n_p (E 18) (N 4)) (N 4 - n_p (E 18) (N 4))).2.2.2)), some (.int (nI mm)), some (.int (nI (mm + i)))]) rfl (by cases h9 : (n_scan (E 18) (n_p (E 18) (N 4)) (N 4 - n_p (E 18) (N 4))).2.2.2 <;> rfl) (fun i hi ihi => ?_) ?_
        · skip
          refine gx_iload K d_Mod_isNumber_215 rfl ?_
          refine gx_bipush (v := 6) K d_Mod_isNumber_217 rfl ?_
          refine gx_icmp_geF K d_Mod_isNumber_219 rfl (nI_ge (a := mm + i) (b := 6) (by omega) (by decide)) ?_
          refine gx_iload K d_Mod_isNumber_222 rfl ?_
          refine gx_if_eqB K d_Mod_isNumber_224 rfl (fun h224 => ?_) (fun h224 => ?_)
          · skip
            refine gx_aload_n K d_Mod_isNumber_241 rfl rfl ?_
            refine gx_cutL (X := n_val (E 18) (N 4)) 266 ?_ (fun j266 => ?_)
            · skip
              refine gx_put K f_Mod_159 ft_Mod rfl (q0 := 0) rfl rfl rfl (gle rfl) d_Mod_isNumber_266 ?_
              refine gx_ws (w1 := (mdW b ty B N E J ph V (n_val (E 18) (N 4)) rest)) rfl ?_
              refine gx_iload K d_Mod_isNumber_269 rfl ?_
              refine gx_if_eqB K d_Mod_isNumber_271 rfl (fun h271 => ?_) (fun h271 => ?_)
              · skip
                refine gx_iconst (v := b2i false) K d_Mod_isNumber_285 rfl ?_
                exact gx_zret K hr hlk d_Mod_isNumber_286 ⟨gRb (by rw [n_ok_eq hme, h271]; rfl), rfl⟩
              · skip
                refine gx_iload_n K d_Mod_isNumber_274 rfl rfl ?_
                refine gx_iload K d_Mod_isNumber_275 rfl ?_
                refine gx_iadd K d_Mod_isNumber_277 ?_
                refine gx_if_le K d_Mod_isNumber_278 rfl (fun h278 => ?_) (fun h278 => ?_)
                · skip
                  refine gx_iconst (v := b2i false) K d_Mod_isNumber_285 rfl ?_
                  exact gx_zret K hr hlk d_Mod_isNumber_286 ⟨gRb (by rw [n_ok_eq hme, h271, decide_eq_false (Int32.not_lt.mpr h278)]; rfl), rfl⟩
                · skip
                  refine gx_iconst (v := b2i true) K d_Mod_isNumber_281 rfl ?_
                  refine gx_goto K d_Mod_isNumber_282 rfl ?_
                  exact gx_zret K hr hlk d_Mod_isNumber_286 ⟨gRb (by rw [n_ok_eq hme, h271, decide_eq_true (Int32.not_le.mp h278)]; rfl), rfl⟩
            · skip
              refine gx_iload_n K d_Mod_isNumber_242 rfl rfl ?_
              refine gx_iconst (v := 1) K d_Mod_isNumber_243 rfl ?_
              refine gx_icmp_ne K d_Mod_isNumber_244 rfl (fun h244 => ?_) (fun h244 => ?_)
              · skip
                have h244n : ¬ (n_p (E 18) (N 4)) = 1 := fun q => h244 ((nI_eq (a := (n_p (E 18) (N 4))) (b := 1) (by omega) (by omega)).mpr q)
                refine gx_lload K d_Mod_isNumber_264 rfl ?_
                exact j266 _ (by first | exact ((n_val_eq hme hm7).trans (if_pos ⟨h244n, h255⟩)).symm | exact ((n_val_eq hme hm7).trans (if_neg (fun q => h244n q.1))).symm | exact ((n_val_eq hme hm7).trans (if_neg (fun q => h255 q.2))).symm | exact Eq.trans (by rw [h224]; rfl) ((n_val_eq hme hm7).trans (if_pos ⟨h244n, h255⟩)).symm | exact Eq.trans (by rw [h224]; rfl) ((n_val_eq hme hm7).trans (if_neg (fun q => h244n q.1))).symm | exact Eq.trans (by rw [h224]; rfl) ((n_val_eq hme hm7).trans (if_neg (fun q => h255 q.2))).symm)
              · skip
                have h244n : (n_p (E 18) (N 4)) = 1 := (nI_eq (a := (n_p (E 18) (N 4))) (b := 1) (by omega) (by omega)).mp h244
                refine gx_aload_n K d_Mod_isNumber_247 rfl rfl ?_
                refine gx_get K f_Mod_77 (q0 := 0) rfl rfl d_Mod_isNumber_248 ?_
                refine gx_iconst (v := 0) K d_Mod_isNumber_251 rfl ?_
                refine gx_iald K (q0 := 23) rfl (x := 0) rfl (by omega) (by decide) d_Mod_isNumber_252 ?_
                refine gx_bipush (v := 45) K d_Mod_isNumber_253 rfl ?_
                refine gx_icmp_ne K d_Mod_isNumber_255 rfl (fun h255 => ?_) (fun h255 => ?_)
                · skip
                  refine gx_lload K d_Mod_isNumber_264 rfl ?_
                  exact j266 _ (by first | exact ((n_val_eq hme hm7).trans (if_pos ⟨h244n, h255⟩)).symm | exact ((n_val_eq hme hm7).trans (if_neg (fun q => h244n q.1))).symm | exact ((n_val_eq hme hm7).trans (if_neg (fun q => h255 q.2))).symm | exact Eq.trans (by rw [h224]; rfl) ((n_val_eq hme hm7).trans (if_pos ⟨h244n, h255⟩)).symm | exact Eq.trans (by rw [h224]; rfl) ((n_val_eq hme hm7).trans (if_neg (fun q => h244n q.1))).symm | exact Eq.trans (by rw [h224]; rfl) ((n_val_eq hme hm7).trans (if_neg (fun q => h255 q.2))).symm)
                · skip
                  refine gx_lload K d_Mod_isNumber_258 rfl ?_
                  refine gx_lneg K d_Mod_isNumber_260 ?_
                  refine gx_goto K d_Mod_isNumber_261 rfl ?_
                  exact j266 _ (by first | exact ((n_val_eq hme hm7).trans (if_pos ⟨h244n, h255⟩)).symm | exact ((n_val_eq hme hm7).trans (if_neg (fun q => h244n q.1))).symm | exact ((n_val_eq hme hm7).trans (if_neg (fun q => h255 q.2))).symm | exact Eq.trans (by rw [h224]; rfl) ((n_val_eq hme hm7).trans (if_pos ⟨h244n, h255⟩)).symm | exact Eq.trans (by rw [h224]; rfl) ((n_val_eq hme hm7).trans (if_neg (fun q => h244n q.1))).symm | exact Eq.trans (by rw [h224]; rfl) ((n_val_eq hme hm7).trans (if_neg (fun q => h255 q.2))).symm)
          · skip
            refine gx_ldc2 K d_Mod_isNumber_227 k914 ?_
            refine gx_lload K d_Mod_isNumber_230 rfl ?_
            refine gx_lmul K d_Mod_isNumber_232 ?_
            refine gx_lstore K d_Mod_isNumber_233 (gle rfl) rfl ?_
            refine gx_iinc (v := nI ((mm + (i)) + 1)) K d_Mod_isNumber_235 rfl (nI_add _ _) (gle rfl) rfl ?_
            refine gx_goto K d_Mod_isNumber_238 rfl ?_
            exact gx_back [true, true, true, false, true, false, true, true, true] (by rw [h224]; rfl) rfl ihi
        · skip
          refine gx_iload K d_Mod_isNumber_215 rfl ?_
          refine gx_bipush (v := 6) K d_Mod_isNumber_217 rfl ?_
          refine gx_icmp_geT K d_Mod_isNumber_219 rfl (by rw [show (6 : Int32) = nI 6 from rfl]; exact (nI_leI (by omega) (by omega)).mpr (by omega)) ?_
          refine gx_aload_n K d_Mod_isNumber_241 rfl rfl ?_
          refine gx_cutL (X := n_val (E 18) (N 4)) 266 ?_ (fun j266 => ?_)
          · skip
            refine gx_put K f_Mod_159 ft_Mod rfl (q0 := 0) rfl rfl rfl (gle rfl) d_Mod_isNumber_266 ?_
            refine gx_ws (w1 := (mdW b ty B N E J ph V (n_val (E 18) (N 4)) rest)) rfl ?_
            refine gx_iload K d_Mod_isNumber_269 rfl ?_
            refine gx_if_eqB K d_Mod_isNumber_271 rfl (fun h271 => ?_) (fun h271 => ?_)
            · skip
              refine gx_iconst (v := b2i false) K d_Mod_isNumber_285 rfl ?_
              exact gx_zret K hr hlk d_Mod_isNumber_286 ⟨gRb (by rw [n_ok_eq hme, h271]; rfl), rfl⟩
            · skip
              refine gx_iload_n K d_Mod_isNumber_274 rfl rfl ?_
              refine gx_iload K d_Mod_isNumber_275 rfl ?_
              refine gx_iadd K d_Mod_isNumber_277 ?_
              refine gx_if_le K d_Mod_isNumber_278 rfl (fun h278 => ?_) (fun h278 => ?_)
              · skip
                refine gx_iconst (v := b2i false) K d_Mod_isNumber_285 rfl ?_
                exact gx_zret K hr hlk d_Mod_isNumber_286 ⟨gRb (by rw [n_ok_eq hme, h271, decide_eq_false (Int32.not_lt.mpr h278)]; rfl), rfl⟩
              · skip
                refine gx_iconst (v := b2i true) K d_Mod_isNumber_281 rfl ?_
                refine gx_goto K d_Mod_isNumber_282 rfl ?_
                exact gx_zret K hr hlk d_Mod_isNumber_286 ⟨gRb (by rw [n_ok_eq hme, h271, decide_eq_true (Int32.not_le.mp h278)]; rfl), rfl⟩
          · skip
            refine gx_iload_n K d_Mod_isNumber_242 rfl rfl ?_
            refine gx_iconst (v := 1) K d_Mod_isNumber_243 rfl ?_
            refine gx_icmp_ne K d_Mod_isNumber_244 rfl (fun h244 => ?_) (fun h244 => ?_)
            · skip
              have h244n : ¬ (n_p (E 18) (N 4)) = 1 := fun q => h244 ((nI_eq (a := (n_p (E 18) (N 4))) (b := 1) (by omega) (by omega)).mpr q)
              refine gx_lload K d_Mod_isNumber_264 rfl ?_
              exact j266 _ (by first | exact ((n_val_eq hme hm7).trans (if_pos ⟨h244n, h255⟩)).symm | exact ((n_val_eq hme hm7).trans (if_neg (fun q => h244n q.1))).symm | exact ((n_val_eq hme hm7).trans (if_neg (fun q => h255 q.2))).symm | exact Eq.trans (by rw [h224]; rfl) ((n_val_eq hme hm7).trans (if_pos ⟨h244n, h255⟩)).symm | exact Eq.trans (by rw [h224]; rfl) ((n_val_eq hme hm7).trans (if_neg (fun q => h244n q.1))).symm | exact Eq.trans (by rw [h224]; rfl) ((n_val_eq hme hm7).trans (if_neg (fun q => h255 q.2))).symm)
            · skip
              have h244n : (n_p (E 18) (N 4)) = 1 := (nI_eq (a := (n_p (E 18) (N 4))) (b := 1) (by omega) (by omega)).mp h244
              refine gx_aload_n K d_Mod_isNumber_247 rfl rfl ?_
              refine gx_get K f_Mod_77 (q0 := 0) rfl rfl d_Mod_isNumber_248 ?_
              refine gx_iconst (v := 0) K d_Mod_isNumber_251 rfl ?_
              refine gx_iald K (q0 := 23) rfl (x := 0) rfl (by omega) (by decide) d_Mod_isNumber_252 ?_
              refine gx_bipush (v := 45) K d_Mod_isNumber_253 rfl ?_
              refine gx_icmp_ne K d_Mod_isNumber_255 rfl (fun h255 => ?_) (fun h255 => ?_)
              · skip
                refine gx_lload K d_Mod_isNumber_264 rfl ?_
                exact j266 _ (by first | exact ((n_val_eq hme hm7).trans (if_pos ⟨h244n, h255⟩)).symm | exact ((n_val_eq hme hm7).trans (if_neg (fun q => h244n q.1))).symm | exact ((n_val_eq hme hm7).trans (if_neg (fun q => h255 q.2))).symm | exact Eq.trans (by rw [h224]; rfl) ((n_val_eq hme hm7).trans (if_pos ⟨h244n, h255⟩)).symm | exact Eq.trans (by rw [h224]; rfl) ((n_val_eq hme hm7).trans (if_neg (fun q => h244n q.1))).symm | exact Eq.trans (by rw [h224]; rfl) ((n_val_eq hme hm7).trans (if_neg (fun q => h255 q.2))).symm)
              · skip
                refine gx_lload K d_Mod_isNumber_258 rfl ?_
                refine gx_lneg K d_Mod_isNumber_260 ?_
                refine gx_goto K d_Mod_isNumber_261 rfl ?_
                exact j266 _ (by first | exact ((n_val_eq hme hm7).trans (if_pos ⟨h244n, h255⟩)).symm | exact ((n_val_eq hme hm7).trans (if_neg (fun q => h244n q.1))).symm | exact ((n_val_eq hme hm7).trans (if_neg (fun q => h255 q.2))).symm | exact Eq.trans (by rw [h224]; rfl) ((n_val_eq hme hm7).trans (if_pos ⟨h244n, h255⟩)).symm | exact Eq.trans (by rw [h224]; rfl) ((n_val_eq hme hm7).trans (if_neg (fun q => h244n q.1))).symm | exact Eq.trans (by rw [h224]; rfl) ((n_val_eq hme hm7).trans (if_neg (fun q => h255 q.2))).symm)
      · skip
        refine gx_iload_n K d_Mod_isNumber_200 rfl rfl ?_
        refine gx_if_ge K d_Mod_isNumber_201 rfl (fun h201 => ?_) (fun h201 => ?_)
        · skip
          refine gx_iload_n K d_Mod_isNumber_208 rfl rfl ?_
          exact j209 _ (by simp [n_many, h201, Int32.not_lt.mpr h201])
        · skip
          refine gx_iconst (v := 0) K d_Mod_isNumber_204 rfl ?_
          refine gx_goto K d_Mod_isNumber_205 rfl ?_
          exact j209 _ (by simp [n_many, h201, Int32.not_le.mp h201])
  · skip
    refine gx_aload_n K d_Mod_isNumber_0 rfl rfl ?_
    refine gx_get K f_Mod_152 (q0 := 0) rfl rfl d_Mod_isNumber_1 ?_
    refine gx_if_le K d_Mod_isNumber_4 rfl (fun h4 => ?_) (fun h4 => ?_)
    · skip
      have h4n : N 4 ≤ 0 := (nI_leI (a := N 4) (b := 0) (by omega) (by omega)).mp h4
      refine gx_iconst (v := 0) K d_Mod_isNumber_33 rfl ?_
      exact j34 _ (by first | (rw [show n_p (E 18) (N 4) = 1 from by unfold n_p n_sign; simp [h4, h4n, Nat.not_lt.mpr h4n, Int32.not_lt.mpr h4]]; rfl) | (rw [show n_p (E 18) (N 4) = 0 from by unfold n_p n_sign; simp [h4, h4n, Nat.not_lt.mpr h4n, Int32.not_lt.mpr h4]]; rfl))
    · skip
      have h4n : ¬ N 4 ≤ 0 := fun q => h4 ((nI_leI (a := N 4) (b := 0) (by omega) (by omega)).mpr q)
      refine gx_aload_n K d_Mod_isNumber_7 rfl rfl ?_
      refine gx_get K f_Mod_77 (q0 := 0) rfl rfl d_Mod_isNumber_8 ?_
      refine gx_iconst (v := 0) K d_Mod_isNumber_11 rfl ?_
      refine gx_iald K (q0 := 23) rfl (x := 0) rfl (by omega) (by decide) d_Mod_isNumber_12 ?_
      refine gx_bipush (v := 43) K d_Mod_isNumber_13 rfl ?_
      refine gx_icmp_eq K d_Mod_isNumber_15 rfl (fun h15 => ?_) (fun h15 => ?_)
      · skip
        refine gx_iconst (v := 1) K d_Mod_isNumber_29 rfl ?_
        refine gx_goto K d_Mod_isNumber_30 rfl ?_
        exact j34 _ (by first | (rw [show n_p (E 18) (N 4) = 1 from by unfold n_p n_sign; simp [h4, h4n, Nat.not_le.mp h4n, Int32.not_le.mp h4, h15]]; rfl) | (rw [show n_p (E 18) (N 4) = 0 from by unfold n_p n_sign; simp [h4, h4n, Nat.not_le.mp h4n, Int32.not_le.mp h4, h15]]; rfl))
      · skip
        refine gx_aload_n K d_Mod_isNumber_18 rfl rfl ?_
        refine gx_get K f_Mod_77 (q0 := 0) rfl rfl d_Mod_isNumber_19 ?_
        refine gx_iconst (v := 0) K d_Mod_isNumber_22 rfl ?_
        refine gx_iald K (q0 := 23) rfl (x := 0) rfl (by omega) (by decide) d_Mod_isNumber_23 ?_
        refine gx_bipush (v := 45) K d_Mod_isNumber_24 rfl ?_
        refine gx_icmp_ne K d_Mod_isNumber_26 rfl (fun h26 => ?_) (fun h26 => ?_)
        · skip
          refine gx_iconst (v := 0) K d_Mod_isNumber_33 rfl ?_
          exact j34 _ (by first | (rw [show n_p (E 18) (N 4) = 1 from by unfold n_p n_sign; simp [h4, h4n, Nat.not_le.mp h4n, Int32.not_le.mp h4, h15, h26]]; rfl) | (rw [show n_p (E 18) (N 4) = 0 from by unfold n_p n_sign; simp [h4, h4n, Nat.not_le.mp h4n, Int32.not_le.mp h4, h15, h26]]; rfl))
        · skip
          refine gx_iconst (v := 1) K d_Mod_isNumber_29 rfl ?_
          refine gx_goto K d_Mod_isNumber_30 rfl ?_
          exact j34 _ (by first | (rw [show n_p (E 18) (N 4) = 1 from by unfold n_p n_sign; simp [h4, h4n, Nat.not_le.mp h4n, Int32.not_le.mp h4, h15, h26]]; rfl) | (rw [show n_p (E 18) (N 4) = 0 from by unfold n_p n_sign; simp [h4, h4n, Nat.not_le.mp h4n, Int32.not_le.mp h4, h15, h26]]; rfl))

