set_option maxRecDepth 100000 in
set_option maxHeartbeats 1000000 in
theorem z_Num_hasSign {l : Launch} {D : va_G} {ty : Nat → ClassId} {tt : Nat} {a : Nat → Nat} {N : Nat → Nat} {r : Nat → Int32} {en re : Int32} {O : Nat → Nat → Option Nat} {z : Nat} {tx : Nat → Int32} {X : Nat → Nat → Bool} {Y : Nat → Nat → Int32} {fc : Nat} {sl : Bool} {pt : Int32} {tot : Int64} {hv : Bool} {rest : va_W} (hN : mN N)  : Cd l y_Num_hasSign c_Num_hasSign 1 (some .boolean) 0 D ty tt [.ref (a 10)] (fbW a ty N r en re O z tx X Y fc sl pt tot hv rest) (some (.int (b2i (n_sign tx (N 4))))) (fbW a ty N r en re O z tx X Y fc sl pt tot hv rest) := by
  obtain ⟨n0, n1, n2, n3, n4, n5⟩ := id hN
  refine Ct_of (by decide) (gle rfl) (fun p e s m args below meth c K hr hlk hin => ?_)
  refine gx_aload_n K d_Num_hasSign_0 rfl rfl ?_
  refine gx_get K f_Num_19 (q0 := 10) rfl rfl d_Num_hasSign_1 ?_
  refine gx_if_le K d_Num_hasSign_4 rfl (fun h4 => ?_) (fun h4 => ?_)
  · skip
    have h4n : N 4 ≤ 0 := (nI_leI (a := N 4) (b := 0) (by omega) (by omega)).mp h4
    refine gx_iconst (v := b2i false) K d_Num_hasSign_33 rfl ?_
    exact gx_zret K hr hlk d_Num_hasSign_34 ⟨gRb (by simp [n_sign, h4, h4n, Nat.not_lt.mpr h4n, Int32.not_lt.mpr h4]), rfl⟩
  · skip
    have h4n : ¬ N 4 ≤ 0 := fun q => h4 ((nI_leI (a := N 4) (b := 0) (by omega) (by omega)).mpr q)
    refine gx_aload_n K d_Num_hasSign_7 rfl rfl ?_
    refine gx_get K f_Num_9 (q0 := 10) rfl rfl d_Num_hasSign_8 ?_
    refine gx_iconst (v := 0) K d_Num_hasSign_11 rfl ?_
    refine gx_cald K (q0 := 11) rfl (x := 0) rfl (by omega) (by decide) d_Num_hasSign_12 ?_
    refine gx_bipush (v := 43) K d_Num_hasSign_13 rfl ?_
    refine gx_icmp_eq K d_Num_hasSign_15 rfl (fun h15 => ?_) (fun h15 => ?_)
    · skip
      refine gx_iconst (v := b2i true) K d_Num_hasSign_29 rfl ?_
      refine gx_goto K d_Num_hasSign_30 rfl ?_
      exact gx_zret K hr hlk d_Num_hasSign_34 ⟨gRb (by simp [n_sign, h4, h4n, Nat.not_le.mp h4n, Int32.not_le.mp h4, h15]), rfl⟩
    · skip
      refine gx_aload_n K d_Num_hasSign_18 rfl rfl ?_
      refine gx_get K f_Num_9 (q0 := 10) rfl rfl d_Num_hasSign_19 ?_
      refine gx_iconst (v := 0) K d_Num_hasSign_22 rfl ?_
      refine gx_cald K (q0 := 11) rfl (x := 0) rfl (by omega) (by decide) d_Num_hasSign_23 ?_
      refine gx_bipush (v := 45) K d_Num_hasSign_24 rfl ?_
      refine gx_icmp_ne K d_Num_hasSign_26 rfl (fun h26 => ?_) (fun h26 => ?_)
      · skip
        refine gx_iconst (v := b2i false) K d_Num_hasSign_33 rfl ?_
        exact gx_zret K hr hlk d_Num_hasSign_34 ⟨gRb (by simp [n_sign, h4, h4n, Nat.not_le.mp h4n, Int32.not_le.mp h4, h15, h26]), rfl⟩
      · skip
        refine gx_iconst (v := b2i true) K d_Num_hasSign_29 rfl ?_
        refine gx_goto K d_Num_hasSign_30 rfl ?_
        exact gx_zret K hr hlk d_Num_hasSign_34 ⟨gRb (by simp [n_sign, h4, h4n, Nat.not_le.mp h4n, Int32.not_le.mp h4, h15, h26]), rfl⟩

set_option maxRecDepth 100000 in
set_option maxHeartbeats 1000000 in
theorem z_Num_append {l : Launch} {D : va_G} {ty : Nat → ClassId} {tt : Nat} {a : Nat → Nat} {N : Nat → Nat} {r : Nat → Int32} {en re : Int32} {O : Nat → Nat → Option Nat} {z : Nat} {tx : Nat → Int32} {X : Nat → Nat → Bool} {Y : Nat → Nat → Int32} {fc : Nat} {sl : Bool} {pt : Int32} {tot : Int64} {hv : Bool} {rest : va_W} (hN : mN N) (x : Int32) (hc : vp_nar .char x = x) : Cd l y_Num_append c_Num_append 3 (some .boolean) 1 D ty tt [.ref (a 10), .int x] (fbW a ty N r en re O z tx X Y fc sl pt tot hv rest) (some (.int (b2i (k_wri N x)))) (if k_wri N x = true then (fbW a ty (va_up N 4 (N 4 + 1)) r en re O z (upd tx (N 4) x) X Y fc sl pt tot hv rest) else (fbW a ty N r en re O z tx X Y fc sl pt tot hv rest)) := by
  obtain ⟨n0, n1, n2, n3, n4, n5⟩ := id hN
  refine Ct_of (by decide) (gle rfl) (fun p e s m args below meth c K hr hlk hin => ?_)
  refine gx_cut (X := s_fit x) 30 ?_ (fun j30 => ?_)
  · skip
    refine gx_istore_n K d_Num_append_30 rfl (gle rfl) rfl ?_
    refine gx_iload_n K d_Num_append_31 rfl rfl ?_
    refine gx_if_eqB K d_Num_append_32 rfl (fun h32 => ?_) (fun h32 => ?_)
    · skip
      refine gx_iconst (v := b2i false) K d_Num_append_44 rfl ?_
      exact gx_zret K hr hlk d_Num_append_45 ⟨gRb (by simp [k_wri, h32]), (if_neg (by simp [k_wri, h32])).symm⟩
    · skip
      refine gx_aload_n K d_Num_append_35 rfl rfl ?_
      refine gx_get K f_Num_19 (q0 := 10) rfl rfl d_Num_append_36 ?_
      refine gx_bipush (v := 20) K d_Num_append_39 rfl ?_
      refine gx_icmp_lt K d_Num_append_41 rfl (fun h41 => ?_) (fun h41 => ?_)
      · skip
        have h41n : N 4 < 20 := (nI_ltI (a := N 4) (b := 20) (by omega) (by omega)).mp h41
        refine gx_aload_n K d_Num_append_46 rfl rfl ?_
        refine gx_get K f_Num_9 (q0 := 10) rfl rfl d_Num_append_47 ?_
        refine gx_aload_n K d_Num_append_50 rfl rfl ?_
        refine gx_get K f_Num_19 (q0 := 10) rfl rfl d_Num_append_51 ?_
        refine gx_iload_n K d_Num_append_54 rfl rfl ?_
        refine gx_cast K (q0 := 11) rfl rfl (by omega) (by decide) hc d_Num_append_55 ?_
        refine gx_aload_n K d_Num_append_56 rfl rfl ?_
        refine gx_dup K d_Num_append_57 rfl ?_
        refine gx_get K f_Num_19 (q0 := 10) rfl rfl d_Num_append_58 ?_
        refine gx_iconst (v := 1) K d_Num_append_61 rfl ?_
        refine gx_iaddN K (N 4) (1) d_Num_append_62 ?_
        refine gx_put K f_Num_19 ft_Num rfl (q0 := 10) rfl rfl rfl (gle rfl) d_Num_append_63 ?_
        refine gx_iconst (v := b2i true) K d_Num_append_66 rfl ?_
        exact gx_zret K hr hlk d_Num_append_67 ⟨gRb (by simp [k_wri, h32, h41, h41n, Nat.not_le.mpr h41n, Int32.not_le.mpr h41]), (if_pos (by simp [k_wri, h32, h41, h41n, Nat.not_le.mpr h41n, Int32.not_le.mpr h41])).symm⟩
      · skip
        have h41n : ¬ N 4 < 20 := fun q => h41 ((nI_ltI (a := N 4) (b := 20) (by omega) (by omega)).mpr q)
        refine gx_iconst (v := b2i false) K d_Num_append_44 rfl ?_
        exact gx_zret K hr hlk d_Num_append_45 ⟨gRb (by simp [k_wri, h32, h41, h41n, Nat.not_lt.mp h41n, Int32.not_lt.mp h41]), (if_neg (by simp [k_wri, h32, h41, h41n, Nat.not_lt.mp h41n, Int32.not_lt.mp h41])).symm⟩
  · skip
    refine gx_iload_n K d_Num_append_0 rfl rfl ?_
    refine gx_SNd K (z_FB_isDigit _) Y_FB_isDigit k395 k394 rfl ⟨gle rfl, gle rfl⟩ ⟨gle rfl, gle rfl⟩ (gle rfl) d_Num_append_1 ?_
    refine gx_if_neB K d_Num_append_4 rfl (fun h4 => ?_) (fun h4 => ?_)
    · skip
      refine gx_iconst (v := b2i true) K d_Num_append_25 rfl ?_
      refine gx_goto K d_Num_append_26 rfl ?_
      exact j30 _ (by simp [s_fit, h4])
    · skip
      refine gx_iload_n K d_Num_append_7 rfl rfl ?_
      refine gx_bipush (v := 46) K d_Num_append_8 rfl ?_
      refine gx_icmp_eq K d_Num_append_10 rfl (fun h10 => ?_) (fun h10 => ?_)
      · skip
        refine gx_iconst (v := b2i true) K d_Num_append_25 rfl ?_
        refine gx_goto K d_Num_append_26 rfl ?_
        exact j30 _ (by simp [s_fit, h4, h10])
      · skip
        refine gx_iload_n K d_Num_append_13 rfl rfl ?_
        refine gx_bipush (v := 43) K d_Num_append_14 rfl ?_
        refine gx_icmp_eq K d_Num_append_16 rfl (fun h16 => ?_) (fun h16 => ?_)
        · skip
          refine gx_iconst (v := b2i true) K d_Num_append_25 rfl ?_
          refine gx_goto K d_Num_append_26 rfl ?_
          exact j30 _ (by simp [s_fit, h4, h10, h16])
        · skip
          refine gx_iload_n K d_Num_append_19 rfl rfl ?_
          refine gx_bipush (v := 45) K d_Num_append_20 rfl ?_
          refine gx_icmp_ne K d_Num_append_22 rfl (fun h22 => ?_) (fun h22 => ?_)
          · skip
            refine gx_iconst (v := b2i false) K d_Num_append_29 rfl ?_
            exact j30 _ (by simp [s_fit, h4, h10, h16, h22])
          · skip
            refine gx_iconst (v := b2i true) K d_Num_append_25 rfl ?_
            refine gx_goto K d_Num_append_26 rfl ?_
            exact j30 _ (by simp [s_fit, h4, h10, h16, h22])

set_option maxRecDepth 100000 in
set_option maxHeartbeats 1000000 in
theorem z_Num_digitsFrom {l : Launch} {D : va_G} {ty : Nat → ClassId} {tt : Nat} {a : Nat → Nat} {N : Nat → Nat} {r : Nat → Int32} {en re : Int32} {O : Nat → Nat → Option Nat} {z : Nat} {tx : Nat → Int32} {X : Nat → Nat → Bool} {Y : Nat → Nat → Int32} {fc : Nat} {sl : Bool} {pt : Int32} {tot : Int64} {hv : Bool} {rest : va_W} (hN : mN N) {x : Int32} {p0 : Nat} (hx : x = nI p0) (hp : p0 ≤ N 4) : Cd l y_Num_digitsFrom c_Num_digitsFrom 3 (some .int) 1 D ty tt [.ref (a 10), .int x] (fbW a ty N r en re O z tx X Y fc sl pt tot hv rest) (some (.int (nI (k_run tx (N 4) 20 p0)))) (fbW a ty N r en re O z tx X Y fc sl pt tot hv rest) := by
  obtain ⟨n0, n1, n2, n3, n4, n5⟩ := id hN
  subst hx
  have hle := k_run_le tx (N 4) 20 p0 hp
  refine Ct_of (by decide) (gle rfl) (fun p e s m args below meth c K hr hlk hin => ?_)
  refine gx_iload_n K d_Num_digitsFrom_0 rfl rfl ?_
  refine gx_istore_n K d_Num_digitsFrom_1 rfl (gle rfl) rfl ?_
  refine gx_loop [true, true, true] (k_run tx (N 4) 20 p0) (fun i => (fbW a ty N r en re O z tx X Y fc sl pt tot hv rest)) (fun i => [some (.ref (a 10)), some (.int (nI p0)), some (.int (nI (p0 + i)))]) rfl rfl (fun i hi ihi => ?_) ?_
  · skip
    have hd := k_run_dig tx (N 4) 20 p0 i hi
    refine gx_iload_n K d_Num_digitsFrom_2 rfl rfl ?_
    refine gx_aload_n K d_Num_digitsFrom_3 rfl rfl ?_
    refine gx_get K f_Num_19 (q0 := 10) rfl rfl d_Num_digitsFrom_4 ?_
    refine gx_icmp_geF K d_Num_digitsFrom_7 rfl (nI_ge (a := p0 + i) (b := N 4) (by omega) (by omega)) ?_
    refine gx_aload_n K d_Num_digitsFrom_10 rfl rfl ?_
    refine gx_get K f_Num_9 (q0 := 10) rfl rfl d_Num_digitsFrom_11 ?_
    refine gx_iload_n K d_Num_digitsFrom_14 rfl rfl ?_
    refine gx_cald K (q0 := 11) rfl rfl (by omega) (by decide) d_Num_digitsFrom_15 ?_
    refine gx_SNd K (z_FB_isDigit _) Y_FB_isDigit k395 k394 rfl ⟨gle rfl, gle rfl⟩ ⟨gle rfl, gle rfl⟩ (gle rfl) d_Num_digitsFrom_16 ?_
    refine gx_if_eqB K d_Num_digitsFrom_19 rfl (fun q => absurd (q.symm.trans (hd)) (by decide)) (fun _ => ?_)
    refine gx_iinc (v := nI ((p0 + i) + 1)) K d_Num_digitsFrom_22 rfl (nI_add _ _) (gle rfl) rfl ?_
    refine gx_goto K d_Num_digitsFrom_25 rfl ?_
    exact gx_back [true, true, true] rfl rfl ihi
  · skip
    rcases Nat.lt_or_ge (p0 + k_run tx (N 4) 20 p0) (N 4) with h4 | h4
    · skip
      have hd := k_run_stop tx (N 4) 20 p0 (by omega) h4
      refine gx_iload_n K d_Num_digitsFrom_2 rfl rfl ?_
      refine gx_aload_n K d_Num_digitsFrom_3 rfl rfl ?_
      refine gx_get K f_Num_19 (q0 := 10) rfl rfl d_Num_digitsFrom_4 ?_
      refine gx_icmp_geF K d_Num_digitsFrom_7 rfl (nI_ge h4 (by omega)) ?_
      refine gx_aload_n K d_Num_digitsFrom_10 rfl rfl ?_
      refine gx_get K f_Num_9 (q0 := 10) rfl rfl d_Num_digitsFrom_11 ?_
      refine gx_iload_n K d_Num_digitsFrom_14 rfl rfl ?_
      refine gx_cald K (q0 := 11) rfl rfl (by omega) (by decide) d_Num_digitsFrom_15 ?_
      refine gx_SNd K (z_FB_isDigit _) Y_FB_isDigit k395 k394 rfl ⟨gle rfl, gle rfl⟩ ⟨gle rfl, gle rfl⟩ (gle rfl) d_Num_digitsFrom_16 ?_
      refine gx_if_eqB K d_Num_digitsFrom_19 rfl (fun _ => ?_) (fun q => absurd (q.symm.trans (hd)) (by decide))
      refine gx_iload_n K d_Num_digitsFrom_28 rfl rfl ?_
      refine gx_iload_n K d_Num_digitsFrom_29 rfl rfl ?_
      refine gx_isub K d_Num_digitsFrom_30 ?_
      exact gx_iret K hr hlk d_Num_digitsFrom_31 ⟨gRi (by rw [pk_sub (by omega), show p0 + k_run tx (N 4) 20 p0 - p0 = k_run tx (N 4) 20 p0 by omega]), rfl⟩
    · skip
      refine gx_iload_n K d_Num_digitsFrom_2 rfl rfl ?_
      refine gx_aload_n K d_Num_digitsFrom_3 rfl rfl ?_
      refine gx_get K f_Num_19 (q0 := 10) rfl rfl d_Num_digitsFrom_4 ?_
      refine gx_icmp_geT K d_Num_digitsFrom_7 rfl (nI_le h4 (by omega)) ?_
      refine gx_iload_n K d_Num_digitsFrom_28 rfl rfl ?_
      refine gx_iload_n K d_Num_digitsFrom_29 rfl rfl ?_
      refine gx_isub K d_Num_digitsFrom_30 ?_
      exact gx_iret K hr hlk d_Num_digitsFrom_31 ⟨gRi (by rw [pk_sub (by omega), show p0 + k_run tx (N 4) 20 p0 - p0 = k_run tx (N 4) 20 p0 by omega]), rfl⟩

theorem k_ok_no {w : Nat → Int32} {size : Nat} (h : ¬ (n_p w size + k_a w size < size ∧ w (n_p w size + k_a w size) = 46)) : k_ok w size = (decide (n_p w size + k_a w size = size) && (decide (k_a w size ≤ 9) && decide (0 < k_a w size))) := by
  have ept : k_pt w size = false := by
    unfold k_pt
    by_cases h1 : n_p w size + k_a w size < size
    · rw [decide_eq_false (fun q => h ⟨h1, q⟩), Bool.and_false]
    · rw [decide_eq_false h1, Bool.false_and]
  have eq : k_q w size = 0 := by unfold k_q; rw [ept]; rfl
  have eat : k_at w size = n_p w size + k_a w size := by unfold k_at; rw [ept]; rfl
  unfold k_ok
  rw [eat, eq, decide_eq_true (by omega : 0 ≤ 6), Bool.true_and, Nat.add_zero]
theorem k_ok_pt {w : Nat → Int32} {size : Nat} (h1 : n_p w size + k_a w size < size) (h2 : w (n_p w size + k_a w size) = 46) : k_ok w size = (decide (n_p w size + k_a w size + (1 + k_run w size 20 (n_p w size + k_a w size + 1)) = size) && (decide (k_a w size ≤ 9) && (decide (k_run w size 20 (n_p w size + k_a w size + 1) ≤ 6) && decide (0 < k_a w size + k_run w size 20 (n_p w size + k_a w size + 1))))) := by
  have ept : k_pt w size = true := by unfold k_pt; rw [decide_eq_true h1, decide_eq_true h2]; rfl
  have eq : k_q w size = k_run w size 20 (n_p w size + k_a w size + 1) := by unfold k_q; rw [ept]; rfl
  have eat : k_at w size = n_p w size + k_a w size + (1 + k_run w size 20 (n_p w size + k_a w size + 1)) := by unfold k_at; rw [ept, eq]; rfl
  unfold k_ok
  rw [eat, eq]
set_option maxRecDepth 100000 in
set_option maxHeartbeats 1000000 in
theorem z_Num_isNumber {l : Launch} {D : va_G} {ty : Nat → ClassId} {tt : Nat} {a : Nat → Nat} {N : Nat → Nat} {r : Nat → Int32} {en re : Int32} {O : Nat → Nat → Option Nat} {z : Nat} {tx : Nat → Int32} {X : Nat → Nat → Bool} {Y : Nat → Nat → Int32} {fc : Nat} {sl : Bool} {pt : Int32} {tot : Int64} {hv : Bool} {rest : va_W} (hN : mN N)  : Cd l y_Num_isNumber c_Num_isNumber 4 (some .boolean) 2 D ty tt [.ref (a 10)] (fbW a ty N r en re O z tx X Y fc sl pt tot hv rest) (some (.int (b2i (k_ok tx (N 4))))) (fbW a ty N r en re O z tx X Y fc sl pt tot hv rest) := by
  obtain ⟨n0, n1, n2, n3, n4, n5⟩ := id hN
  refine Ct_of (by decide) (gle rfl) (fun p e s m args below meth c K hr hlk hin => ?_)
  refine gx_cutI (X := nI (n_p tx (N 4))) 12 ?_ (fun j12 => ?_)
  · skip
    refine gx_istore_n K d_Num_isNumber_12 rfl (gle rfl) rfl ?_
    have hp := n_p_le tx (N 4)
    have hle : n_p tx (N 4) + k_a tx (N 4) ≤ N 4 := k_run_le tx (N 4) 20 _ hp
    refine gx_aload_n K d_Num_isNumber_13 rfl rfl ?_
    refine gx_iload_n K d_Num_isNumber_14 rfl rfl ?_
    refine gx_Vd K (z_Num_digitsFrom hN rfl (by omega)) Y_Num_digitsFrom (ci := 4) rfl (q0 := 10) rfl k428 ks15 k426 rfl ⟨gle rfl, gle rfl⟩ ⟨gle rfl, gle rfl⟩ (gle rfl) d_Num_isNumber_15 ?_
    refine gx_istore_n K d_Num_isNumber_18 rfl (gle rfl) rfl ?_
    refine gx_iload_n K d_Num_isNumber_19 rfl rfl ?_
    refine gx_iload_n K d_Num_isNumber_20 rfl rfl ?_
    refine gx_iaddN K ((n_p tx (N 4))) ((k_a tx (N 4))) d_Num_isNumber_21 ?_
    refine gx_istore_n K d_Num_isNumber_22 rfl (gle rfl) rfl ?_
    refine gx_iconst (v := 0) K d_Num_isNumber_23 rfl ?_
    refine gx_istore_n K d_Num_isNumber_24 rfl (gle rfl) rfl ?_
    refine gx_iload_n K d_Num_isNumber_25 rfl rfl ?_
    refine gx_aload_n K d_Num_isNumber_26 rfl rfl ?_
    refine gx_get K f_Num_19 (q0 := 10) rfl rfl d_Num_isNumber_27 ?_
    refine gx_icmp_ge K d_Num_isNumber_30 rfl (fun h30 => ?_) (fun h30 => ?_)
    · skip
      have h30n : N 4 ≤ ((n_p tx (N 4)) + (k_a tx (N 4))) := (nI_leI (a := N 4) (b := ((n_p tx (N 4)) + (k_a tx (N 4)))) (by omega) (by omega)).mp h30
      refine gx_iload_n K d_Num_isNumber_58 rfl rfl ?_
      refine gx_aload_n K d_Num_isNumber_59 rfl rfl ?_
      refine gx_get K f_Num_19 (q0 := 10) rfl rfl d_Num_isNumber_60 ?_
      refine gx_icmp_ne K d_Num_isNumber_63 rfl (fun h63 => ?_) (fun h63 => ?_)
      · skip
        have h63n : ¬ ((n_p tx (N 4)) + (k_a tx (N 4))) = N 4 := fun q => h63 ((nI_eq (a := ((n_p tx (N 4)) + (k_a tx (N 4)))) (b := N 4) (by omega) (by omega)).mpr q)
        refine gx_iconst (v := b2i false) K d_Num_isNumber_88 rfl ?_
        exact gx_zret K hr hlk d_Num_isNumber_89 ⟨gRb (by rw [k_ok_no (fun q => absurd q.1 (Nat.not_lt.mpr h30n))]; simp [h30, h30n, Nat.not_lt.mpr h30n, Int32.not_lt.mpr h30, h63, h63n] <;> omega), rfl⟩
      · skip
        have h63n : ((n_p tx (N 4)) + (k_a tx (N 4))) = N 4 := (nI_eq (a := ((n_p tx (N 4)) + (k_a tx (N 4)))) (b := N 4) (by omega) (by omega)).mp h63
        refine gx_iload_n K d_Num_isNumber_66 rfl rfl ?_
        refine gx_bipush (v := 9) K d_Num_isNumber_67 rfl ?_
        refine gx_icmp_gt K d_Num_isNumber_69 rfl (fun h69 => ?_) (fun h69 => ?_)
        · skip
          have h69n : 9 < (k_a tx (N 4)) := (nI_ltI (a := 9) (b := (k_a tx (N 4))) (by omega) (by omega)).mp h69
          refine gx_iconst (v := b2i false) K d_Num_isNumber_88 rfl ?_
          exact gx_zret K hr hlk d_Num_isNumber_89 ⟨gRb (by rw [k_ok_no (fun q => absurd q.1 (Nat.not_lt.mpr h30n))]; simp [h30, h30n, Nat.not_lt.mpr h30n, Int32.not_lt.mpr h30, h63, h63n, h69, h69n, Nat.not_le.mpr h69n, Int32.not_le.mpr h69] <;> omega), rfl⟩
        · skip
          have h69n : ¬ 9 < (k_a tx (N 4)) := fun q => h69 ((nI_ltI (a := 9) (b := (k_a tx (N 4))) (by omega) (by omega)).mpr q)
          refine gx_iload_n K d_Num_isNumber_72 rfl rfl ?_
          refine gx_bipush (v := 6) K d_Num_isNumber_73 rfl ?_
          refine gx_icmp_gt K d_Num_isNumber_75 rfl (fun h75 => ?_) (fun h75 => ?_)
          · skip
            have h75n : 6 < 0 := (nI_ltI (a := 6) (b := 0) (by omega) (by omega)).mp h75
            refine gx_iconst (v := b2i false) K d_Num_isNumber_88 rfl ?_
            exact gx_zret K hr hlk d_Num_isNumber_89 ⟨gRb (by rw [k_ok_no (fun q => absurd q.1 (Nat.not_lt.mpr h30n))]; simp [h30, h30n, Nat.not_lt.mpr h30n, Int32.not_lt.mpr h30, h63, h63n, h69, h69n, Nat.not_lt.mp h69n, Int32.not_lt.mp h69, h75, h75n, Nat.not_le.mpr h75n, Int32.not_le.mpr h75] <;> omega), rfl⟩
          · skip
            have h75n : ¬ 6 < 0 := fun q => h75 ((nI_ltI (a := 6) (b := 0) (by omega) (by omega)).mpr q)
            refine gx_iload_n K d_Num_isNumber_78 rfl rfl ?_
            refine gx_iload_n K d_Num_isNumber_79 rfl rfl ?_
            refine gx_iaddN K ((k_a tx (N 4))) (0) d_Num_isNumber_80 ?_
            refine gx_if_le K d_Num_isNumber_81 rfl (fun h81 => ?_) (fun h81 => ?_)
            · skip
              have h81n : ((k_a tx (N 4)) + 0) ≤ 0 := (nI_leI (a := ((k_a tx (N 4)) + 0)) (b := 0) (by omega) (by omega)).mp h81
              refine gx_iconst (v := b2i false) K d_Num_isNumber_88 rfl ?_
              exact gx_zret K hr hlk d_Num_isNumber_89 ⟨gRb (by rw [k_ok_no (fun q => absurd q.1 (Nat.not_lt.mpr h30n))]; simp [h30, h30n, Nat.not_lt.mpr h30n, Int32.not_lt.mpr h30, h63, h63n, h69, h69n, Nat.not_lt.mp h69n, Int32.not_lt.mp h69, h75, h75n, Nat.not_lt.mp h75n, Int32.not_lt.mp h75, h81, h81n, Nat.not_lt.mpr h81n, Int32.not_lt.mpr h81] <;> omega), rfl⟩
            · skip
              have h81n : ¬ ((k_a tx (N 4)) + 0) ≤ 0 := fun q => h81 ((nI_leI (a := ((k_a tx (N 4)) + 0)) (b := 0) (by omega) (by omega)).mpr q)
              refine gx_iconst (v := b2i true) K d_Num_isNumber_84 rfl ?_
              refine gx_goto K d_Num_isNumber_85 rfl ?_
              exact gx_zret K hr hlk d_Num_isNumber_89 ⟨gRb (by rw [k_ok_no (fun q => absurd q.1 (Nat.not_lt.mpr h30n))]; simp [h30, h30n, Nat.not_lt.mpr h30n, Int32.not_lt.mpr h30, h63, h63n, h69, h69n, Nat.not_lt.mp h69n, Int32.not_lt.mp h69, h75, h75n, Nat.not_lt.mp h75n, Int32.not_lt.mp h75, h81, h81n, Nat.not_le.mp h81n, Int32.not_le.mp h81] <;> omega), rfl⟩
    · skip
      have h30n : ¬ N 4 ≤ ((n_p tx (N 4)) + (k_a tx (N 4))) := fun q => h30 ((nI_leI (a := N 4) (b := ((n_p tx (N 4)) + (k_a tx (N 4)))) (by omega) (by omega)).mpr q)
      refine gx_aload_n K d_Num_isNumber_33 rfl rfl ?_
      refine gx_get K f_Num_9 (q0 := 10) rfl rfl d_Num_isNumber_34 ?_
      refine gx_iload_n K d_Num_isNumber_37 rfl rfl ?_
      refine gx_cald K (q0 := 11) rfl rfl (by omega) (by decide) d_Num_isNumber_38 ?_
      refine gx_bipush (v := 46) K d_Num_isNumber_39 rfl ?_
      refine gx_icmp_ne K d_Num_isNumber_41 rfl (fun h41 => ?_) (fun h41 => ?_)
      · skip
        refine gx_iload_n K d_Num_isNumber_58 rfl rfl ?_
        refine gx_aload_n K d_Num_isNumber_59 rfl rfl ?_
        refine gx_get K f_Num_19 (q0 := 10) rfl rfl d_Num_isNumber_60 ?_
        refine gx_icmp_ne K d_Num_isNumber_63 rfl (fun h63 => ?_) (fun h63 => ?_)
        · skip
          have h63n : ¬ ((n_p tx (N 4)) + (k_a tx (N 4))) = N 4 := fun q => h63 ((nI_eq (a := ((n_p tx (N 4)) + (k_a tx (N 4)))) (b := N 4) (by omega) (by omega)).mpr q)
          refine gx_iconst (v := b2i false) K d_Num_isNumber_88 rfl ?_
          exact gx_zret K hr hlk d_Num_isNumber_89 ⟨gRb (by rw [k_ok_no (fun q => h41 q.2)]; simp [h30, h30n, Nat.not_le.mp h30n, Int32.not_le.mp h30, h41, h63, h63n] <;> omega), rfl⟩
        · skip
          have h63n : ((n_p tx (N 4)) + (k_a tx (N 4))) = N 4 := (nI_eq (a := ((n_p tx (N 4)) + (k_a tx (N 4)))) (b := N 4) (by omega) (by omega)).mp h63
          refine gx_iload_n K d_Num_isNumber_66 rfl rfl ?_
          refine gx_bipush (v := 9) K d_Num_isNumber_67 rfl ?_
          refine gx_icmp_gt K d_Num_isNumber_69 rfl (fun h69 => ?_) (fun h69 => ?_)
          · skip
            have h69n : 9 < (k_a tx (N 4)) := (nI_ltI (a := 9) (b := (k_a tx (N 4))) (by omega) (by omega)).mp h69
            refine gx_iconst (v := b2i false) K d_Num_isNumber_88 rfl ?_
            exact gx_zret K hr hlk d_Num_isNumber_89 ⟨gRb (by rw [k_ok_no (fun q => h41 q.2)]; simp [h30, h30n, Nat.not_le.mp h30n, Int32.not_le.mp h30, h41, h63, h63n, h69, h69n, Nat.not_le.mpr h69n, Int32.not_le.mpr h69] <;> omega), rfl⟩
          · skip
            have h69n : ¬ 9 < (k_a tx (N 4)) := fun q => h69 ((nI_ltI (a := 9) (b := (k_a tx (N 4))) (by omega) (by omega)).mpr q)
            refine gx_iload_n K d_Num_isNumber_72 rfl rfl ?_
            refine gx_bipush (v := 6) K d_Num_isNumber_73 rfl ?_
            refine gx_icmp_gt K d_Num_isNumber_75 rfl (fun h75 => ?_) (fun h75 => ?_)
            · skip
              have h75n : 6 < 0 := (nI_ltI (a := 6) (b := 0) (by omega) (by omega)).mp h75
              refine gx_iconst (v := b2i false) K d_Num_isNumber_88 rfl ?_
              exact gx_zret K hr hlk d_Num_isNumber_89 ⟨gRb (by rw [k_ok_no (fun q => h41 q.2)]; simp [h30, h30n, Nat.not_le.mp h30n, Int32.not_le.mp h30, h41, h63, h63n, h69, h69n, Nat.not_lt.mp h69n, Int32.not_lt.mp h69, h75, h75n, Nat.not_le.mpr h75n, Int32.not_le.mpr h75] <;> omega), rfl⟩
            · skip
              have h75n : ¬ 6 < 0 := fun q => h75 ((nI_ltI (a := 6) (b := 0) (by omega) (by omega)).mpr q)
              refine gx_iload_n K d_Num_isNumber_78 rfl rfl ?_
              refine gx_iload_n K d_Num_isNumber_79 rfl rfl ?_
              refine gx_iaddN K ((k_a tx (N 4))) (0) d_Num_isNumber_80 ?_
              refine gx_if_le K d_Num_isNumber_81 rfl (fun h81 => ?_) (fun h81 => ?_)
              · skip
                have h81n : ((k_a tx (N 4)) + 0) ≤ 0 := (nI_leI (a := ((k_a tx (N 4)) + 0)) (b := 0) (by omega) (by omega)).mp h81
                refine gx_iconst (v := b2i false) K d_Num_isNumber_88 rfl ?_
                exact gx_zret K hr hlk d_Num_isNumber_89 ⟨gRb (by rw [k_ok_no (fun q => h41 q.2)]; simp [h30, h30n, Nat.not_le.mp h30n, Int32.not_le.mp h30, h41, h63, h63n, h69, h69n, Nat.not_lt.mp h69n, Int32.not_lt.mp h69, h75, h75n, Nat.not_lt.mp h75n, Int32.not_lt.mp h75, h81, h81n, Nat.not_lt.mpr h81n, Int32.not_lt.mpr h81] <;> omega), rfl⟩
              · skip
                have h81n : ¬ ((k_a tx (N 4)) + 0) ≤ 0 := fun q => h81 ((nI_leI (a := ((k_a tx (N 4)) + 0)) (b := 0) (by omega) (by omega)).mpr q)
                refine gx_iconst (v := b2i true) K d_Num_isNumber_84 rfl ?_
                refine gx_goto K d_Num_isNumber_85 rfl ?_
                exact gx_zret K hr hlk d_Num_isNumber_89 ⟨gRb (by rw [k_ok_no (fun q => h41 q.2)]; simp [h30, h30n, Nat.not_le.mp h30n, Int32.not_le.mp h30, h41, h63, h63n, h69, h69n, Nat.not_lt.mp h69n, Int32.not_lt.mp h69, h75, h75n, Nat.not_lt.mp h75n, Int32.not_lt.mp h75, h81, h81n, Nat.not_le.mp h81n, Int32.not_le.mp h81] <;> omega), rfl⟩
      · skip
        refine gx_aload_n K d_Num_isNumber_44 rfl rfl ?_
        refine gx_iload_n K d_Num_isNumber_45 rfl rfl ?_
        refine gx_iconst (v := 1) K d_Num_isNumber_46 rfl ?_
        refine gx_iaddN K (((n_p tx (N 4)) + (k_a tx (N 4)))) (1) d_Num_isNumber_47 ?_
        refine gx_Vd K (z_Num_digitsFrom hN rfl (by omega)) Y_Num_digitsFrom (ci := 4) rfl (q0 := 10) rfl k428 ks15 k426 rfl ⟨gle rfl, gle rfl⟩ ⟨gle rfl, gle rfl⟩ (gle rfl) d_Num_isNumber_48 ?_
        have hle2 := k_run_le tx (N 4) 20 (n_p tx (N 4) + k_a tx (N 4) + 1) (by omega)
        refine gx_istore_n K d_Num_isNumber_51 rfl (gle rfl) rfl ?_
        refine gx_iload_n K d_Num_isNumber_52 rfl rfl ?_
        refine gx_iconst (v := 1) K d_Num_isNumber_53 rfl ?_
        refine gx_iload_n K d_Num_isNumber_54 rfl rfl ?_
        refine gx_iaddN K (1) ((k_run tx (N 4) 20 (n_p tx (N 4) + k_a tx (N 4) + 1))) d_Num_isNumber_55 ?_
        refine gx_iaddN K (((n_p tx (N 4)) + (k_a tx (N 4)))) ((1 + (k_run tx (N 4) 20 (n_p tx (N 4) + k_a tx (N 4) + 1)))) d_Num_isNumber_56 ?_
        refine gx_istore_n K d_Num_isNumber_57 rfl (gle rfl) rfl ?_
        refine gx_iload_n K d_Num_isNumber_58 rfl rfl ?_
        refine gx_aload_n K d_Num_isNumber_59 rfl rfl ?_
        refine gx_get K f_Num_19 (q0 := 10) rfl rfl d_Num_isNumber_60 ?_
        refine gx_icmp_ne K d_Num_isNumber_63 rfl (fun h63 => ?_) (fun h63 => ?_)
        · skip
          have h63n : ¬ (((n_p tx (N 4)) + (k_a tx (N 4))) + (1 + (k_run tx (N 4) 20 (n_p tx (N 4) + k_a tx (N 4) + 1)))) = N 4 := fun q => h63 ((nI_eq (a := (((n_p tx (N 4)) + (k_a tx (N 4))) + (1 + (k_run tx (N 4) 20 (n_p tx (N 4) + k_a tx (N 4) + 1))))) (b := N 4) (by omega) (by omega)).mpr q)
          refine gx_iconst (v := b2i false) K d_Num_isNumber_88 rfl ?_
          exact gx_zret K hr hlk d_Num_isNumber_89 ⟨gRb (by rw [k_ok_pt (Nat.not_le.mp h30n) h41]; simp [h30, h30n, Nat.not_le.mp h30n, Int32.not_le.mp h30, h41, h63, h63n]), rfl⟩
        · skip
          have h63n : (((n_p tx (N 4)) + (k_a tx (N 4))) + (1 + (k_run tx (N 4) 20 (n_p tx (N 4) + k_a tx (N 4) + 1)))) = N 4 := (nI_eq (a := (((n_p tx (N 4)) + (k_a tx (N 4))) + (1 + (k_run tx (N 4) 20 (n_p tx (N 4) + k_a tx (N 4) + 1))))) (b := N 4) (by omega) (by omega)).mp h63
          refine gx_iload_n K d_Num_isNumber_66 rfl rfl ?_
          refine gx_bipush (v := 9) K d_Num_isNumber_67 rfl ?_
          refine gx_icmp_gt K d_Num_isNumber_69 rfl (fun h69 => ?_) (fun h69 => ?_)
          · skip
            have h69n : 9 < (k_a tx (N 4)) := (nI_ltI (a := 9) (b := (k_a tx (N 4))) (by omega) (by omega)).mp h69
            refine gx_iconst (v := b2i false) K d_Num_isNumber_88 rfl ?_
            exact gx_zret K hr hlk d_Num_isNumber_89 ⟨gRb (by rw [k_ok_pt (Nat.not_le.mp h30n) h41]; simp [h30, h30n, Nat.not_le.mp h30n, Int32.not_le.mp h30, h41, h63, h63n, h69, h69n, Nat.not_le.mpr h69n, Int32.not_le.mpr h69]), rfl⟩
          · skip
            have h69n : ¬ 9 < (k_a tx (N 4)) := fun q => h69 ((nI_ltI (a := 9) (b := (k_a tx (N 4))) (by omega) (by omega)).mpr q)
            refine gx_iload_n K d_Num_isNumber_72 rfl rfl ?_
            refine gx_bipush (v := 6) K d_Num_isNumber_73 rfl ?_
            refine gx_icmp_gt K d_Num_isNumber_75 rfl (fun h75 => ?_) (fun h75 => ?_)
            · skip
              have h75n : 6 < (k_run tx (N 4) 20 (n_p tx (N 4) + k_a tx (N 4) + 1)) := (nI_ltI (a := 6) (b := (k_run tx (N 4) 20 (n_p tx (N 4) + k_a tx (N 4) + 1))) (by omega) (by omega)).mp h75
              refine gx_iconst (v := b2i false) K d_Num_isNumber_88 rfl ?_
              exact gx_zret K hr hlk d_Num_isNumber_89 ⟨gRb (by rw [k_ok_pt (Nat.not_le.mp h30n) h41]; simp [h30, h30n, Nat.not_le.mp h30n, Int32.not_le.mp h30, h41, h63, h63n, h69, h69n, Nat.not_lt.mp h69n, Int32.not_lt.mp h69, h75, h75n, Nat.not_le.mpr h75n, Int32.not_le.mpr h75]), rfl⟩
            · skip
              have h75n : ¬ 6 < (k_run tx (N 4) 20 (n_p tx (N 4) + k_a tx (N 4) + 1)) := fun q => h75 ((nI_ltI (a := 6) (b := (k_run tx (N 4) 20 (n_p tx (N 4) + k_a tx (N 4) + 1))) (by omega) (by omega)).mpr q)
              refine gx_iload_n K d_Num_isNumber_78 rfl rfl ?_
              refine gx_iload_n K d_Num_isNumber_79 rfl rfl ?_
              refine gx_iaddN K ((k_a tx (N 4))) ((k_run tx (N 4) 20 (n_p tx (N 4) + k_a tx (N 4) + 1))) d_Num_isNumber_80 ?_
              refine gx_if_le K d_Num_isNumber_81 rfl (fun h81 => ?_) (fun h81 => ?_)
              · skip
                have h81n : ((k_a tx (N 4)) + (k_run tx (N 4) 20 (n_p tx (N 4) + k_a tx (N 4) + 1))) ≤ 0 := (nI_leI (a := ((k_a tx (N 4)) + (k_run tx (N 4) 20 (n_p tx (N 4) + k_a tx (N 4) + 1)))) (b := 0) (by omega) (by omega)).mp h81
                refine gx_iconst (v := b2i false) K d_Num_isNumber_88 rfl ?_
                exact gx_zret K hr hlk d_Num_isNumber_89 ⟨gRb (by rw [k_ok_pt (Nat.not_le.mp h30n) h41]; simp [h30, h30n, Nat.not_le.mp h30n, Int32.not_le.mp h30, h41, h63, h63n, h69, h69n, Nat.not_lt.mp h69n, Int32.not_lt.mp h69, h75, h75n, Nat.not_lt.mp h75n, Int32.not_lt.mp h75, h81, h81n, Nat.not_lt.mpr h81n, Int32.not_lt.mpr h81]), rfl⟩
              · skip
                have h81n : ¬ ((k_a tx (N 4)) + (k_run tx (N 4) 20 (n_p tx (N 4) + k_a tx (N 4) + 1))) ≤ 0 := fun q => h81 ((nI_leI (a := ((k_a tx (N 4)) + (k_run tx (N 4) 20 (n_p tx (N 4) + k_a tx (N 4) + 1)))) (b := 0) (by omega) (by omega)).mpr q)
                refine gx_iconst (v := b2i true) K d_Num_isNumber_84 rfl ?_
                refine gx_goto K d_Num_isNumber_85 rfl ?_
                exact gx_zret K hr hlk d_Num_isNumber_89 ⟨gRb (by rw [k_ok_pt (Nat.not_le.mp h30n) h41]; simp [h30, h30n, Nat.not_le.mp h30n, Int32.not_le.mp h30, h41, h63, h63n, h69, h69n, Nat.not_lt.mp h69n, Int32.not_lt.mp h69, h75, h75n, Nat.not_lt.mp h75n, Int32.not_lt.mp h75, h81, h81n, Nat.not_le.mp h81n, Int32.not_le.mp h81]), rfl⟩
  · skip
    refine gx_aload_n K d_Num_isNumber_0 rfl rfl ?_
    refine gx_Vd K (z_Num_hasSign hN) Y_Num_hasSign (ci := 4) rfl (q0 := 10) rfl k424 ks14 k422 rfl ⟨gle rfl, gle rfl⟩ ⟨gle rfl, gle rfl⟩ (gle rfl) d_Num_isNumber_1 ?_
    refine gx_if_eqB K d_Num_isNumber_4 rfl (fun h4 => ?_) (fun h4 => ?_)
    · skip
      refine gx_iconst (v := 0) K d_Num_isNumber_11 rfl ?_
      exact j12 _ (by rw [n_p, h4]; rfl)
    · skip
      refine gx_iconst (v := 1) K d_Num_isNumber_7 rfl ?_
      refine gx_goto K d_Num_isNumber_8 rfl ?_
      exact j12 _ (by rw [n_p, h4]; rfl)

theorem k_st1 {x : Int32} {t : KS} (h : ¬ x = 46) : k_step x t = (t.1 * 10 + (x - 48).toInt64, t.2.1 - (if t.2.2 = true then 1 else 0), t.2.2) := by
  unfold k_step
  rw [if_neg h]
  cases t.2.2
  · simp
  · simp
theorem k_st2 {x : Int32} {t : KS} (h : x = 46) : k_step x t = (t.1, t.2.1, true) := by
  unfold k_step
  rw [if_pos h]
set_option maxRecDepth 100000 in
set_option maxHeartbeats 1000000 in
theorem z_Num_inMillionths {l : Launch} {D : va_G} {ty : Nat → ClassId} {tt : Nat} {a : Nat → Nat} {N : Nat → Nat} {r : Nat → Int32} {en re : Int32} {O : Nat → Nat → Option Nat} {z : Nat} {tx : Nat → Int32} {X : Nat → Nat → Bool} {Y : Nat → Nat → Int32} {fc : Nat} {sl : Bool} {pt : Int32} {tot : Int64} {hv : Bool} {rest : va_W} (hN : mN N)  : Cd l y_Num_inMillionths c_Num_inMillionths 7 (some .long) 2 D ty tt [.ref (a 10)] (fbW a ty N r en re O z tx X Y fc sl pt tot hv rest) (some (.long (k_val tx (N 4)))) (fbW a ty N r en re O z tx X Y fc sl pt tot hv rest) := by
  obtain ⟨n0, n1, n2, n3, n4, n5⟩ := id hN
  refine Ct_of (by decide) (gle rfl) (fun p e s m args below meth c K hr hlk hin => ?_)
  refine gx_lconst (v := 0) K d_Num_inMillionths_0 rfl ?_
  refine gx_lstore_n K d_Num_inMillionths_1 rfl (gle rfl) rfl ?_
  refine gx_bipush (v := 6) K d_Num_inMillionths_2 rfl ?_
  refine gx_istore_n K d_Num_inMillionths_4 rfl (gle rfl) rfl ?_
  refine gx_iconst (v := b2i false) K d_Num_inMillionths_5 rfl ?_
  refine gx_istore K d_Num_inMillionths_6 (gle rfl) rfl ?_
  refine gx_cutI (X := nI (n_p tx (N 4))) 20 ?_ (fun j20 => ?_)
  · skip
    refine gx_istore K d_Num_inMillionths_20 (gle rfl) rfl ?_
    have hp := n_p_le tx (N 4)
    refine gx_loop [true, true, false, true, true, true, false] (N 4 - n_p tx (N 4)) (fun i => (fbW a ty N r en re O z tx X Y fc sl pt tot hv rest)) (fun i => [some (.ref (a 10)), some (.long (k_scan tx (n_p tx (N 4)) i).1), none, some (.int (k_scan tx (n_p tx (N 4)) i).2.1), some (.int (b2i (k_scan tx (n_p tx (N 4)) i).2.2)), some (.int (nI (n_p tx (N 4) + i))), none]) rfl rfl (fun i hi ihi => ?_) ?_
    · skip
      refine gx_iload K d_Num_inMillionths_22 rfl ?_
      refine gx_aload_n K d_Num_inMillionths_24 rfl rfl ?_
      refine gx_get K f_Num_19 (q0 := 10) rfl rfl d_Num_inMillionths_25 ?_
      refine gx_icmp_geF K d_Num_inMillionths_28 rfl (nI_ge (a := n_p tx (N 4) + i) (b := N 4) (by omega) (by omega)) ?_
      refine gx_aload_n K d_Num_inMillionths_31 rfl rfl ?_
      refine gx_get K f_Num_9 (q0 := 10) rfl rfl d_Num_inMillionths_32 ?_
      refine gx_iload K d_Num_inMillionths_35 rfl ?_
      refine gx_cald K (q0 := 11) rfl rfl (by omega) (by decide) d_Num_inMillionths_37 ?_
      refine gx_bipush (v := 46) K d_Num_inMillionths_38 rfl ?_
      refine gx_icmp_ne K d_Num_inMillionths_40 rfl (fun h40 => ?_) (fun h40 => ?_)
      · skip
        refine gx_lload_n K d_Num_inMillionths_49 rfl rfl ?_
        refine gx_ldc2 K d_Num_inMillionths_50 k434 ?_
        refine gx_lmul K d_Num_inMillionths_53 ?_
        refine gx_aload_n K d_Num_inMillionths_54 rfl rfl ?_
        refine gx_get K f_Num_9 (q0 := 10) rfl rfl d_Num_inMillionths_55 ?_
        refine gx_iload K d_Num_inMillionths_58 rfl ?_
        refine gx_cald K (q0 := 11) rfl rfl (by omega) (by decide) d_Num_inMillionths_60 ?_
        refine gx_bipush (v := 48) K d_Num_inMillionths_61 rfl ?_
        refine gx_isub K d_Num_inMillionths_63 ?_
        refine gx_i2l K d_Num_inMillionths_64 ?_
        refine gx_ladd K d_Num_inMillionths_65 ?_
        refine gx_lstore_n K d_Num_inMillionths_66 rfl (gle rfl) rfl ?_
        refine gx_iload_n K d_Num_inMillionths_67 rfl rfl ?_
        refine gx_cutI (X := if (k_scan tx (n_p tx (N 4)) i).2.2 = true then 1 else 0) 78 ?_ (fun j78 => ?_)
        · skip
          refine gx_isub K d_Num_inMillionths_78 ?_
          refine gx_istore_n K d_Num_inMillionths_79 rfl (gle rfl) rfl ?_
          refine gx_iinc (v := nI (((n_p tx (N 4)) + (i)) + 1)) K d_Num_inMillionths_80 rfl (nI_add _ _) (gle rfl) rfl ?_
          refine gx_goto K d_Num_inMillionths_83 rfl ?_
          exact gx_back [true, true, false, true, true, true, false] (by rw [show k_scan tx (n_p tx (N 4)) (i + 1) = k_step (tx (n_p tx (N 4) + i)) (k_scan tx (n_p tx (N 4)) i) from rfl, k_st1 h40]; rfl) rfl ihi
        · skip
          refine gx_iload K d_Num_inMillionths_68 rfl ?_
          refine gx_if_eqB K d_Num_inMillionths_70 rfl (fun h70 => ?_) (fun h70 => ?_)
          · skip
            refine gx_iconst (v := 0) K d_Num_inMillionths_77 rfl ?_
            exact j78 _ (by simp [h40, h70])
          · skip
            refine gx_iconst (v := 1) K d_Num_inMillionths_73 rfl ?_
            refine gx_goto K d_Num_inMillionths_74 rfl ?_
            exact j78 _ (by simp [h40, h70])
      · skip
        refine gx_iconst (v := b2i true) K d_Num_inMillionths_43 rfl ?_
        refine gx_istore K d_Num_inMillionths_44 (gle rfl) rfl ?_
        refine gx_goto K d_Num_inMillionths_46 rfl ?_
        refine gx_iinc (v := nI (((n_p tx (N 4)) + (i)) + 1)) K d_Num_inMillionths_80 rfl (nI_add _ _) (gle rfl) rfl ?_
        refine gx_goto K d_Num_inMillionths_83 rfl ?_
        exact gx_back [true, true, false, true, true, true, false] (by rw [show k_scan tx (n_p tx (N 4)) (i + 1) = k_step (tx (n_p tx (N 4) + i)) (k_scan tx (n_p tx (N 4)) i) from rfl, k_st2 h40]; rfl) rfl ihi
    · skip
      refine gx_iload K d_Num_inMillionths_22 rfl ?_
      refine gx_aload_n K d_Num_inMillionths_24 rfl rfl ?_
      refine gx_get K f_Num_19 (q0 := 10) rfl rfl d_Num_inMillionths_25 ?_
      refine gx_icmp_geT K d_Num_inMillionths_28 rfl (by rw [show n_p tx (N 4) + (N 4 - n_p tx (N 4)) = N 4 by omega]; exact Int32.le_refl _) ?_
      refine gx_lload_n K d_Num_inMillionths_86 rfl rfl ?_
      refine gx_iload_n K d_Num_inMillionths_87 rfl rfl ?_
      refine gx_SNd K (z_FB_tenTo _) Y_FB_tenTo k436 k435 rfl ⟨gle rfl, gle rfl⟩ ⟨gle rfl, gle rfl⟩ (gle rfl) d_Num_inMillionths_88 ?_
      refine gx_lmul K d_Num_inMillionths_91 ?_
      refine gx_lstore K d_Num_inMillionths_92 (gle rfl) rfl ?_
      refine gx_aload_n K d_Num_inMillionths_94 rfl rfl ?_
      refine gx_get K f_Num_19 (q0 := 10) rfl rfl d_Num_inMillionths_95 ?_
      refine gx_if_le K d_Num_inMillionths_98 rfl (fun h98 => ?_) (fun h98 => ?_)
      · skip
        have h98n : N 4 ≤ 0 := (nI_leI (a := N 4) (b := 0) (by omega) (by omega)).mp h98
        refine gx_lload K d_Num_inMillionths_118 rfl ?_
        exact gx_lret K hr hlk d_Num_inMillionths_120 ⟨gRl (by unfold k_val k_end; rw [if_neg (fun q => absurd q.1 (Nat.not_lt.mpr h98n))]), rfl⟩
      · skip
        have h98n : ¬ N 4 ≤ 0 := fun q => h98 ((nI_leI (a := N 4) (b := 0) (by omega) (by omega)).mpr q)
        refine gx_aload_n K d_Num_inMillionths_101 rfl rfl ?_
        refine gx_get K f_Num_9 (q0 := 10) rfl rfl d_Num_inMillionths_102 ?_
        refine gx_iconst (v := 0) K d_Num_inMillionths_105 rfl ?_
        refine gx_cald K (q0 := 11) rfl (x := 0) rfl (by omega) (by decide) d_Num_inMillionths_106 ?_
        refine gx_bipush (v := 45) K d_Num_inMillionths_107 rfl ?_
        refine gx_icmp_ne K d_Num_inMillionths_109 rfl (fun h109 => ?_) (fun h109 => ?_)
        · skip
          refine gx_lload K d_Num_inMillionths_118 rfl ?_
          exact gx_lret K hr hlk d_Num_inMillionths_120 ⟨gRl (by unfold k_val k_end; rw [if_neg (fun q => h109 q.2)]), rfl⟩
        · skip
          refine gx_lload K d_Num_inMillionths_112 rfl ?_
          refine gx_lneg K d_Num_inMillionths_114 ?_
          refine gx_goto K d_Num_inMillionths_115 rfl ?_
          exact gx_lret K hr hlk d_Num_inMillionths_120 ⟨gRl (by unfold k_val k_end; rw [if_pos ⟨Nat.not_le.mp h98n, h109⟩]), rfl⟩
  · skip
    refine gx_aload_n K d_Num_inMillionths_8 rfl rfl ?_
    refine gx_Vd K (z_Num_hasSign hN) Y_Num_hasSign (ci := 4) rfl (q0 := 10) rfl k424 ks14 k422 rfl ⟨gle rfl, gle rfl⟩ ⟨gle rfl, gle rfl⟩ (gle rfl) d_Num_inMillionths_9 ?_
    refine gx_if_eqB K d_Num_inMillionths_12 rfl (fun h12 => ?_) (fun h12 => ?_)
    · skip
      refine gx_iconst (v := 0) K d_Num_inMillionths_19 rfl ?_
      exact j20 _ (by rw [n_p, h12]; rfl)
    · skip
      refine gx_iconst (v := 1) K d_Num_inMillionths_15 rfl ?_
      refine gx_goto K d_Num_inMillionths_16 rfl ?_
      exact j20 _ (by rw [n_p, h12]; rfl)

