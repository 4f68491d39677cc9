set_option maxRecDepth 100000 in
set_option maxHeartbeats 1000000 in
theorem z_Doc_init {l : Launch} {D : va_G} {ty : Nat → ClassId} {tt : Nat} {ws : va_W} {q : Nat}  : Ct l y_Doc_init c_Doc_init 1 none 1 1 8 D ty tt [.ref q] ((q, .inr (2, [.null, .int 0, .int 0])) :: ws) (fun v1 w1 => ∃ c1 : Nat, v1 = none ∧ w1 = (c1, .inl (ty 0, 8, .inl (fun _ => 0))) :: (q, .inr (2, [.ref c1, .int 0, .int 0])) :: ws) := by
  refine Ct_of (by decide) (gle rfl) (fun p e s m args below meth c K hr hlk hin => ?_)
  refine gx_aload_n K d_Doc_init_0 rfl rfl ?_
  refine gx_objInit K k34 k21 k22 ⟨gle rfl, gle rfl⟩ d_Doc_init_1 ?_
  refine gx_aload_n K d_Doc_init_4 rfl rfl ?_
  refine gx_bipush (v := 8) K d_Doc_init_5 rfl ?_
  refine gx_newa K (at1 := .int) (t := 0) (N := 8) (a0 := (8, .inl (fun _ => 0))) k45 rfl rfl (fun C q => by cases q) (fun cA => rfl) ⟨by decide, rfl⟩ (by decide) ⟨gle rfl, gle rfl⟩ d_Doc_init_7 (fun q7 => ?_)
  refine gy_last ?_
  refine gx_putF K f_Doc_9 ft_Doc rfl hin rfl (q0 := 1) rfl rfl rfl (gle rfl) d_Doc_init_9 ?_
  exact gx_vret K hr hlk d_Doc_init_12 ⟨q7, rfl, rfl⟩

set_option maxRecDepth 100000 in
set_option maxHeartbeats 1000000 in
theorem z_Num_init {l : Launch} {D : va_G} {ty : Nat → ClassId} {tt : Nat} {ws : va_W} {q : Nat}  : Ct l y_Num_init c_Num_init 1 none 1 1 20 D ty tt [.ref q] ((q, .inr (4, [.null, .int 0])) :: ws) (fun v1 w1 => ∃ c1 : Nat, v1 = none ∧ w1 = (c1, .inl (ty 3, 20, .inl (fun _ => 0))) :: (q, .inr (4, [.ref c1, .int 0])) :: ws) := by
  refine Ct_of (by decide) (gle rfl) (fun p e s m args below meth c K hr hlk hin => ?_)
  refine gx_aload_n K d_Num_init_0 rfl rfl ?_
  refine gx_objInit K k114 k21 k22 ⟨gle rfl, gle rfl⟩ d_Num_init_1 ?_
  refine gx_aload_n K d_Num_init_4 rfl rfl ?_
  refine gx_bipush (v := 20) K d_Num_init_5 rfl ?_
  refine gx_newa K (at1 := .char) (t := 3) (N := 20) (a0 := (20, .inl (fun _ => 0))) k123 rfl rfl (fun C q => by cases q) (fun cA => rfl) ⟨by decide, rfl⟩ (by decide) ⟨gle rfl, gle rfl⟩ d_Num_init_7 (fun q7 => ?_)
  refine gy_last ?_
  refine gx_putF K f_Num_9 ft_Num rfl hin rfl (q0 := 1) rfl rfl rfl (gle rfl) d_Num_init_9 ?_
  exact gx_vret K hr hlk d_Num_init_12 ⟨q7, rfl, rfl⟩

set_option maxRecDepth 100000 in
set_option maxHeartbeats 1000000 in
theorem z_Tax_init {l : Launch} {D : va_G} {ty : Nat → ClassId} {tt : Nat} {ws : va_W} {q : Nat}  : Ct l y_Tax_init c_Tax_init 1 none 3 5 62 D ty tt [.ref q] ((q, .inr (1, [.null, .null, .int 0, .null, .int 0, .null])) :: ws) (fun v1 w1 => ∃ c1 c2 c3 c4 c5 : Nat, v1 = none ∧ w1 = (c5, .inr (7, [.int 0, .int 0, .int (b2i false)])) :: (c4, .inl (ty 5, 32, .inr (.inr (.inr (.inr (fun _ => none)))))) :: (c3, .inl (ty 4, 16, .inr (.inr (.inr (.inr (fun _ => none)))))) :: (c2, .inl (ty 0, 8, .inl (fun _ => 0))) :: (c1, .inr (2, [.ref c2, .int 0, .int 0])) :: (q, .inr (1, [.ref c1, .ref c3, .int 0, .ref c4, .int 0, .ref c5])) :: ws) := by
  refine Ct_of (by decide) (gle rfl) (fun p e s m args below meth c K hr hlk hin => ?_)
  refine gx_aload_n K d_Tax_init_0 rfl rfl ?_
  refine gx_objInit K k28 k21 k22 ⟨gle rfl, gle rfl⟩ d_Tax_init_1 ?_
  refine gx_aload_n K d_Tax_init_4 rfl rfl ?_
  refine gx_new K (ci := 2) (fs := [.null, .int 0, .int 0]) rfl in_Doc ft_Doc k29 k30 k3 (fun j h => match j, h with | 0, _ => rfl | 1, _ => rfl | 2, _ => rfl | j_ + 3, h => absurd h (by omega)) ⟨gle rfl, gle rfl⟩ d_Tax_init_5 (fun q5 => ?_)
  refine gy_last ?_
  refine gx_dup K d_Tax_init_8 rfl ?_
  refine gx_IN K (z_Doc_init) Y_Doc_init rfl k32 k31 rfl ⟨gle rfl, gle rfl⟩ ⟨gle rfl, gle rfl⟩ (gle rfl) d_Tax_init_9 (fun v1 w1 hp => ?_)
  obtain ⟨d1, rfl, rfl⟩ := hp
  refine gx_putF K f_Tax_12 ft_Tax rfl hin rfl (q0 := 2) rfl rfl rfl (gle rfl) d_Tax_init_12 ?_
  refine gx_aload_n K d_Tax_init_15 rfl rfl ?_
  refine gx_bipush (v := 16) K d_Tax_init_16 rfl ?_
  refine gx_newq K (t := 4) (N := 16) k46 K.2.2.2.2.2.2.2.2.1.1 rfl ⟨by decide, rfl⟩ (by decide) ⟨gle rfl, gle rfl⟩ d_Tax_init_18 (fun q18 => ?_)
  refine gy_last ?_
  refine gx_putF K f_Tax_20 ft_Tax rfl hin rfl (q0 := 3) rfl rfl rfl (gle rfl) d_Tax_init_21 ?_
  refine gx_aload_n K d_Tax_init_24 rfl rfl ?_
  refine gx_bipush (v := 32) K d_Tax_init_25 rfl ?_
  refine gx_newq K (t := 5) (N := 32) k48 K.2.2.2.2.2.2.2.2.1.2.1 rfl ⟨by decide, rfl⟩ (by decide) ⟨gle rfl, gle rfl⟩ d_Tax_init_27 (fun q27 => ?_)
  refine gy_last ?_
  refine gx_putF K f_Tax_26 ft_Tax rfl hin rfl (q0 := 4) rfl rfl rfl (gle rfl) d_Tax_init_30 ?_
  refine gx_aload_n K d_Tax_init_33 rfl rfl ?_
  refine gx_new K (ci := 7) (fs := [.int 0, .int 0, .int 0]) rfl in_Set ft_Set k50 k51 k4 (fun j h => match j, h with | 0, _ => rfl | 1, _ => rfl | 2, _ => rfl | j_ + 3, h => absurd h (by omega)) ⟨gle rfl, gle rfl⟩ d_Tax_init_34 (fun q34 => ?_)
  refine gy_last ?_
  refine gx_dup K d_Tax_init_37 rfl ?_
  refine gx_iconst (v := 0) K d_Tax_init_38 rfl ?_
  refine gx_iconst (v := 0) K d_Tax_init_39 rfl ?_
  refine gx_iconst (v := 0) K d_Tax_init_40 rfl ?_
  refine gx_INdv K (z_Set_init 0 0 false) Y_Set_init rfl k53 k52 rfl ⟨gle rfl, gle rfl⟩ ⟨gle rfl, gle rfl⟩ (gle rfl) d_Tax_init_41 ?_
  refine gx_put K f_Tax_35 ft_Tax rfl (q0 := 5) rfl rfl rfl (gle rfl) d_Tax_init_44 ?_
  exact gx_vret K hr hlk d_Tax_init_47 ⟨q5, d1, q18, q27, q34, rfl, rfl⟩

set_option maxRecDepth 100000 in
set_option maxHeartbeats 1000000 in
theorem z_Rep_init {l : Launch} {D : va_G} {ty : Nat → ClassId} {tt : Nat} {ws : va_W} {q : Nat}  : Ct l y_Rep_init c_Rep_init 1 none 3 5 62 D ty tt [.ref q] ((q, .inr (3, [.null, .int 0, .null, .int 0, .null, .int 0, .null])) :: ws) (fun v1 w1 => ∃ c1 c2 c3 c4 c5 : Nat, v1 = none ∧ w1 = (c5, .inl (ty 3, 20, .inl (fun _ => 0))) :: (c4, .inr (4, [.ref c5, .int 0])) :: (c3, .inl (ty 8, 20, .inr (.inr (.inr (.inr (fun _ => none)))))) :: (c2, .inl (ty 7, 8, .inr (.inr (.inr (.inr (fun _ => none)))))) :: (c1, .inl (ty 6, 12, .inr (.inr (.inr (.inr (fun _ => none)))))) :: (q, .inr (3, [.ref c1, .int 0, .ref c2, .int 0, .ref c3, .int 0, .ref c4])) :: ws) := by
  refine Ct_of (by decide) (gle rfl) (fun p e s m args below meth c K hr hlk hin => ?_)
  refine gx_aload_n K d_Rep_init_0 rfl rfl ?_
  refine gx_objInit K k102 k21 k22 ⟨gle rfl, gle rfl⟩ d_Rep_init_1 ?_
  refine gx_aload_n K d_Rep_init_4 rfl rfl ?_
  refine gx_bipush (v := 12) K d_Rep_init_5 rfl ?_
  refine gx_newq K (t := 6) (N := 12) k103 K.2.2.2.2.2.2.2.2.1.2.2.1 rfl ⟨by decide, rfl⟩ (by decide) ⟨gle rfl, gle rfl⟩ d_Rep_init_7 (fun q7 => ?_)
  refine gy_last ?_
  refine gx_putF K f_Rep_11 ft_Rep rfl hin rfl (q0 := 1) rfl rfl rfl (gle rfl) d_Rep_init_10 ?_
  refine gx_aload_n K d_Rep_init_13 rfl rfl ?_
  refine gx_bipush (v := 8) K d_Rep_init_14 rfl ?_
  refine gx_newq K (t := 7) (N := 8) k105 K.2.2.2.2.2.2.2.2.1.2.2.2.1 rfl ⟨by decide, rfl⟩ (by decide) ⟨gle rfl, gle rfl⟩ d_Rep_init_16 (fun q16 => ?_)
  refine gy_last ?_
  refine gx_putF K f_Rep_19 ft_Rep rfl hin rfl (q0 := 2) rfl rfl rfl (gle rfl) d_Rep_init_19 ?_
  refine gx_aload_n K d_Rep_init_22 rfl rfl ?_
  refine gx_bipush (v := 20) K d_Rep_init_23 rfl ?_
  refine gx_newq K (t := 8) (N := 20) k107 K.2.2.2.2.2.2.2.2.1.2.2.2.2 rfl ⟨by decide, rfl⟩ (by decide) ⟨gle rfl, gle rfl⟩ d_Rep_init_25 (fun q25 => ?_)
  refine gy_last ?_
  refine gx_putF K f_Rep_25 ft_Rep rfl hin rfl (q0 := 3) rfl rfl rfl (gle rfl) d_Rep_init_28 ?_
  refine gx_aload_n K d_Rep_init_31 rfl rfl ?_
  refine gx_new K (ci := 4) (fs := [.null, .int 0]) rfl in_Num ft_Num k109 k110 k6 (fun j h => match j, h with | 0, _ => rfl | 1, _ => rfl | j_ + 2, h => absurd h (by omega)) ⟨gle rfl, gle rfl⟩ d_Rep_init_32 (fun q32 => ?_)
  refine gy_last ?_
  refine gx_dup K d_Rep_init_35 rfl ?_
  refine gx_IN K (z_Num_init) Y_Num_init rfl k112 k111 rfl ⟨gle rfl, gle rfl⟩ ⟨gle rfl, gle rfl⟩ (gle rfl) d_Rep_init_36 (fun v1 w1 hp => ?_)
  obtain ⟨d1, rfl, rfl⟩ := hp
  refine gx_putF K f_Rep_32 ft_Rep rfl hin rfl (q0 := 5) rfl rfl rfl (gle rfl) d_Rep_init_39 ?_
  exact gx_vret K hr hlk d_Rep_init_42 ⟨q7, q16, q25, q32, d1, rfl, rfl⟩

set_option maxRecDepth 100000 in
set_option maxHeartbeats 1000000 in
theorem z_Rev_init {l : Launch} {D : va_G} {ty : Nat → ClassId} {tt : Nat} {ws : va_W} {q : Nat} (t1 t2 : Nat) : Ct l y_Rev_init c_Rev_init 3 none 1 6 300 D ty tt [.ref q, .ref t1, .ref t2] ((q, .inr (5, [.null, .null, .null, .null, .null, .null, .null, .null, .int 0, .int 0, .int 0, .long 0, .int 0])) :: ws) (fun v1 w1 => ∃ c1 c2 c3 c4 c5 c6 : Nat, v1 = none ∧ w1 = (c6, .inl (ty 0, 180, .inl (fun _ => 0))) :: (c5, .inl (ty 0, 16, .inl (fun _ => 0))) :: (c4, .inl (ty 0, 20, .inl (fun _ => 0))) :: (c3, .inl (ty 0, 20, .inl (fun _ => 0))) :: (c2, .inl (ty 2, 32, .inl (fun _ => 0))) :: (c1, .inl (ty 2, 32, .inl (fun _ => 0))) :: (q, .inr (5, [.ref t1, .ref t2, .ref c1, .ref c2, .ref c3, .ref c4, .ref c5, .ref c6, .int 0, .int 0, .int 0, .long 0, .int 0])) :: ws) := by
  refine Ct_of (by decide) (gle rfl) (fun p e s m args below meth c K hr hlk hin => ?_)
  refine gx_aload_n K d_Rev_init_0 rfl rfl ?_
  refine gx_objInit K k157 k21 k22 ⟨gle rfl, gle rfl⟩ d_Rev_init_1 ?_
  refine gx_aload_n K d_Rev_init_4 rfl rfl ?_
  refine gx_bipush (v := 32) K d_Rev_init_5 rfl ?_
  refine gx_newa K (at1 := .boolean) (t := 2) (N := 32) (a0 := (32, .inl (fun _ => 0))) k203 rfl rfl (fun C q => by cases q) (fun cA => rfl) ⟨by decide, rfl⟩ (by decide) ⟨gle rfl, gle rfl⟩ d_Rev_init_7 (fun q7 => ?_)
  refine gy_last ?_
  refine gx_putF K f_Rev_9 ft_Rev rfl hin rfl (q0 := 1) rfl rfl rfl (gle rfl) d_Rev_init_9 ?_
  refine gx_aload_n K d_Rev_init_12 rfl rfl ?_
  refine gx_bipush (v := 32) K d_Rev_init_13 rfl ?_
  refine gx_newa K (at1 := .boolean) (t := 2) (N := 32) (a0 := (32, .inl (fun _ => 0))) k203 rfl rfl (fun C q => by cases q) (fun cA => rfl) ⟨by decide, rfl⟩ (by decide) ⟨gle rfl, gle rfl⟩ d_Rev_init_15 (fun q15 => ?_)
  refine gy_last ?_
  refine gx_putF K f_Rev_15 ft_Rev rfl hin rfl (q0 := 2) rfl rfl rfl (gle rfl) d_Rev_init_17 ?_
  refine gx_aload_n K d_Rev_init_20 rfl rfl ?_
  refine gx_bipush (v := 20) K d_Rev_init_21 rfl ?_
  refine gx_newa K (at1 := .int) (t := 0) (N := 20) (a0 := (20, .inl (fun _ => 0))) k45 rfl rfl (fun C q => by cases q) (fun cA => rfl) ⟨by decide, rfl⟩ (by decide) ⟨gle rfl, gle rfl⟩ d_Rev_init_23 (fun q23 => ?_)
  refine gy_last ?_
  refine gx_putF K f_Rev_18 ft_Rev rfl hin rfl (q0 := 3) rfl rfl rfl (gle rfl) d_Rev_init_25 ?_
  refine gx_aload_n K d_Rev_init_28 rfl rfl ?_
  refine gx_bipush (v := 20) K d_Rev_init_29 rfl ?_
  refine gx_newa K (at1 := .int) (t := 0) (N := 20) (a0 := (20, .inl (fun _ => 0))) k45 rfl rfl (fun C q => by cases q) (fun cA => rfl) ⟨by decide, rfl⟩ (by decide) ⟨gle rfl, gle rfl⟩ d_Rev_init_31 (fun q31 => ?_)
  refine gy_last ?_
  refine gx_putF K f_Rev_22 ft_Rev rfl hin rfl (q0 := 4) rfl rfl rfl (gle rfl) d_Rev_init_33 ?_
  refine gx_aload_n K d_Rev_init_36 rfl rfl ?_
  refine gx_bipush (v := 16) K d_Rev_init_37 rfl ?_
  refine gx_newa K (at1 := .int) (t := 0) (N := 16) (a0 := (16, .inl (fun _ => 0))) k45 rfl rfl (fun C q => by cases q) (fun cA => rfl) ⟨by decide, rfl⟩ (by decide) ⟨gle rfl, gle rfl⟩ d_Rev_init_39 (fun q39 => ?_)
  refine gy_last ?_
  refine gx_putF K f_Rev_25 ft_Rev rfl hin rfl (q0 := 5) rfl rfl rfl (gle rfl) d_Rev_init_41 ?_
  refine gx_aload_n K d_Rev_init_44 rfl rfl ?_
  refine gx_sipush (v := 180) K d_Rev_init_45 rfl ?_
  refine gx_newa K (at1 := .int) (t := 0) (N := 180) (a0 := (180, .inl (fun _ => 0))) k45 rfl rfl (fun C q => by cases q) (fun cA => rfl) ⟨by decide, rfl⟩ (by decide) ⟨gle rfl, gle rfl⟩ d_Rev_init_48 (fun q48 => ?_)
  refine gy_last ?_
  refine gx_putF K f_Rev_28 ft_Rev rfl hin rfl (q0 := 6) rfl rfl rfl (gle rfl) d_Rev_init_50 ?_
  refine gx_aload_n K d_Rev_init_53 rfl rfl ?_
  refine gx_aload_n K d_Rev_init_54 rfl rfl ?_
  refine gx_putF K f_Rev_31 ft_Rev rfl hin rfl (q0 := 6) rfl rfl rfl (gle rfl) d_Rev_init_55 ?_
  refine gx_aload_n K d_Rev_init_58 rfl rfl ?_
  refine gx_aload_n K d_Rev_init_59 rfl rfl ?_
  refine gx_putF K f_Rev_35 ft_Rev rfl hin rfl (q0 := 6) rfl rfl rfl (gle rfl) d_Rev_init_60 ?_
  exact gx_vret K hr hlk d_Rev_init_63 ⟨q7, q15, q23, q31, q39, q48, rfl, rfl⟩

