def fb_pm (i : Nat) : Nat := (([19, 18, 17, 16, 15, 14, 12, 11, 10, 9, 8, 7, 6, 5, 4, 3, 2, 1, 0, 13] : List Nat)[i]?).getD i
theorem fb_pm_lo : ∀ i, i < 20 → fb_pm i < 20 ∧ ∀ j, j < 20 → fb_pm i = fb_pm j → i = j := by decide +kernel
theorem fb_pm_hi {i : Nat} (h : 20 ≤ i) : fb_pm i = i := by
  unfold fb_pm
  rw [List.getElem?_eq_none (by exact h)]
  rfl
theorem fb_pm_inj (i j : Nat) (h : fb_pm i = fb_pm j) : i = j := by
  by_cases h1 : i < 20
  · by_cases h2 : j < 20
    · exact (fb_pm_lo i h1).2 j h2 h
    · have := (fb_pm_lo i h1).1
      rw [h, fb_pm_hi (by omega)] at this
      omega
  · by_cases h2 : j < 20
    · have := (fb_pm_lo j h2).1
      rw [← h, fb_pm_hi (by omega)] at this
      omega
    · rw [fb_pm_hi (by omega), fb_pm_hi (by omega)] at h
      exact h
set_option maxRecDepth 100000 in
set_option maxHeartbeats 1000000 in
theorem z_FB_init {l : Launch} {D : va_G} {ty : Nat → ClassId} {tt : Nat} {ws : va_W} {q : Nat} : Ct l y_FB_init c_FB_init 1 none 4 19 450 D ty tt [.ref q] ((q, .inr (0, [.null, .null, .null])) :: ws) (fun v1 w1 => ∃ (a : Nat → Nat) (z : Nat), v1 = none ∧ a 0 = q ∧ w1 = fbW a ty (fun _ => 0) (fun _ => 0) 0 0 (fun _ _ => none) z (fun _ => 0) (fun _ _ => false) (fun _ _ => 0) 0 false 0 0 false ((z, .inr (7, [.int 0, .int 0, .int (b2i false)])) :: ws)) := by
  refine Ct_of (by decide) (gle rfl) (fun p e s m args below meth c K hr hlk hin => ?_)
  refine gx_aload_n K d_FB_init_0 rfl rfl ?_
  refine gx_objInit K k20 k21 k22 ⟨gle rfl, gle rfl⟩ d_FB_init_1 ?_
  refine gx_aload_n K d_FB_init_4 rfl rfl ?_
  refine gx_new K (ci := 1) (fs := [.null, .null, .int 0, .null, .int 0, .null]) rfl in_Tax ft_Tax k23 k24 k2 (fun j h => match j, h with | 0, _ => rfl | 1, _ => rfl | 2, _ => rfl | 3, _ => rfl | 4, _ => rfl | 5, _ => rfl | j_ + 6, h => absurd h (by omega)) ⟨gle rfl, gle rfl⟩ d_FB_init_5 (fun q5 => ?_)
  refine gy_last ?_
  refine gx_dup K d_FB_init_8 rfl ?_
  refine gx_IN K (z_Tax_init) Y_Tax_init rfl k26 k25 rfl ⟨gle rfl, gle rfl⟩ ⟨gle rfl, gle rfl⟩ (gle rfl) d_FB_init_9 (fun v1 w1 hp => ?_)
  obtain ⟨t1, t2, t3, t4, t5, rfl, rfl⟩ := hp
  refine gx_putF K f_FB_12 ft_FB rfl hin rfl (q0 := 6) rfl rfl rfl (gle rfl) d_FB_init_12 ?_
  refine gx_aload_n K d_FB_init_15 rfl rfl ?_
  refine gx_new K (ci := 3) (fs := [.null, .int 0, .null, .int 0, .null, .int 0, .null]) rfl in_Rep ft_Rep k97 k98 k5 (fun j h => match j, h with | 0, _ => rfl | 1, _ => rfl | 2, _ => rfl | 3, _ => rfl | 4, _ => rfl | 5, _ => rfl | 6, _ => rfl | j_ + 7, h => absurd h (by omega)) ⟨gle rfl, gle rfl⟩ d_FB_init_16 (fun q16 => ?_)
  refine gy_last ?_
  refine gx_dup K d_FB_init_19 rfl ?_
  refine gx_IN K (z_Rep_init) Y_Rep_init rfl k100 k99 rfl ⟨gle rfl, gle rfl⟩ ⟨gle rfl, gle rfl⟩ (gle rfl) d_FB_init_20 (fun v1 w1 hp => ?_)
  obtain ⟨r1, r2, r3, r4, r5, rfl, rfl⟩ := hp
  refine gx_putF K f_FB_19 ft_FB rfl hin rfl (q0 := 12) rfl rfl rfl (gle rfl) d_FB_init_23 ?_
  refine gx_aload_n K d_FB_init_26 rfl rfl ?_
  refine gx_new K (ci := 5) (fs := [.null, .null, .null, .null, .null, .null, .null, .null, .int 0, .int 0, .int 0, .long 0, .int 0]) rfl in_Rev ft_Rev k152 k153 k7 (fun j h => match j, h with | 0, _ => rfl | 1, _ => rfl | 2, _ => rfl | 3, _ => rfl | 4, _ => rfl | 5, _ => rfl | 6, _ => rfl | 7, _ => rfl | 8, _ => rfl | 9, _ => rfl | 10, _ => rfl | 11, _ => rfl | 12, _ => rfl | j_ + 13, h => absurd h (by omega)) ⟨gle rfl, gle rfl⟩ d_FB_init_27 (fun q27 => ?_)
  refine gy_last ?_
  refine gx_dup K d_FB_init_30 rfl ?_
  refine gx_aload_n K d_FB_init_31 rfl rfl ?_
  refine gx_get K f_FB_12 (q0 := 13) rfl rfl d_FB_init_32 ?_
  refine gx_aload_n K d_FB_init_35 rfl rfl ?_
  refine gx_get K f_FB_19 (q0 := 13) rfl rfl d_FB_init_36 ?_
  refine gx_IN K (z_Rev_init q5 q16) Y_Rev_init rfl k155 k154 rfl ⟨gle rfl, gle rfl⟩ ⟨gle rfl, gle rfl⟩ (gle rfl) d_FB_init_39 (fun v1 w1 hp => ?_)
  obtain ⟨g1, g2, g3, g4, g5, g6, rfl, rfl⟩ := hp
  refine gx_putF K f_FB_28 ft_FB rfl hin rfl (q0 := 19) rfl rfl rfl (gle rfl) d_FB_init_42 ?_
  refine gx_perm (w1 := fbW (fun i => List.getD [q, q5, t1, t2, t3, t4, q16, r1, r2, r3, r4, r5, q27, g1, g2, g3, g4, g5, g6] i 0) ty (fun _ => 0) (fun _ => 0) 0 0 (fun _ _ => none) t5 (fun _ => 0) (fun _ _ => false) (fun _ _ => 0) 0 false 0 0 false ((t5, .inr (7, [.int 0, .int 0, .int (b2i false)])) :: ws)) fb_pm id (fun i q hq => match i, hq with | 0, hq => hq | 1, hq => hq | 2, hq => hq | 3, hq => hq | 4, hq => hq | 5, hq => hq | 6, hq => hq | 7, hq => hq | 8, hq => hq | 9, hq => hq | 10, hq => hq | 11, hq => hq | 12, hq => hq | 13, hq => hq | 14, hq => hq | 15, hq => hq | 16, hq => hq | 17, hq => hq | 18, hq => hq | 19, hq => hq | i + 20, hq => by rw [fb_pm_hi (by omega)]; exact hq) (fun i j _ _ h => fb_pm_inj i j h) ?_
  exact gx_vret K hr hlk d_FB_init_45 ⟨(fun i => List.getD [q, q5, t1, t2, t3, t4, q16, r1, r2, r3, r4, r5, q27, g1, g2, g3, g4, g5, g6] i 0), t5, rfl, rfl, rfl⟩

