section GM
variable {p : Program} {l : Launch} {e : Env} {R : Room} {s : State} {m : MethodId} {args : Array Value} {below : List Frame} {meth : Method} {c : Code} {Q : State → Prop} {k n : Nat}
variable {cc : ByteArray} {nL : Nat} {own : String} {D : va_G} {ty : Nat → ClassId} {tt : Nat} {A : Nat → Prop} {ws : va_W} {L : List (Option Value)} {st : List Value} {pc : Nat}
theorem pe_at {α : Type} (ws : List α) (x : α) : (ws ++ [x])[ws.length]? = some x := by rw [List.getElem?_append_right (Nat.le_refl _), Nat.sub_self]; rfl
theorem gy_last {x : Nat × va_E} (h : gG p l e R s m args below meth c nL D (A) (Q) (k) (n) (x :: ws) (L) (st) (pc)) : gG p l e R s m args below meth c nL D (A) (Q) (k) (n) (ws ++ [x]) (L) (st) (pc) := by
  refine gx_perm (fun i => if i = 0 then ws.length else i - 1) id (fun i q hq => ?_) (fun i j hi hj hf => ?_) h
  · rcases i with _ | i
    · simp only [if_true]
      rw [pe_at]
      exact hq
    · have hq2 : ws[i]? = some q := hq
      simp only [Nat.add_eq_zero_iff, Nat.one_ne_zero, and_false, if_false, Nat.add_sub_cancel]
      rw [List.getElem?_append_left (List.getElem?_eq_some_iff.mp hq2).1]
      exact hq2
  · simp only [List.length_cons] at hi hj
    try dsimp only at hf
    split at hf <;> split at hf <;> omega
theorem gy_first {x : Nat × va_E} (h : gG p l e R s m args below meth c nL D (A) (Q) (k) (n) (ws ++ [x]) (L) (st) (pc)) : gG p l e R s m args below meth c nL D (A) (Q) (k) (n) (x :: ws) (L) (st) (pc) := by
  refine gx_perm (fun i => if i < ws.length then i + 1 else 0) id (fun i q hq => ?_) (fun i j hi hj hf => ?_) h
  · by_cases h1 : i < ws.length
    · rw [List.getElem?_append_left h1] at hq
      simp only [h1, if_true]
      exact hq
    · have h2 : i = ws.length := by
        have h3 := (List.getElem?_eq_some_iff.mp hq).1
        rw [List.length_append] at h3
        simp only [List.length_cons, List.length_nil] at h3
        omega
      rw [h2, pe_at] at hq
      simp only [h1, if_false]
      exact hq
  · rw [List.length_append] at hi hj
    simp only [List.length_cons, List.length_nil] at hi hj
    try dsimp only at hf
    split at hf <;> split at hf <;> omega
variable {y : MethodName} {b : ByteArray} {mL : Nat} {d : Nat} {av : List Value} {s0 : List Value} {idx : Nat} {w1 : va_W}
theorem gx_Idv (K : gK p s m args c cc nL own D ty tt A) {b0 : Nat} (hM : Cd l y b mL none d D ty tt (.ref b0 :: av) ws none w1) (Y : gY y b mL none av.length) (hin : y.name = "<init>") (hx : Cond.instanceMethod y ∈ gB) (hl : Cond.methodLink own idx y ∈ gB) (hs : s0 = av.reverse ++ .ref b0 :: st) (hR : d + 1 ≤ R.frames ∧ 8 + (mL + 11) + 40 * d ≤ R.locals) (hc : k ≤ R.cells ∧ n ≤ R.slots) (hw : (st.map fun v => v.category).sum ≤ 8) (hd : decode cc pc = .ok (.invokespecial idx, 3)) (kk : gG p l e R s m args below meth c nL D (A) (Q) (k) (n) (w1) (L) (st) (pc + 3)) : gG p l e R s m args below meth c nL D (A) (Q) (k) (n) (ws) (L) (s0) (pc) :=
  gx_I K hM Y hin hx hl hs hR ⟨hc.1, hc.2⟩ hw hd (fun v w hp => by
    obtain ⟨rfl, rfl⟩ := hp
    exact kk)
theorem gx_INdv (K : gK p s m args c cc nL own D ty tt A) {b0 : Nat} (hM : Cd l y b mL none d D ty tt (.ref b0 :: av) ws none w1) (Y : gY y b mL none av.length) (hin : y.name = "<init>") (hx : Cond.instanceMethod y ∈ gB) {host : String} (hl : Cond.methodLinkNest own idx y host ∈ gN) (hs : s0 = av.reverse ++ .ref b0 :: st) (hR : d + 1 ≤ R.frames ∧ 8 + (mL + 11) + 40 * d ≤ R.locals) (hc : k ≤ R.cells ∧ n ≤ R.slots) (hw : (st.map fun v => v.category).sum ≤ 8) (hd : decode cc pc = .ok (.invokespecial idx, 3)) (kk : gG p l e R s m args below meth c nL D (A) (Q) (k) (n) (w1) (L) (st) (pc + 3)) : gG p l e R s m args below meth c nL D (A) (Q) (k) (n) (ws) (L) (s0) (pc) :=
  gx_IN K hM Y hin hx hl hs hR ⟨hc.1, hc.2⟩ hw hd (fun v w hp => by
    obtain ⟨rfl, rfl⟩ := hp
    exact kk)
end GM
set_option maxRecDepth 100000 in
set_option maxHeartbeats 1000000 in
theorem z_Con_init {l : Launch} {D : va_G} {ty : Nat → ClassId} {tt : Nat} {ws : va_W} {q : Nat} (x y z v : Int32) : Cd l y_Con_init c_Con_init 5 none 1 D ty tt [.ref q, .int x, .int y, .int z, .int v] ((q, .inr (6, [.int 0, .int 0, .int 0, .int 0])) :: ws) none ((q, .inr (6, [.int x, .int y, .int z, .int v])) :: ws) := by
  refine Ct_of (by decide) (gle rfl) (fun p e s m args below meth c K hr hlk hin => ?_)
  refine gx_aload_n K d_Con_init_0 rfl rfl ?_
  refine gx_objInit K k258 k21 k22 ⟨gle rfl, gle rfl⟩ d_Con_init_1 ?_
  refine gx_aload_n K d_Con_init_4 rfl rfl ?_
  refine gx_iload_n K d_Con_init_5 rfl rfl ?_
  refine gx_putF K f_Con_7 ft_Con rfl hin rfl (q0 := 0) rfl rfl rfl (gle rfl) d_Con_init_6 ?_
  refine gx_aload_n K d_Con_init_9 rfl rfl ?_
  refine gx_iload_n K d_Con_init_10 rfl rfl ?_
  refine gx_putF K f_Con_13 ft_Con rfl hin rfl (q0 := 0) rfl rfl rfl (gle rfl) d_Con_init_11 ?_
  refine gx_aload_n K d_Con_init_14 rfl rfl ?_
  refine gx_iload_n K d_Con_init_15 rfl rfl ?_
  refine gx_putF K f_Con_16 ft_Con rfl hin rfl (q0 := 0) rfl rfl rfl (gle rfl) d_Con_init_16 ?_
  refine gx_aload_n K d_Con_init_19 rfl rfl ?_
  refine gx_iload K d_Con_init_20 rfl ?_
  refine gx_putF K f_Con_19 ft_Con rfl hin rfl (q0 := 0) rfl rfl rfl (gle rfl) d_Con_init_22 ?_
  exact gx_vret K hr hlk d_Con_init_25 ⟨rfl, rfl⟩

set_option maxRecDepth 100000 in
set_option maxHeartbeats 1000000 in
theorem z_Set_init {l : Launch} {D : va_G} {ty : Nat → ClassId} {tt : Nat} {ws : va_W} {q : Nat} (x y : Int32) (ph : Bool) : Cd l y_Set_init c_Set_init 4 none 1 D ty tt [.ref q, .int x, .int y, .int (b2i ph)] ((q, .inr (7, [.int 0, .int 0, .int 0])) :: ws) none ((q, .inr (7, [.int x, .int y, .int (b2i ph)])) :: ws) := by
  refine Ct_of (by decide) (gle rfl) (fun p e s m args below meth c K hr hlk hin => ?_)
  refine gx_aload_n K d_Set_init_0 rfl rfl ?_
  refine gx_objInit K k55 k21 k22 ⟨gle rfl, gle rfl⟩ d_Set_init_1 ?_
  refine gx_aload_n K d_Set_init_4 rfl rfl ?_
  refine gx_iload_n K d_Set_init_5 rfl rfl ?_
  refine gx_putF K f_Set_7 ft_Set rfl hin rfl (q0 := 0) rfl rfl rfl (gle rfl) d_Set_init_6 ?_
  refine gx_aload_n K d_Set_init_9 rfl rfl ?_
  refine gx_iload_n K d_Set_init_10 rfl rfl ?_
  refine gx_putF K f_Set_13 ft_Set rfl hin rfl (q0 := 0) rfl rfl rfl (gle rfl) d_Set_init_11 ?_
  refine gx_aload_n K d_Set_init_14 rfl rfl ?_
  refine gx_iload_n K d_Set_init_15 rfl rfl ?_
  refine gx_putF K f_Set_16 ft_Set rfl hin rfl (q0 := 0) rfl (b2i_narrow _) (b2i_fits _) (gle rfl) d_Set_init_16 ?_
  exact gx_vret K hr hlk d_Set_init_19 ⟨rfl, rfl⟩

set_option maxRecDepth 100000 in
set_option maxHeartbeats 1000000 in
theorem z_Arc_init {l : Launch} {D : va_G} {ty : Nat → ClassId} {tt : Nat} {ws : va_W} {q : Nat} (x y z v u : Int32) (t0 : Nat) : Cd l y_Arc_init c_Arc_init 7 none 1 D ty tt [.ref q, .int x, .int y, .int z, .int v, .int u, .ref t0] ((q, .inr (8, [.int 0, .int 0, .int 0, .int 0, .int 0, .null])) :: ws) none ((q, .inr (8, [.int x, .int y, .int z, .int v, .int u, .ref t0])) :: ws) := by
  refine Ct_of (by decide) (gle rfl) (fun p e s m args below meth c K hr hlk hin => ?_)
  refine gx_aload_n K d_Arc_init_0 rfl rfl ?_
  refine gx_objInit K k301 k21 k22 ⟨gle rfl, gle rfl⟩ d_Arc_init_1 ?_
  refine gx_aload_n K d_Arc_init_4 rfl rfl ?_
  refine gx_iload_n K d_Arc_init_5 rfl rfl ?_
  refine gx_putF K f_Arc_7 ft_Arc rfl hin rfl (q0 := 0) rfl rfl rfl (gle rfl) d_Arc_init_6 ?_
  refine gx_aload_n K d_Arc_init_9 rfl rfl ?_
  refine gx_iload_n K d_Arc_init_10 rfl rfl ?_
  refine gx_putF K f_Arc_13 ft_Arc rfl hin rfl (q0 := 0) rfl rfl rfl (gle rfl) d_Arc_init_11 ?_
  refine gx_aload_n K d_Arc_init_14 rfl rfl ?_
  refine gx_iload_n K d_Arc_init_15 rfl rfl ?_
  refine gx_putF K f_Arc_16 ft_Arc rfl hin rfl (q0 := 0) rfl rfl rfl (gle rfl) d_Arc_init_16 ?_
  refine gx_aload_n K d_Arc_init_19 rfl rfl ?_
  refine gx_iload K d_Arc_init_20 rfl ?_
  refine gx_putF K f_Arc_19 ft_Arc rfl hin rfl (q0 := 0) rfl rfl rfl (gle rfl) d_Arc_init_22 ?_
  refine gx_aload_n K d_Arc_init_25 rfl rfl ?_
  refine gx_iload K d_Arc_init_26 rfl ?_
  refine gx_putF K f_Arc_22 ft_Arc rfl hin rfl (q0 := 0) rfl rfl rfl (gle rfl) d_Arc_init_28 ?_
  refine gx_aload_n K d_Arc_init_31 rfl rfl ?_
  refine gx_aload K d_Arc_init_32 rfl ?_
  refine gx_putF K f_Arc_25 ft_Arc rfl hin rfl (q0 := 0) rfl rfl rfl (gle rfl) d_Arc_init_34 ?_
  exact gx_vret K hr hlk d_Arc_init_37 ⟨rfl, rfl⟩

set_option maxRecDepth 100000 in
set_option maxHeartbeats 1000000 in
theorem z_Ctx_init {l : Launch} {D : va_G} {ty : Nat → ClassId} {tt : Nat} {ws : va_W} {q : Nat} (x y z v : Int32) : Cd l y_Ctx_init c_Ctx_init 5 none 1 D ty tt [.ref q, .int x, .int y, .int z, .int v] ((q, .inr (9, [.int 0, .int 0, .int 0, .int 0])) :: ws) none ((q, .inr (9, [.int x, .int y, .int z, .int v])) :: ws) := by
  refine Ct_of (by decide) (gle rfl) (fun p e s m args below meth c K hr hlk hin => ?_)
  refine gx_aload_n K d_Ctx_init_0 rfl rfl ?_
  refine gx_objInit K k349 k21 k22 ⟨gle rfl, gle rfl⟩ d_Ctx_init_1 ?_
  refine gx_aload_n K d_Ctx_init_4 rfl rfl ?_
  refine gx_iload_n K d_Ctx_init_5 rfl rfl ?_
  refine gx_putF K f_Ctx_9 ft_Ctx rfl hin rfl (q0 := 0) rfl rfl rfl (gle rfl) d_Ctx_init_6 ?_
  refine gx_aload_n K d_Ctx_init_9 rfl rfl ?_
  refine gx_iload_n K d_Ctx_init_10 rfl rfl ?_
  refine gx_putF K f_Ctx_15 ft_Ctx rfl hin rfl (q0 := 0) rfl rfl rfl (gle rfl) d_Ctx_init_11 ?_
  refine gx_aload_n K d_Ctx_init_14 rfl rfl ?_
  refine gx_iload_n K d_Ctx_init_15 rfl rfl ?_
  refine gx_putF K f_Ctx_18 ft_Ctx rfl hin rfl (q0 := 0) rfl rfl rfl (gle rfl) d_Ctx_init_16 ?_
  refine gx_aload_n K d_Ctx_init_19 rfl rfl ?_
  refine gx_iload K d_Ctx_init_20 rfl ?_
  refine gx_putF K f_Ctx_21 ft_Ctx rfl hin rfl (q0 := 0) rfl rfl rfl (gle rfl) d_Ctx_init_22 ?_
  exact gx_vret K hr hlk d_Ctx_init_25 ⟨rfl, rfl⟩

set_option maxRecDepth 100000 in
set_option maxHeartbeats 1000000 in
theorem z_Uni_init {l : Launch} {D : va_G} {ty : Nat → ClassId} {tt : Nat} {ws : va_W} {q : Nat} (x y z : Int32) : Cd l y_Uni_init c_Uni_init 4 none 1 D ty tt [.ref q, .int x, .int y, .int z] ((q, .inr (10, [.int 0, .int 0, .int 0])) :: ws) none ((q, .inr (10, [.int x, .int y, .int z])) :: ws) := by
  refine Ct_of (by decide) (gle rfl) (fun p e s m args below meth c K hr hlk hin => ?_)
  refine gx_aload_n K d_Uni_init_0 rfl rfl ?_
  refine gx_objInit K k375 k21 k22 ⟨gle rfl, gle rfl⟩ d_Uni_init_1 ?_
  refine gx_aload_n K d_Uni_init_4 rfl rfl ?_
  refine gx_iload_n K d_Uni_init_5 rfl rfl ?_
  refine gx_putF K f_Uni_9 ft_Uni rfl hin rfl (q0 := 0) rfl rfl rfl (gle rfl) d_Uni_init_6 ?_
  refine gx_aload_n K d_Uni_init_9 rfl rfl ?_
  refine gx_iload_n K d_Uni_init_10 rfl rfl ?_
  refine gx_putF K f_Uni_15 ft_Uni rfl hin rfl (q0 := 0) rfl rfl rfl (gle rfl) d_Uni_init_11 ?_
  refine gx_aload_n K d_Uni_init_14 rfl rfl ?_
  refine gx_iload_n K d_Uni_init_15 rfl rfl ?_
  refine gx_putF K f_Uni_18 ft_Uni rfl hin rfl (q0 := 0) rfl rfl rfl (gle rfl) d_Uni_init_16 ?_
  exact gx_vret K hr hlk d_Uni_init_19 ⟨rfl, rfl⟩

theorem con_in (y z : Int32) : (decide (z = 0) || (decide (y = 2) && m_in z 1 2)) = m_in z 0 (if y = 2 then 2 else 0) := by
  have h0 : ∀ c : Int32, (c = 0) = (c.toInt = 0) := fun c => propext ⟨fun h => by rw [h]; rfl, fun h => Int32.toInt_inj.mp h⟩
  unfold m_in
  rw [Bool.eq_iff_iff]
  simp only [Bool.or_eq_true, Bool.and_eq_true, decide_eq_true_eq, Int32.le_iff_toInt_le, h0 z]
  have e0 : (0 : Int32).toInt = 0 := rfl
  have e1 : (1 : Int32).toInt = 1 := rfl
  have e2 : (2 : Int32).toInt = 2 := rfl
  by_cases h : y = 2
  · simp only [h, if_true, e0, e1, e2, true_and]; omega
  · simp only [h, if_false, e0, e1, e2, false_and, or_false]; omega
theorem con_eq {N : Nat → Nat} (x1 x2 x3 x4 : Int32) : k_con N x1 x2 x3 x4 = ((m_in x1 0 7 && (m_in x2 0 2 && (m_in x3 0 (if x2 = 2 then 2 else 0) && m_in x4 0 1))) && decide (N 0 < 16)) := by
  unfold k_con
  rw [con_in]
  simp only [Bool.and_assoc]
set_option maxRecDepth 100000 in
set_option maxHeartbeats 1000000 in
theorem z_Tax_addConcept {l : Launch} {D : va_G} {ty : Nat → ClassId} {tt : Nat} {a : Nat → Nat} {N : Nat → Nat} {r : Nat → Int32} {en re : Int32} {O : Nat → Nat → Option Nat} {z : Nat} {tx : Nat → Int32} {X : Nat → Nat → Bool} {Y : Nat → Nat → Int32} {fc : Nat} {sl : Bool} {pt : Int32} {tot : Int64} {hv : Bool} {rest : va_W} (hN : mN N) (x1 x2 x3 x4 : Int32) : Ct l y_Tax_addConcept c_Tax_addConcept 6 (some .int) 2 1 4 D ty tt [.ref (a 1), .int x1, .int x2, .int x3, .int x4] (fbW a ty N r en re O z tx X Y fc sl pt tot hv rest) (fun v1 w1 => ∃ q : Nat, v1 = some (.int (if k_con N x1 x2 x3 x4 = true then nI (N 0) else -1)) ∧ w1 = (if k_con N x1 x2 x3 x4 = true then (fbW a ty (va_up N 0 (N 0 + 1)) r en re (va_up O 0 (va_up (O 0) (N 0) (some q))) z tx X Y fc sl pt tot hv (rest ++ [(q, .inr (6, [.int x1, .int x2, .int x3, .int x4]))])) else (fbW a ty N r en re O z tx X Y fc sl pt tot hv rest))) := by
  obtain ⟨n0, n1, n2, n3, n4, n5⟩ := id hN
  refine Ct_of (by decide) (gle rfl) (fun p e s m args below meth c K hr hlk hin => ?_)
  refine gx_cut (X := m_in x1 0 7 && (m_in x2 0 2 && (m_in x3 0 (if x2 = 2 then 2 else 0) && m_in x4 0 1))) 49 ?_ (fun j49 => ?_)
  · skip
    refine gx_istore K d_Tax_addConcept_49 (gle rfl) rfl ?_
    refine gx_iload K d_Tax_addConcept_51 rfl ?_
    refine gx_if_eqB K d_Tax_addConcept_53 rfl (fun h53 => ?_) (fun h53 => ?_)
    · skip
      refine gx_iconst (v := -1) K d_Tax_addConcept_65 rfl ?_
      refine gx_wide (k1 := 1) (n1 := 4) (gle rfl) (gle rfl) ?_
      exact gx_iret K hr hlk d_Tax_addConcept_66 ⟨0, by rw [show k_con N x1 x2 x3 x4 = false from (by rw [con_eq, h53]; rfl)]; rfl, by rw [show k_con N x1 x2 x3 x4 = false from (by rw [con_eq, h53]; rfl)]; rfl⟩
    · skip
      refine gx_aload_n K d_Tax_addConcept_56 rfl rfl ?_
      refine gx_get K f_Tax_39 (q0 := 1) rfl rfl d_Tax_addConcept_57 ?_
      refine gx_bipush (v := 16) K d_Tax_addConcept_60 rfl ?_
      refine gx_icmp_lt K d_Tax_addConcept_62 rfl (fun h62 => ?_) (fun h62 => ?_)
      · skip
        have h62n : N 0 < 16 := (nI_ltI (a := N 0) (b := 16) (by omega) (by omega)).mp h62
        refine gx_aload_n K d_Tax_addConcept_67 rfl rfl ?_
        refine gx_get K f_Tax_20 (q0 := 1) rfl rfl d_Tax_addConcept_68 ?_
        refine gx_aload_n K d_Tax_addConcept_71 rfl rfl ?_
        refine gx_get K f_Tax_39 (q0 := 1) rfl rfl d_Tax_addConcept_72 ?_
        have hk : k_con N x1 x2 x3 x4 = true := by rw [con_eq, h53, decide_eq_true h62n]; rfl
        refine gx_new K (ci := 6) (fs := [.int 0, .int 0, .int 0, .int 0]) rfl in_Con ft_Con k46 k254 k9 (fun j h => match j, h with | 0, _ => rfl | 1, _ => rfl | 2, _ => rfl | 3, _ => rfl | j_ + 4, h => absurd h (by omega)) ⟨gle rfl, gle rfl⟩ d_Tax_addConcept_75 (fun q75 => ?_)
        refine gx_ws (w1 := (fbW a ty N r en re O z tx X Y fc sl pt tot hv (rest ++ [(q75, .inr (6, [.int 0, .int 0, .int 0, .int 0]))]))) rfl ?_
        refine gx_dup K d_Tax_addConcept_78 rfl ?_
        refine gx_iload_n K d_Tax_addConcept_79 rfl rfl ?_
        refine gx_iload_n K d_Tax_addConcept_80 rfl rfl ?_
        refine gx_iload_n K d_Tax_addConcept_81 rfl rfl ?_
        refine gx_iload K d_Tax_addConcept_82 rfl ?_
        refine gx_ws (w1 := (fbW a ty N r en re O z tx X Y fc sl pt tot hv rest) ++ [(q75, .inr (6, [.int 0, .int 0, .int 0, .int 0]))]) rfl ?_
        refine gy_last ?_
        refine gx_INdv K (z_Con_init x1 x2 x3 x4) Y_Con_init rfl k256 k255 rfl ⟨gle rfl, gle rfl⟩ ⟨gle rfl, gle rfl⟩ (gle rfl) d_Tax_addConcept_84 ?_
        refine gy_first ?_
        refine gx_ws (w1 := (fbW a ty N r en re O z tx X Y fc sl pt tot hv (rest ++ [(q75, .inr (6, [.int x1, .int x2, .int x3, .int x4]))]))) rfl ?_
        refine gx_aast K (t := 4) rfl rfl (q0 := 4) rfl (fb_pl (pe_at rest _)) rfl (by omega) (by decide) d_Tax_addConcept_87 ?_
        refine gx_ws (w1 := (fbW a ty N r en re (va_up O 0 (va_up (O 0) (N 0) (some q75))) z tx X Y fc sl pt tot hv (rest ++ [(q75, .inr (6, [.int x1, .int x2, .int x3, .int x4]))]))) rfl ?_
        refine gx_aload_n K d_Tax_addConcept_88 rfl rfl ?_
        refine gx_dup K d_Tax_addConcept_89 rfl ?_
        refine gx_get K f_Tax_39 (q0 := 1) rfl rfl d_Tax_addConcept_90 ?_
        refine gx_dup_x1 K d_Tax_addConcept_93 rfl rfl ?_
        refine gx_iconst (v := 1) K d_Tax_addConcept_94 rfl ?_
        refine gx_iaddN K (N 0) (1) d_Tax_addConcept_95 ?_
        refine gx_put K f_Tax_39 ft_Tax rfl (q0 := 1) rfl rfl rfl (gle rfl) d_Tax_addConcept_96 ?_
        refine gx_ws (w1 := (fbW a ty (va_up N 0 (N 0 + 1)) r en re (va_up O 0 (va_up (O 0) (N 0) (some q75))) z tx X Y fc sl pt tot hv (rest ++ [(q75, .inr (6, [.int x1, .int x2, .int x3, .int x4]))]))) rfl ?_
        exact gx_iret K hr hlk d_Tax_addConcept_99 ⟨q75, congrArg (fun t => some (Value.int t)) (if_pos hk).symm, (if_pos hk).symm⟩
      · skip
        have h62n : ¬ N 0 < 16 := fun q => h62 ((nI_ltI (a := N 0) (b := 16) (by omega) (by omega)).mpr q)
        refine gx_iconst (v := -1) K d_Tax_addConcept_65 rfl ?_
        refine gx_wide (k1 := 1) (n1 := 4) (gle rfl) (gle rfl) ?_
        exact gx_iret K hr hlk d_Tax_addConcept_66 ⟨0, by rw [show k_con N x1 x2 x3 x4 = false from (by rw [con_eq, decide_eq_false h62n, Bool.and_false])]; rfl, by rw [show k_con N x1 x2 x3 x4 = false from (by rw [con_eq, decide_eq_false h62n, Bool.and_false])]; rfl⟩
  · skip
    refine gx_iload_n K d_Tax_addConcept_0 rfl rfl ?_
    refine gx_SNd K (z_Doc_exists _) Y_Doc_exists k223 k252 rfl ⟨gle rfl, gle rfl⟩ ⟨gle rfl, gle rfl⟩ (gle rfl) d_Tax_addConcept_1 ?_
    refine gx_if_eqB K d_Tax_addConcept_4 rfl (fun h4 => ?_) (fun h4 => ?_)
    · skip
      refine gx_iconst (v := b2i false) K d_Tax_addConcept_48 rfl ?_
      exact j49 _ (by simp [h4])
    · skip
      refine gx_iload_n K d_Tax_addConcept_7 rfl rfl ?_
      refine gx_iconst (v := 0) K d_Tax_addConcept_8 rfl ?_
      refine gx_iconst (v := 2) K d_Tax_addConcept_9 rfl ?_
      refine gx_SNd K (z_FB_within _ _ _ _) Y_FB_within k226 k253 rfl ⟨gle rfl, gle rfl⟩ ⟨gle rfl, gle rfl⟩ (gle rfl) d_Tax_addConcept_10 ?_
      refine gx_if_eqB K d_Tax_addConcept_13 rfl (fun h13 => ?_) (fun h13 => ?_)
      · skip
        refine gx_iconst (v := b2i false) K d_Tax_addConcept_48 rfl ?_
        exact j49 _ (by simp [h4, h13])
      · skip
        refine gx_iload_n K d_Tax_addConcept_16 rfl rfl ?_
        refine gx_iconst (v := 0) K d_Tax_addConcept_17 rfl ?_
        refine gx_cutI (X := if x2 = 2 then (2 : Int32) else 0) 28 ?_ (fun j28 => ?_)
        · skip
          refine gx_SNd K (z_FB_within _ _ _ _) Y_FB_within k226 k253 rfl ⟨gle rfl, gle rfl⟩ ⟨gle rfl, gle rfl⟩ (gle rfl) d_Tax_addConcept_28 ?_
          refine gx_if_eqB K d_Tax_addConcept_31 rfl (fun h31 => ?_) (fun h31 => ?_)
          · skip
            refine gx_iconst (v := b2i false) K d_Tax_addConcept_48 rfl ?_
            exact j49 _ (by simp [h4, h13, h31])
          · skip
            refine gx_iload K d_Tax_addConcept_34 rfl ?_
            refine gx_iconst (v := 0) K d_Tax_addConcept_36 rfl ?_
            refine gx_iconst (v := 1) K d_Tax_addConcept_37 rfl ?_
            refine gx_SNd K (z_FB_within _ _ _ _) Y_FB_within k226 k253 rfl ⟨gle rfl, gle rfl⟩ ⟨gle rfl, gle rfl⟩ (gle rfl) d_Tax_addConcept_38 ?_
            refine gx_if_eqB K d_Tax_addConcept_41 rfl (fun h41 => ?_) (fun h41 => ?_)
            · skip
              refine gx_iconst (v := b2i false) K d_Tax_addConcept_48 rfl ?_
              exact j49 _ (by simp [h4, h13, h31, h41])
            · skip
              refine gx_iconst (v := b2i true) K d_Tax_addConcept_44 rfl ?_
              refine gx_goto K d_Tax_addConcept_45 rfl ?_
              exact j49 _ (by simp [h4, h13, h31, h41])
        · skip
          refine gx_iload_n K d_Tax_addConcept_18 rfl rfl ?_
          refine gx_iconst (v := 2) K d_Tax_addConcept_19 rfl ?_
          refine gx_icmp_ne K d_Tax_addConcept_20 rfl (fun h20 => ?_) (fun h20 => ?_)
          · skip
            refine gx_iconst (v := 0) K d_Tax_addConcept_27 rfl ?_
            exact j28 _ (by simp [h4, h13, h20])
          · skip
            refine gx_iconst (v := 2) K d_Tax_addConcept_23 rfl ?_
            refine gx_goto K d_Tax_addConcept_24 rfl ?_
            exact j28 _ (by simp [h4, h13, h20])

theorem arc_eq {N : Nat → Nat} (x1 x2 x3 x4 x5 : Int32) : k_arc N x1 x2 x3 x4 x5 = ((m_in x1 0 7 && (m_in x2 0 1 && (m_in x3 0 (nI (N 0) - 1) && (m_in x4 0 (nI (N 0) - 1) && (m_in x5 (-90) 90 && !decide (x5 = 0)))))) && decide (N 1 < 32)) := by
  unfold k_arc
  simp only [Bool.and_assoc]
set_option maxRecDepth 100000 in
set_option maxHeartbeats 1000000 in
theorem z_Tax_addArc {l : Launch} {D : va_G} {ty : Nat → ClassId} {tt : Nat} {a : Nat → Nat} {N : Nat → Nat} {r : Nat → Int32} {en re : Int32} {O : Nat → Nat → Option Nat} {z : Nat} {tx : Nat → Int32} {X : Nat → Nat → Bool} {Y : Nat → Nat → Int32} {fc : Nat} {sl : Bool} {pt : Int32} {tot : Int64} {hv : Bool} {rest : va_W} (hN : mN N) (x1 x2 x3 x4 x5 : Int32) : Ct l y_Tax_addArc c_Tax_addArc 7 (some .int) 2 1 6 D ty tt [.ref (a 1), .int x1, .int x2, .int x3, .int x4, .int x5] (fbW a ty N r en re O z tx X Y fc sl pt tot hv rest) (fun v1 w1 => ∃ q : Nat, v1 = some (.int (if k_arc N x1 x2 x3 x4 x5 = true then nI (N 1) else -1)) ∧ w1 = (if k_arc N x1 x2 x3 x4 x5 = true then (fbW a ty (va_up N 1 (N 1 + 1)) r en re (va_up O 1 (va_up (O 1) (N 1) (some q))) z tx X Y fc sl pt tot hv (rest ++ [(q, .inr (8, [.int x1, .int x2, .int x3, .int x4, .int x5, .ref z]))])) else (fbW a ty N r en re O z tx X Y fc sl pt tot hv rest))) := by
  obtain ⟨n0, n1, n2, n3, n4, n5⟩ := id hN
  refine Ct_of (by decide) (gle rfl) (fun p e s m args below meth c K hr hlk hin => ?_)
  refine gx_cut (X := m_in x1 0 7 && (m_in x2 0 1 && (m_in x3 0 (nI (N 0) - 1) && (m_in x4 0 (nI (N 0) - 1) && (m_in x5 (-90) 90 && !decide (x5 = 0)))))) 55 ?_ (fun j55 => ?_)
  · skip
    refine gx_istore K d_Tax_addArc_55 (gle rfl) rfl ?_
    refine gx_iload K d_Tax_addArc_57 rfl ?_
    refine gx_if_eqB K d_Tax_addArc_59 rfl (fun h59 => ?_) (fun h59 => ?_)
    · skip
      refine gx_iconst (v := -1) K d_Tax_addArc_71 rfl ?_
      refine gx_wide (k1 := 1) (n1 := 6) (gle rfl) (gle rfl) ?_
      exact gx_iret K hr hlk d_Tax_addArc_72 ⟨0, by rw [show k_arc N x1 x2 x3 x4 x5 = false from (by rw [arc_eq, h59]; rfl)]; rfl, by rw [show k_arc N x1 x2 x3 x4 x5 = false from (by rw [arc_eq, h59]; rfl)]; rfl⟩
    · skip
      refine gx_aload_n K d_Tax_addArc_62 rfl rfl ?_
      refine gx_get K f_Tax_47 (q0 := 1) rfl rfl d_Tax_addArc_63 ?_
      refine gx_bipush (v := 32) K d_Tax_addArc_66 rfl ?_
      refine gx_icmp_lt K d_Tax_addArc_68 rfl (fun h68 => ?_) (fun h68 => ?_)
      · skip
        have h68n : N 1 < 32 := (nI_ltI (a := N 1) (b := 32) (by omega) (by omega)).mp h68
        refine gx_aload_n K d_Tax_addArc_73 rfl rfl ?_
        refine gx_get K f_Tax_26 (q0 := 1) rfl rfl d_Tax_addArc_74 ?_
        refine gx_aload_n K d_Tax_addArc_77 rfl rfl ?_
        refine gx_get K f_Tax_47 (q0 := 1) rfl rfl d_Tax_addArc_78 ?_
        have hk : k_arc N x1 x2 x3 x4 x5 = true := by rw [arc_eq, h59, decide_eq_true h68n]; rfl
        refine gx_new K (ci := 8) (fs := [.int 0, .int 0, .int 0, .int 0, .int 0, .null]) rfl in_Arc ft_Arc k48 k297 k10 (fun j h => match j, h with | 0, _ => rfl | 1, _ => rfl | 2, _ => rfl | 3, _ => rfl | 4, _ => rfl | 5, _ => rfl | j_ + 6, h => absurd h (by omega)) ⟨gle rfl, gle rfl⟩ d_Tax_addArc_81 (fun q81 => ?_)
        refine gx_ws (w1 := (fbW a ty N r en re O z tx X Y fc sl pt tot hv (rest ++ [(q81, .inr (8, [.int 0, .int 0, .int 0, .int 0, .int 0, .null]))]))) rfl ?_
        refine gx_dup K d_Tax_addArc_84 rfl ?_
        refine gx_iload_n K d_Tax_addArc_85 rfl rfl ?_
        refine gx_iload_n K d_Tax_addArc_86 rfl rfl ?_
        refine gx_iload_n K d_Tax_addArc_87 rfl rfl ?_
        refine gx_iload K d_Tax_addArc_88 rfl ?_
        refine gx_iload K d_Tax_addArc_90 rfl ?_
        refine gx_aload_n K d_Tax_addArc_92 rfl rfl ?_
        refine gx_get K f_Tax_35 (q0 := 1) rfl rfl d_Tax_addArc_93 ?_
        refine gx_ws (w1 := (fbW a ty N r en re O z tx X Y fc sl pt tot hv rest) ++ [(q81, .inr (8, [.int 0, .int 0, .int 0, .int 0, .int 0, .null]))]) rfl ?_
        refine gy_last ?_
        refine gx_INdv K (z_Arc_init x1 x2 x3 x4 x5 z) Y_Arc_init rfl k299 k298 rfl ⟨gle rfl, gle rfl⟩ ⟨gle rfl, gle rfl⟩ (gle rfl) d_Tax_addArc_96 ?_
        refine gy_first ?_
        refine gx_ws (w1 := (fbW a ty N r en re O z tx X Y fc sl pt tot hv (rest ++ [(q81, .inr (8, [.int x1, .int x2, .int x3, .int x4, .int x5, .ref z]))]))) rfl ?_
        refine gx_aast K (t := 5) rfl rfl (q0 := 5) rfl (fb_pl (pe_at rest _)) rfl (by omega) (by decide) d_Tax_addArc_99 ?_
        refine gx_ws (w1 := (fbW a ty N r en re (va_up O 1 (va_up (O 1) (N 1) (some q81))) z tx X Y fc sl pt tot hv (rest ++ [(q81, .inr (8, [.int x1, .int x2, .int x3, .int x4, .int x5, .ref z]))]))) rfl ?_
        refine gx_aload_n K d_Tax_addArc_100 rfl rfl ?_
        refine gx_dup K d_Tax_addArc_101 rfl ?_
        refine gx_get K f_Tax_47 (q0 := 1) rfl rfl d_Tax_addArc_102 ?_
        refine gx_dup_x1 K d_Tax_addArc_105 rfl rfl ?_
        refine gx_iconst (v := 1) K d_Tax_addArc_106 rfl ?_
        refine gx_iaddN K (N 1) (1) d_Tax_addArc_107 ?_
        refine gx_put K f_Tax_47 ft_Tax rfl (q0 := 1) rfl rfl rfl (gle rfl) d_Tax_addArc_108 ?_
        refine gx_ws (w1 := (fbW a ty (va_up N 1 (N 1 + 1)) r en re (va_up O 1 (va_up (O 1) (N 1) (some q81))) z tx X Y fc sl pt tot hv (rest ++ [(q81, .inr (8, [.int x1, .int x2, .int x3, .int x4, .int x5, .ref z]))]))) rfl ?_
        exact gx_iret K hr hlk d_Tax_addArc_111 ⟨q81, congrArg (fun t => some (Value.int t)) (if_pos hk).symm, (if_pos hk).symm⟩
      · skip
        have h68n : ¬ N 1 < 32 := fun q => h68 ((nI_ltI (a := N 1) (b := 32) (by omega) (by omega)).mpr q)
        refine gx_iconst (v := -1) K d_Tax_addArc_71 rfl ?_
        refine gx_wide (k1 := 1) (n1 := 6) (gle rfl) (gle rfl) ?_
        exact gx_iret K hr hlk d_Tax_addArc_72 ⟨0, by rw [show k_arc N x1 x2 x3 x4 x5 = false from (by rw [arc_eq, decide_eq_false h68n, Bool.and_false])]; rfl, by rw [show k_arc N x1 x2 x3 x4 x5 = false from (by rw [arc_eq, decide_eq_false h68n, Bool.and_false])]; rfl⟩
  · skip
    refine gx_iload_n K d_Tax_addArc_0 rfl rfl ?_
    refine gx_SNd K (z_Doc_exists _) Y_Doc_exists k223 k252 rfl ⟨gle rfl, gle rfl⟩ ⟨gle rfl, gle rfl⟩ (gle rfl) d_Tax_addArc_1 ?_
    refine gx_if_eqB K d_Tax_addArc_4 rfl (fun h4 => ?_) (fun h4 => ?_)
    · skip
      refine gx_iconst (v := b2i false) K d_Tax_addArc_54 rfl ?_
      exact j55 _ (by simp [h4])
    · skip
      refine gx_iload_n K d_Tax_addArc_7 rfl rfl ?_
      refine gx_iconst (v := 0) K d_Tax_addArc_8 rfl ?_
      refine gx_iconst (v := 1) K d_Tax_addArc_9 rfl ?_
      refine gx_SNd K (z_FB_within _ _ _ _) Y_FB_within k226 k253 rfl ⟨gle rfl, gle rfl⟩ ⟨gle rfl, gle rfl⟩ (gle rfl) d_Tax_addArc_10 ?_
      refine gx_if_eqB K d_Tax_addArc_13 rfl (fun h13 => ?_) (fun h13 => ?_)
      · skip
        refine gx_iconst (v := b2i false) K d_Tax_addArc_54 rfl ?_
        exact j55 _ (by simp [h4, h13])
      · skip
        refine gx_aload_n K d_Tax_addArc_16 rfl rfl ?_
        refine gx_iload_n K d_Tax_addArc_17 rfl rfl ?_
        refine gx_Vd K (z_Tax_hasConcept hN _) Y_Tax_hasConcept (ci := 1) rfl (q0 := 1) rfl k295 ks6 k293 rfl ⟨gle rfl, gle rfl⟩ ⟨gle rfl, gle rfl⟩ (gle rfl) d_Tax_addArc_18 ?_
        refine gx_if_eqB K d_Tax_addArc_21 rfl (fun h21 => ?_) (fun h21 => ?_)
        · skip
          refine gx_iconst (v := b2i false) K d_Tax_addArc_54 rfl ?_
          exact j55 _ (by simp [h4, h13, h21])
        · skip
          refine gx_aload_n K d_Tax_addArc_24 rfl rfl ?_
          refine gx_iload K d_Tax_addArc_25 rfl ?_
          refine gx_Vd K (z_Tax_hasConcept hN _) Y_Tax_hasConcept (ci := 1) rfl (q0 := 1) rfl k295 ks6 k293 rfl ⟨gle rfl, gle rfl⟩ ⟨gle rfl, gle rfl⟩ (gle rfl) d_Tax_addArc_27 ?_
          refine gx_if_eqB K d_Tax_addArc_30 rfl (fun h30 => ?_) (fun h30 => ?_)
          · skip
            refine gx_iconst (v := b2i false) K d_Tax_addArc_54 rfl ?_
            exact j55 _ (by simp [h4, h13, h21, h30])
          · skip
            refine gx_iload K d_Tax_addArc_33 rfl ?_
            refine gx_bipush (v := -90) K d_Tax_addArc_35 rfl ?_
            refine gx_bipush (v := 90) K d_Tax_addArc_37 rfl ?_
            refine gx_SNd K (z_FB_within _ _ _ _) Y_FB_within k226 k253 rfl ⟨gle rfl, gle rfl⟩ ⟨gle rfl, gle rfl⟩ (gle rfl) d_Tax_addArc_39 ?_
            refine gx_if_eqB K d_Tax_addArc_42 rfl (fun h42 => ?_) (fun h42 => ?_)
            · skip
              refine gx_iconst (v := b2i false) K d_Tax_addArc_54 rfl ?_
              exact j55 _ (by simp [h4, h13, h21, h30, h42])
            · skip
              refine gx_iload K d_Tax_addArc_45 rfl ?_
              refine gx_if_eq K d_Tax_addArc_47 rfl (fun h47 => ?_) (fun h47 => ?_)
              · skip
                refine gx_iconst (v := b2i false) K d_Tax_addArc_54 rfl ?_
                exact j55 _ (by simp [h4, h13, h21, h30, h42, h47])
              · skip
                refine gx_iconst (v := b2i true) K d_Tax_addArc_50 rfl ?_
                refine gx_goto K d_Tax_addArc_51 rfl ?_
                exact j55 _ (by simp [h4, h13, h21, h30, h42, h47])

theorem ctx_eq {N : Nat → Nat} (x1 x2 x3 x4 : Int32) : k_ctx N x1 x2 x3 x4 = ((m_in x1 0 9 && (m_in x4 0 9 && ((decide (x2 = -1) || (m_in x2 0 9999 && decide (x2 < x3))) && m_in x3 0 9999))) && decide (N 2 < 12)) := by
  unfold k_ctx
  rw [Bool.and_comm (m_in x3 0 9999)]
  simp only [Bool.and_assoc]
set_option maxRecDepth 100000 in
set_option maxHeartbeats 1000000 in
theorem z_Rep_addContext {l : Launch} {D : va_G} {ty : Nat → ClassId} {tt : Nat} {a : Nat → Nat} {N : Nat → Nat} {r : Nat → Int32} {en re : Int32} {O : Nat → Nat → Option Nat} {z : Nat} {tx : Nat → Int32} {X : Nat → Nat → Bool} {Y : Nat → Nat → Int32} {fc : Nat} {sl : Bool} {pt : Int32} {tot : Int64} {hv : Bool} {rest : va_W} (hN : mN N) (x1 x2 x3 x4 : Int32) : Ct l y_Rep_addContext c_Rep_addContext 7 (some .int) 2 1 4 D ty tt [.ref (a 6), .int x1, .int x2, .int x3, .int x4] (fbW a ty N r en re O z tx X Y fc sl pt tot hv rest) (fun v1 w1 => ∃ q : Nat, v1 = some (.int (if k_ctx N x1 x2 x3 x4 = true then nI (N 2) else -1)) ∧ w1 = (if k_ctx N x1 x2 x3 x4 = true then (fbW a ty (va_up N 2 (N 2 + 1)) r en re (va_up O 2 (va_up (O 2) (N 2) (some q))) z tx X Y fc sl pt tot hv (rest ++ [(q, .inr (9, [.int x1, .int x2, .int x3, .int x4]))])) else (fbW a ty N r en re O z tx X Y fc sl pt tot hv rest))) := by
  obtain ⟨n0, n1, n2, n3, n4, n5⟩ := id hN
  refine Ct_of (by decide) (gle rfl) (fun p e s m args below meth c K hr hlk hin => ?_)
  refine gx_cut (X := decide (x2 = -1) || (m_in x2 0 9999 && decide (x2 < x3))) 22 ?_ (fun j22 => ?_)
  · skip
    refine gx_istore K d_Rep_addContext_22 (gle rfl) rfl ?_
    refine gx_cut (X := m_in x1 0 9 && (m_in x4 0 9 && ((decide (x2 = -1) || (m_in x2 0 9999 && decide (x2 < x3))) && m_in x3 0 9999))) 62 ?_ (fun j62 => ?_)
    · skip
      refine gx_istore K d_Rep_addContext_62 (gle rfl) rfl ?_
      refine gx_iload K d_Rep_addContext_64 rfl ?_
      refine gx_if_eqB K d_Rep_addContext_66 rfl (fun h66 => ?_) (fun h66 => ?_)
      · skip
        refine gx_iconst (v := -1) K d_Rep_addContext_78 rfl ?_
        refine gx_wide (k1 := 1) (n1 := 4) (gle rfl) (gle rfl) ?_
        exact gx_iret K hr hlk d_Rep_addContext_79 ⟨0, by rw [show k_ctx N x1 x2 x3 x4 = false from (by rw [ctx_eq, h66]; rfl)]; rfl, by rw [show k_ctx N x1 x2 x3 x4 = false from (by rw [ctx_eq, h66]; rfl)]; rfl⟩
      · skip
        refine gx_aload_n K d_Rep_addContext_69 rfl rfl ?_
        refine gx_get K f_Rep_36 (q0 := 6) rfl rfl d_Rep_addContext_70 ?_
        refine gx_bipush (v := 12) K d_Rep_addContext_73 rfl ?_
        refine gx_icmp_lt K d_Rep_addContext_75 rfl (fun h75 => ?_) (fun h75 => ?_)
        · skip
          have h75n : N 2 < 12 := (nI_ltI (a := N 2) (b := 12) (by omega) (by omega)).mp h75
          refine gx_aload_n K d_Rep_addContext_80 rfl rfl ?_
          refine gx_get K f_Rep_11 (q0 := 6) rfl rfl d_Rep_addContext_81 ?_
          refine gx_aload_n K d_Rep_addContext_84 rfl rfl ?_
          refine gx_get K f_Rep_36 (q0 := 6) rfl rfl d_Rep_addContext_85 ?_
          have hk : k_ctx N x1 x2 x3 x4 = true := by rw [ctx_eq, h66, decide_eq_true h75n]; rfl
          refine gx_new K (ci := 9) (fs := [.int 0, .int 0, .int 0, .int 0]) rfl in_Ctx ft_Ctx k103 k345 k11 (fun j h => match j, h with | 0, _ => rfl | 1, _ => rfl | 2, _ => rfl | 3, _ => rfl | j_ + 4, h => absurd h (by omega)) ⟨gle rfl, gle rfl⟩ d_Rep_addContext_88 (fun q88 => ?_)
          refine gx_ws (w1 := (fbW a ty N r en re O z tx X Y fc sl pt tot hv (rest ++ [(q88, .inr (9, [.int 0, .int 0, .int 0, .int 0]))]))) rfl ?_
          refine gx_dup K d_Rep_addContext_91 rfl ?_
          refine gx_iload_n K d_Rep_addContext_92 rfl rfl ?_
          refine gx_iload_n K d_Rep_addContext_93 rfl rfl ?_
          refine gx_iload_n K d_Rep_addContext_94 rfl rfl ?_
          refine gx_iload K d_Rep_addContext_95 rfl ?_
          refine gx_ws (w1 := (fbW a ty N r en re O z tx X Y fc sl pt tot hv rest) ++ [(q88, .inr (9, [.int 0, .int 0, .int 0, .int 0]))]) rfl ?_
          refine gy_last ?_
          refine gx_INdv K (z_Ctx_init x1 x2 x3 x4) Y_Ctx_init rfl k347 k346 rfl ⟨gle rfl, gle rfl⟩ ⟨gle rfl, gle rfl⟩ (gle rfl) d_Rep_addContext_97 ?_
          refine gy_first ?_
          refine gx_ws (w1 := (fbW a ty N r en re O z tx X Y fc sl pt tot hv (rest ++ [(q88, .inr (9, [.int x1, .int x2, .int x3, .int x4]))]))) rfl ?_
          refine gx_aast K (t := 6) rfl rfl (q0 := 7) rfl (fb_pl (pe_at rest _)) rfl (by omega) (by decide) d_Rep_addContext_100 ?_
          refine gx_ws (w1 := (fbW a ty N r en re (va_up O 2 (va_up (O 2) (N 2) (some q88))) z tx X Y fc sl pt tot hv (rest ++ [(q88, .inr (9, [.int x1, .int x2, .int x3, .int x4]))]))) rfl ?_
          refine gx_aload_n K d_Rep_addContext_101 rfl rfl ?_
          refine gx_dup K d_Rep_addContext_102 rfl ?_
          refine gx_get K f_Rep_36 (q0 := 6) rfl rfl d_Rep_addContext_103 ?_
          refine gx_dup_x1 K d_Rep_addContext_106 rfl rfl ?_
          refine gx_iconst (v := 1) K d_Rep_addContext_107 rfl ?_
          refine gx_iaddN K (N 2) (1) d_Rep_addContext_108 ?_
          refine gx_put K f_Rep_36 ft_Rep rfl (q0 := 6) rfl rfl rfl (gle rfl) d_Rep_addContext_109 ?_
          refine gx_ws (w1 := (fbW a ty (va_up N 2 (N 2 + 1)) r en re (va_up O 2 (va_up (O 2) (N 2) (some q88))) z tx X Y fc sl pt tot hv (rest ++ [(q88, .inr (9, [.int x1, .int x2, .int x3, .int x4]))]))) rfl ?_
          exact gx_iret K hr hlk d_Rep_addContext_112 ⟨q88, congrArg (fun t => some (Value.int t)) (if_pos hk).symm, (if_pos hk).symm⟩
        · skip
          have h75n : ¬ N 2 < 12 := fun q => h75 ((nI_ltI (a := N 2) (b := 12) (by omega) (by omega)).mpr q)
          refine gx_iconst (v := -1) K d_Rep_addContext_78 rfl ?_
          refine gx_wide (k1 := 1) (n1 := 4) (gle rfl) (gle rfl) ?_
          exact gx_iret K hr hlk d_Rep_addContext_79 ⟨0, by rw [show k_ctx N x1 x2 x3 x4 = false from (by rw [ctx_eq, decide_eq_false h75n, Bool.and_false])]; rfl, by rw [show k_ctx N x1 x2 x3 x4 = false from (by rw [ctx_eq, decide_eq_false h75n, Bool.and_false])]; rfl⟩
    · skip
      refine gx_iload_n K d_Rep_addContext_24 rfl rfl ?_
      refine gx_iconst (v := 0) K d_Rep_addContext_25 rfl ?_
      refine gx_bipush (v := 9) K d_Rep_addContext_26 rfl ?_
      refine gx_SNd K (z_FB_within _ _ _ _) Y_FB_within k226 k344 rfl ⟨gle rfl, gle rfl⟩ ⟨gle rfl, gle rfl⟩ (gle rfl) d_Rep_addContext_28 ?_
      refine gx_if_eqB K d_Rep_addContext_31 rfl (fun h31 => ?_) (fun h31 => ?_)
      · skip
        refine gx_iconst (v := b2i false) K d_Rep_addContext_61 rfl ?_
        exact j62 _ (by simp [h31] <;> simp_all)
      · skip
        refine gx_iload K d_Rep_addContext_34 rfl ?_
        refine gx_iconst (v := 0) K d_Rep_addContext_36 rfl ?_
        refine gx_bipush (v := 9) K d_Rep_addContext_37 rfl ?_
        refine gx_SNd K (z_FB_within _ _ _ _) Y_FB_within k226 k344 rfl ⟨gle rfl, gle rfl⟩ ⟨gle rfl, gle rfl⟩ (gle rfl) d_Rep_addContext_39 ?_
        refine gx_if_eqB K d_Rep_addContext_42 rfl (fun h42 => ?_) (fun h42 => ?_)
        · skip
          refine gx_iconst (v := b2i false) K d_Rep_addContext_61 rfl ?_
          exact j62 _ (by simp [h31, h42] <;> simp_all)
        · skip
          refine gx_iload K d_Rep_addContext_45 rfl ?_
          refine gx_if_eqB K d_Rep_addContext_47 rfl (fun h47 => ?_) (fun h47 => ?_)
          · skip
            refine gx_iconst (v := b2i false) K d_Rep_addContext_61 rfl ?_
            exact j62 _ (by simp [h31, h42, h47] <;> simp_all)
          · skip
            refine gx_iload_n K d_Rep_addContext_50 rfl rfl ?_
            refine gx_SNd K (z_Ctx_isDay _) Y_Ctx_isDay k341 k340 rfl ⟨gle rfl, gle rfl⟩ ⟨gle rfl, gle rfl⟩ (gle rfl) d_Rep_addContext_51 ?_
            refine gx_if_eqB K d_Rep_addContext_54 rfl (fun h54 => ?_) (fun h54 => ?_)
            · skip
              refine gx_iconst (v := b2i false) K d_Rep_addContext_61 rfl ?_
              exact j62 _ (by simp [h31, h42, h47, h54] <;> simp_all)
            · skip
              refine gx_iconst (v := b2i true) K d_Rep_addContext_57 rfl ?_
              refine gx_goto K d_Rep_addContext_58 rfl ?_
              exact j62 _ (by simp [h31, h42, h47, h54] <;> simp_all)
  · skip
    refine gx_iload_n K d_Rep_addContext_0 rfl rfl ?_
    refine gx_iconst (v := -1) K d_Rep_addContext_1 rfl ?_
    refine gx_icmp_eq K d_Rep_addContext_2 rfl (fun h2 => ?_) (fun h2 => ?_)
    · skip
      refine gx_iconst (v := b2i true) K d_Rep_addContext_17 rfl ?_
      refine gx_goto K d_Rep_addContext_18 rfl ?_
      exact j22 _ (by simp [h2])
    · skip
      refine gx_iload_n K d_Rep_addContext_5 rfl rfl ?_
      refine gx_SNd K (z_Ctx_isDay _) Y_Ctx_isDay k341 k340 rfl ⟨gle rfl, gle rfl⟩ ⟨gle rfl, gle rfl⟩ (gle rfl) d_Rep_addContext_6 ?_
      refine gx_if_eqB K d_Rep_addContext_9 rfl (fun h9 => ?_) (fun h9 => ?_)
      · skip
        refine gx_iconst (v := b2i false) K d_Rep_addContext_21 rfl ?_
        exact j22 _ (by simp [h2, h9])
      · skip
        refine gx_iload_n K d_Rep_addContext_12 rfl rfl ?_
        refine gx_iload_n K d_Rep_addContext_13 rfl rfl ?_
        refine gx_icmp_ge K d_Rep_addContext_14 rfl (fun h14 => ?_) (fun h14 => ?_)
        · skip
          refine gx_iconst (v := b2i false) K d_Rep_addContext_21 rfl ?_
          exact j22 _ (by simp [h2, h9, h14, Int32.not_lt.mpr h14])
        · skip
          refine gx_iconst (v := b2i true) K d_Rep_addContext_17 rfl ?_
          refine gx_goto K d_Rep_addContext_18 rfl ?_
          exact j22 _ (by simp [h2, h9, h14, Int32.not_le.mp h14])

theorem uni_eq {N : Nat → Nat} (x1 x2 x3 : Int32) : k_uni N x1 x2 x3 = ((m_in x1 1 9 && (m_in x2 0 9 && (m_in x3 0 9 && (decide (x3 = 0) || (!decide (x3 = x1) && !decide (x3 = x2)))))) && decide (N 3 < 8)) := by
  unfold k_uni
  simp only [Bool.and_assoc]
set_option maxRecDepth 100000 in
set_option maxHeartbeats 1000000 in
theorem z_Rep_addUnit {l : Launch} {D : va_G} {ty : Nat → ClassId} {tt : Nat} {a : Nat → Nat} {N : Nat → Nat} {r : Nat → Int32} {en re : Int32} {O : Nat → Nat → Option Nat} {z : Nat} {tx : Nat → Int32} {X : Nat → Nat → Bool} {Y : Nat → Nat → Int32} {fc : Nat} {sl : Bool} {pt : Int32} {tot : Int64} {hv : Bool} {rest : va_W} (hN : mN N) (x1 x2 x3 : Int32) : Ct l y_Rep_addUnit c_Rep_addUnit 5 (some .int) 2 1 3 D ty tt [.ref (a 6), .int x1, .int x2, .int x3] (fbW a ty N r en re O z tx X Y fc sl pt tot hv rest) (fun v1 w1 => ∃ q : Nat, v1 = some (.int (if k_uni N x1 x2 x3 = true then nI (N 3) else -1)) ∧ w1 = (if k_uni N x1 x2 x3 = true then (fbW a ty (va_up N 3 (N 3 + 1)) r en re (va_up O 3 (va_up (O 3) (N 3) (some q))) z tx X Y fc sl pt tot hv (rest ++ [(q, .inr (10, [.int x1, .int x2, .int x3]))])) else (fbW a ty N r en re O z tx X Y fc sl pt tot hv rest))) := by
  obtain ⟨n0, n1, n2, n3, n4, n5⟩ := id hN
  refine Ct_of (by decide) (gle rfl) (fun p e s m args below meth c K hr hlk hin => ?_)
  refine gx_cut (X := m_in x1 1 9 && (m_in x2 0 9 && (m_in x3 0 9 && (decide (x3 = 0) || (!decide (x3 = x1) && !decide (x3 = x2)))))) 49 ?_ (fun j49 => ?_)
  · skip
    refine gx_istore K d_Rep_addUnit_49 (gle rfl) rfl ?_
    refine gx_iload K d_Rep_addUnit_51 rfl ?_
    refine gx_if_eqB K d_Rep_addUnit_53 rfl (fun h53 => ?_) (fun h53 => ?_)
    · skip
      refine gx_iconst (v := -1) K d_Rep_addUnit_65 rfl ?_
      refine gx_wide (k1 := 1) (n1 := 3) (gle rfl) (gle rfl) ?_
      exact gx_iret K hr hlk d_Rep_addUnit_66 ⟨0, by rw [show k_uni N x1 x2 x3 = false from (by rw [uni_eq, h53]; rfl)]; rfl, by rw [show k_uni N x1 x2 x3 = false from (by rw [uni_eq, h53]; rfl)]; rfl⟩
    · skip
      refine gx_aload_n K d_Rep_addUnit_56 rfl rfl ?_
      refine gx_get K f_Rep_44 (q0 := 6) rfl rfl d_Rep_addUnit_57 ?_
      refine gx_bipush (v := 8) K d_Rep_addUnit_60 rfl ?_
      refine gx_icmp_lt K d_Rep_addUnit_62 rfl (fun h62 => ?_) (fun h62 => ?_)
      · skip
        have h62n : N 3 < 8 := (nI_ltI (a := N 3) (b := 8) (by omega) (by omega)).mp h62
        refine gx_aload_n K d_Rep_addUnit_67 rfl rfl ?_
        refine gx_get K f_Rep_19 (q0 := 6) rfl rfl d_Rep_addUnit_68 ?_
        refine gx_aload_n K d_Rep_addUnit_71 rfl rfl ?_
        refine gx_get K f_Rep_44 (q0 := 6) rfl rfl d_Rep_addUnit_72 ?_
        have hk : k_uni N x1 x2 x3 = true := by rw [uni_eq, h53, decide_eq_true h62n]; rfl
        refine gx_new K (ci := 10) (fs := [.int 0, .int 0, .int 0]) rfl in_Uni ft_Uni k105 k371 k12 (fun j h => match j, h with | 0, _ => rfl | 1, _ => rfl | 2, _ => rfl | j_ + 3, h => absurd h (by omega)) ⟨gle rfl, gle rfl⟩ d_Rep_addUnit_75 (fun q75 => ?_)
        refine gx_ws (w1 := (fbW a ty N r en re O z tx X Y fc sl pt tot hv (rest ++ [(q75, .inr (10, [.int 0, .int 0, .int 0]))]))) rfl ?_
        refine gx_dup K d_Rep_addUnit_78 rfl ?_
        refine gx_iload_n K d_Rep_addUnit_79 rfl rfl ?_
        refine gx_iload_n K d_Rep_addUnit_80 rfl rfl ?_
        refine gx_iload_n K d_Rep_addUnit_81 rfl rfl ?_
        refine gx_ws (w1 := (fbW a ty N r en re O z tx X Y fc sl pt tot hv rest) ++ [(q75, .inr (10, [.int 0, .int 0, .int 0]))]) rfl ?_
        refine gy_last ?_
        refine gx_INdv K (z_Uni_init x1 x2 x3) Y_Uni_init rfl k373 k372 rfl ⟨gle rfl, gle rfl⟩ ⟨gle rfl, gle rfl⟩ (gle rfl) d_Rep_addUnit_82 ?_
        refine gy_first ?_
        refine gx_ws (w1 := (fbW a ty N r en re O z tx X Y fc sl pt tot hv (rest ++ [(q75, .inr (10, [.int x1, .int x2, .int x3]))]))) rfl ?_
        refine gx_aast K (t := 7) rfl rfl (q0 := 8) rfl (fb_pl (pe_at rest _)) rfl (by omega) (by decide) d_Rep_addUnit_85 ?_
        refine gx_ws (w1 := (fbW a ty N r en re (va_up O 3 (va_up (O 3) (N 3) (some q75))) z tx X Y fc sl pt tot hv (rest ++ [(q75, .inr (10, [.int x1, .int x2, .int x3]))]))) rfl ?_
        refine gx_aload_n K d_Rep_addUnit_86 rfl rfl ?_
        refine gx_dup K d_Rep_addUnit_87 rfl ?_
        refine gx_get K f_Rep_44 (q0 := 6) rfl rfl d_Rep_addUnit_88 ?_
        refine gx_dup_x1 K d_Rep_addUnit_91 rfl rfl ?_
        refine gx_iconst (v := 1) K d_Rep_addUnit_92 rfl ?_
        refine gx_iaddN K (N 3) (1) d_Rep_addUnit_93 ?_
        refine gx_put K f_Rep_44 ft_Rep rfl (q0 := 6) rfl rfl rfl (gle rfl) d_Rep_addUnit_94 ?_
        refine gx_ws (w1 := (fbW a ty (va_up N 3 (N 3 + 1)) r en re (va_up O 3 (va_up (O 3) (N 3) (some q75))) z tx X Y fc sl pt tot hv (rest ++ [(q75, .inr (10, [.int x1, .int x2, .int x3]))]))) rfl ?_
        exact gx_iret K hr hlk d_Rep_addUnit_97 ⟨q75, congrArg (fun t => some (Value.int t)) (if_pos hk).symm, (if_pos hk).symm⟩
      · skip
        have h62n : ¬ N 3 < 8 := fun q => h62 ((nI_ltI (a := N 3) (b := 8) (by omega) (by omega)).mpr q)
        refine gx_iconst (v := -1) K d_Rep_addUnit_65 rfl ?_
        refine gx_wide (k1 := 1) (n1 := 3) (gle rfl) (gle rfl) ?_
        exact gx_iret K hr hlk d_Rep_addUnit_66 ⟨0, by rw [show k_uni N x1 x2 x3 = false from (by rw [uni_eq, decide_eq_false h62n, Bool.and_false])]; rfl, by rw [show k_uni N x1 x2 x3 = false from (by rw [uni_eq, decide_eq_false h62n, Bool.and_false])]; rfl⟩
  · skip
    refine gx_iload_n K d_Rep_addUnit_0 rfl rfl ?_
    refine gx_iconst (v := 1) K d_Rep_addUnit_1 rfl ?_
    refine gx_bipush (v := 9) K d_Rep_addUnit_2 rfl ?_
    refine gx_SNd K (z_FB_within _ _ _ _) Y_FB_within k226 k344 rfl ⟨gle rfl, gle rfl⟩ ⟨gle rfl, gle rfl⟩ (gle rfl) d_Rep_addUnit_4 ?_
    refine gx_if_eqB K d_Rep_addUnit_7 rfl (fun h7 => ?_) (fun h7 => ?_)
    · skip
      refine gx_iconst (v := b2i false) K d_Rep_addUnit_48 rfl ?_
      exact j49 _ (by simp [h7] <;> simp_all)
    · skip
      refine gx_iload_n K d_Rep_addUnit_10 rfl rfl ?_
      refine gx_iconst (v := 0) K d_Rep_addUnit_11 rfl ?_
      refine gx_bipush (v := 9) K d_Rep_addUnit_12 rfl ?_
      refine gx_SNd K (z_FB_within _ _ _ _) Y_FB_within k226 k344 rfl ⟨gle rfl, gle rfl⟩ ⟨gle rfl, gle rfl⟩ (gle rfl) d_Rep_addUnit_14 ?_
      refine gx_if_eqB K d_Rep_addUnit_17 rfl (fun h17 => ?_) (fun h17 => ?_)
      · skip
        refine gx_iconst (v := b2i false) K d_Rep_addUnit_48 rfl ?_
        exact j49 _ (by simp [h7, h17] <;> simp_all)
      · skip
        refine gx_iload_n K d_Rep_addUnit_20 rfl rfl ?_
        refine gx_iconst (v := 0) K d_Rep_addUnit_21 rfl ?_
        refine gx_bipush (v := 9) K d_Rep_addUnit_22 rfl ?_
        refine gx_SNd K (z_FB_within _ _ _ _) Y_FB_within k226 k344 rfl ⟨gle rfl, gle rfl⟩ ⟨gle rfl, gle rfl⟩ (gle rfl) d_Rep_addUnit_24 ?_
        refine gx_if_eqB K d_Rep_addUnit_27 rfl (fun h27 => ?_) (fun h27 => ?_)
        · skip
          refine gx_iconst (v := b2i false) K d_Rep_addUnit_48 rfl ?_
          exact j49 _ (by simp [h7, h17, h27] <;> simp_all)
        · skip
          refine gx_iload_n K d_Rep_addUnit_30 rfl rfl ?_
          refine gx_if_eq K d_Rep_addUnit_31 rfl (fun h31 => ?_) (fun h31 => ?_)
          · skip
            refine gx_iconst (v := b2i true) K d_Rep_addUnit_44 rfl ?_
            refine gx_goto K d_Rep_addUnit_45 rfl ?_
            exact j49 _ (by simp [h7, h17, h27, h31] <;> simp_all)
          · skip
            refine gx_iload_n K d_Rep_addUnit_34 rfl rfl ?_
            refine gx_iload_n K d_Rep_addUnit_35 rfl rfl ?_
            refine gx_icmp_eq K d_Rep_addUnit_36 rfl (fun h36 => ?_) (fun h36 => ?_)
            · skip
              refine gx_iconst (v := b2i false) K d_Rep_addUnit_48 rfl ?_
              exact j49 _ (by simp [h7, h17, h27, h31, h36] <;> simp_all)
            · skip
              refine gx_iload_n K d_Rep_addUnit_39 rfl rfl ?_
              refine gx_iload_n K d_Rep_addUnit_40 rfl rfl ?_
              refine gx_icmp_eq K d_Rep_addUnit_41 rfl (fun h41 => ?_) (fun h41 => ?_)
              · skip
                refine gx_iconst (v := b2i false) K d_Rep_addUnit_48 rfl ?_
                exact j49 _ (by simp [h7, h17, h27, h31, h36, h41] <;> simp_all)
              · skip
                refine gx_iconst (v := b2i true) K d_Rep_addUnit_44 rfl ?_
                refine gx_goto K d_Rep_addUnit_45 rfl ?_
                exact j49 _ (by simp [h7, h17, h27, h31, h36, h41] <;> simp_all)

set_option maxRecDepth 100000 in
set_option maxHeartbeats 1000000 in
theorem z_FB_setting {l : Launch} {D : va_G} {ty : Nat → ClassId} {tt : Nat} {a : Nat → Nat} {N : Nat → Nat} {r : Nat → Int32} {en re : Int32} {O : Nat → Nat → Option Nat} {z : Nat} {tx : Nat → Int32} {X : Nat → Nat → Bool} {Y : Nat → Nat → Int32} {fc : Nat} {sl : Bool} {pt : Int32} {tot : Int64} {hv : Bool} {rest : va_W} (hN : mN N) (x1 x2 : Int32) (ph : Bool) : Ct l y_FB_setting c_FB_setting 4 (some .boolean) 2 1 3 D ty tt [.ref (a 0), .int x1, .int x2, .int (b2i ph)] (fbW a ty N r en re O z tx X Y fc sl pt tot hv rest) (fun v1 w1 => ∃ q : Nat, v1 = some (.int (b2i (k_set x1 x2))) ∧ w1 = (if k_set x1 x2 = true then (fbW a ty N r en re O q tx X Y fc sl pt tot hv (rest ++ [(q, .inr (7, [.int x1, .int x2, .int (b2i ph)]))])) else (fbW a ty N r en re O z tx X Y fc sl pt tot hv rest))) := by
  obtain ⟨n0, n1, n2, n3, n4, n5⟩ := id hN
  refine Ct_of (by decide) (gle rfl) (fun p e s m args below meth c K hr hlk hin => ?_)
  refine gx_iload_n K d_FB_setting_0 rfl rfl ?_
  refine gx_iconst (v := 0) K d_FB_setting_1 rfl ?_
  refine gx_iconst (v := 2) K d_FB_setting_2 rfl ?_
  refine gx_Sd K (z_FB_within _ _ _ _) Y_FB_within k226 k282 rfl ⟨gle rfl, gle rfl⟩ ⟨gle rfl, gle rfl⟩ (gle rfl) d_FB_setting_3 ?_
  refine gx_if_eqB K d_FB_setting_6 rfl (fun h6 => ?_) (fun h6 => ?_)
  · skip
    refine gx_iconst (v := b2i false) K d_FB_setting_19 rfl ?_
    refine gx_wide (k1 := 1) (n1 := 3) (gle rfl) (gle rfl) ?_
    exact gx_zret K hr hlk d_FB_setting_20 ⟨0, by rw [show k_set x1 x2 = false from (by unfold k_set; rw [h6]; rfl)], by rw [show k_set x1 x2 = false from (by unfold k_set; rw [h6]; rfl)]; rfl⟩
  · skip
    refine gx_iload_n K d_FB_setting_9 rfl rfl ?_
    refine gx_iconst (v := 0) K d_FB_setting_10 rfl ?_
    refine gx_bipush (v := 9) K d_FB_setting_11 rfl ?_
    refine gx_Sd K (z_FB_within _ _ _ _) Y_FB_within k226 k282 rfl ⟨gle rfl, gle rfl⟩ ⟨gle rfl, gle rfl⟩ (gle rfl) d_FB_setting_13 ?_
    refine gx_if_neB K d_FB_setting_16 rfl (fun h16 => ?_) (fun h16 => ?_)
    · skip
      refine gx_aload_n K d_FB_setting_21 rfl rfl ?_
      refine gx_get K f_FB_12 (q0 := 0) rfl rfl d_FB_setting_22 ?_
      have hk : k_set x1 x2 = true := by unfold k_set; rw [h6, h16]; rfl
      refine gx_new K (ci := 7) (fs := [.int 0, .int 0, .int 0]) rfl in_Set ft_Set k283 k51 k4 (fun j h => match j, h with | 0, _ => rfl | 1, _ => rfl | 2, _ => rfl | j_ + 3, h => absurd h (by omega)) ⟨gle rfl, gle rfl⟩ d_FB_setting_25 (fun q25 => ?_)
      refine gx_ws (w1 := (fbW a ty N r en re O z tx X Y fc sl pt tot hv (rest ++ [(q25, .inr (7, [.int 0, .int 0, .int 0]))]))) rfl ?_
      refine gx_dup K d_FB_setting_28 rfl ?_
      refine gx_iload_n K d_FB_setting_29 rfl rfl ?_
      refine gx_iload_n K d_FB_setting_30 rfl rfl ?_
      refine gx_iload_n K d_FB_setting_31 rfl rfl ?_
      refine gx_ws (w1 := (fbW a ty N r en re O z tx X Y fc sl pt tot hv rest) ++ [(q25, .inr (7, [.int 0, .int 0, .int 0]))]) rfl ?_
      refine gy_last ?_
      refine gx_INdv K (z_Set_init x1 x2 ph) Y_Set_init rfl k53 k284 rfl ⟨gle rfl, gle rfl⟩ ⟨gle rfl, gle rfl⟩ (gle rfl) d_FB_setting_32 ?_
      refine gy_first ?_
      refine gx_ws (w1 := (fbW a ty N r en re O z tx X Y fc sl pt tot hv (rest ++ [(q25, .inr (7, [.int x1, .int x2, .int (b2i ph)]))]))) rfl ?_
      refine gx_putN K f_FB_63 ft_Tax rfl (q0 := 1) rfl rfl rfl (gle rfl) d_FB_setting_35 ?_
      refine gx_ws (w1 := (fbW a ty N r en re O q25 tx X Y fc sl pt tot hv (rest ++ [(q25, .inr (7, [.int x1, .int x2, .int (b2i ph)]))]))) rfl ?_
      refine gx_iconst (v := b2i true) K d_FB_setting_38 rfl ?_
      exact gx_zret K hr hlk d_FB_setting_39 ⟨q25, by rw [hk], (if_pos hk).symm⟩
    · skip
      refine gx_iconst (v := b2i false) K d_FB_setting_19 rfl ?_
      refine gx_wide (k1 := 1) (n1 := 3) (gle rfl) (gle rfl) ?_
      exact gx_zret K hr hlk d_FB_setting_20 ⟨0, by rw [show k_set x1 x2 = false from (by unfold k_set; rw [h16, Bool.and_false])], by rw [show k_set x1 x2 = false from (by unfold k_set; rw [h16, Bool.and_false])]; rfl⟩

