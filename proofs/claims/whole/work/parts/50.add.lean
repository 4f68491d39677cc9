section GM
variable {p : Program} {l : Launch} {e : Env} {R : Room} {s : State} {m : MethodId} {args : Array Value} {below : List Frame} {meth : Method} {c : Code} {Q : State → Prop} {k n : Nat}
variable {cc : ByteArray} {nL : Nat} {own : String} {D : va_G} {ty : Nat → ClassId} {tt : Nat} {A : Nat → Prop} {ws : va_W} {L : List (Option Value)} {st : List Value} {pc : Nat}
theorem pe_at {α : Type} (ws : List α) (x : α) : (ws ++ [x])[ws.length]? = some x := by rw [List.getElem?_append_right (Nat.le_refl _), Nat.sub_self]; rfl
theorem gy_last {x : Nat × va_E} (h : gG p l e R s m args below meth c nL D (A) (Q) (k) (n) (x :: ws) (L) (st) (pc)) : gG p l e R s m args below meth c nL D (A) (Q) (k) (n) (ws ++ [x]) (L) (st) (pc) := by
  refine gx_perm (fun i => if i = 0 then ws.length else i - 1) id (fun i q hq => ?_) (fun i j hi hj hf => ?_) h
  · rcases i with _ | i
    · simp only [if_true]
      rw [pe_at]
      exact hq
    · have hq2 : ws[i]? = some q := hq
      simp only [Nat.add_eq_zero_iff, Nat.one_ne_zero, and_false, if_false, Nat.add_sub_cancel]
      rw [List.getElem?_append_left (List.getElem?_eq_some_iff.mp hq2).1]
      exact hq2
  · simp only [List.length_cons] at hi hj
    try dsimp only at hf
    split at hf <;> split at hf <;> omega
theorem gy_first {x : Nat × va_E} (h : gG p l e R s m args below meth c nL D (A) (Q) (k) (n) (ws ++ [x]) (L) (st) (pc)) : gG p l e R s m args below meth c nL D (A) (Q) (k) (n) (x :: ws) (L) (st) (pc) := by
  refine gx_perm (fun i => if i < ws.length then i + 1 else 0) id (fun i q hq => ?_) (fun i j hi hj hf => ?_) h
  · by_cases h1 : i < ws.length
    · rw [List.getElem?_append_left h1] at hq
      simp only [h1, if_true]
      exact hq
    · have h2 : i = ws.length := by
        have h3 := (List.getElem?_eq_some_iff.mp hq).1
        rw [List.length_append] at h3
        simp only [List.length_cons, List.length_nil] at h3
        omega
      rw [h2, pe_at] at hq
      simp only [h1, if_false]
      exact hq
  · rw [List.length_append] at hi hj
    simp only [List.length_cons, List.length_nil] at hi hj
    try dsimp only at hf
    split at hf <;> split at hf <;> omega
variable {y : MethodName} {b : ByteArray} {mL : Nat} {d : Nat} {av : List Value} {s0 : List Value} {idx : Nat} {w1 : va_W}
theorem gx_Idv (K : gK p s m args c cc nL own D ty tt A) {b0 : Nat} (hM : Cd l y b mL none d D ty tt (.ref b0 :: av) ws none w1) (Y : gY y b mL none av.length) (hin : y.name = "<init>") (hx : Cond.instanceMethod y ∈ gB) (hl : Cond.methodLink own idx y ∈ gB) (hs : s0 = av.reverse ++ .ref b0 :: st) (hR : d + 1 ≤ R.frames ∧ 8 + (mL + 11) + 40 * d ≤ R.locals) (hc : k ≤ R.cells ∧ n ≤ R.slots) (hw : (st.map fun v => v.category).sum ≤ 8) (hd : decode cc pc = .ok (.invokespecial idx, 3)) (kk : gG p l e R s m args below meth c nL D (A) (Q) (k) (n) (w1) (L) (st) (pc + 3)) : gG p l e R s m args below meth c nL D (A) (Q) (k) (n) (ws) (L) (s0) (pc) :=
  gx_I K hM Y hin hx hl hs hR ⟨hc.1, hc.2⟩ hw hd (fun v w hp => by
    obtain ⟨rfl, rfl⟩ := hp
    exact kk)
theorem gx_INdv (K : gK p s m args c cc nL own D ty tt A) {b0 : Nat} (hM : Cd l y b mL none d D ty tt (.ref b0 :: av) ws none w1) (Y : gY y b mL none av.length) (hin : y.name = "<init>") (hx : Cond.instanceMethod y ∈ gB) {host : String} (hl : Cond.methodLinkNest own idx y host ∈ gN) (hs : s0 = av.reverse ++ .ref b0 :: st) (hR : d + 1 ≤ R.frames ∧ 8 + (mL + 11) + 40 * d ≤ R.locals) (hc : k ≤ R.cells ∧ n ≤ R.slots) (hw : (st.map fun v => v.category).sum ≤ 8) (hd : decode cc pc = .ok (.invokespecial idx, 3)) (kk : gG p l e R s m args below meth c nL D (A) (Q) (k) (n) (w1) (L) (st) (pc + 3)) : gG p l e R s m args below meth c nL D (A) (Q) (k) (n) (ws) (L) (s0) (pc) :=
  gx_IN K hM Y hin hx hl hs hR ⟨hc.1, hc.2⟩ hw hd (fun v w hp => by
    obtain ⟨rfl, rfl⟩ := hp
    exact kk)
end GM
set_option maxRecDepth 100000 in
set_option maxHeartbeats 1000000 in
theorem z_Con_init {l : Launch} {D : va_G} {ty : Nat → ClassId} {tt : Nat} {ws : va_W} {q : Nat} (x y z v : Int32) : Cd l y_Con_init c_Con_init 5 none 1 D ty tt [.ref q, .int x, .int y, .int z, .int v] ((q, .inr (6, [.int 0, .int 0, .int 0, .int 0])) :: ws) none ((q, .inr (6, [.int x, .int y, .int z, .int v])) :: ws) := by
  refine Ct_of (by decide) (gle rfl) (fun p e s m args below meth c K hr hlk hin => ?_)
  refine gx_aload_n K d_Con_init_0 rfl rfl ?_
  refine gx_objInit K k258 k21 k22 ⟨gle rfl, gle rfl⟩ d_Con_init_1 ?_
  refine gx_aload_n K d_Con_init_4 rfl rfl ?_
  refine gx_iload_n K d_Con_init_5 rfl rfl ?_
  refine gx_putF K f_Con_7 ft_Con rfl hin rfl (q0 := 0) rfl rfl rfl (gle rfl) d_Con_init_6 ?_
  refine gx_aload_n K d_Con_init_9 rfl rfl ?_
  refine gx_iload_n K d_Con_init_10 rfl rfl ?_
  refine gx_putF K f_Con_13 ft_Con rfl hin rfl (q0 := 0) rfl rfl rfl (gle rfl) d_Con_init_11 ?_
  refine gx_aload_n K d_Con_init_14 rfl rfl ?_
  refine gx_iload_n K d_Con_init_15 rfl rfl ?_
  refine gx_putF K f_Con_16 ft_Con rfl hin rfl (q0 := 0) rfl rfl rfl (gle rfl) d_Con_init_16 ?_
  refine gx_aload_n K d_Con_init_19 rfl rfl ?_
  refine gx_iload K d_Con_init_20 rfl ?_
  refine gx_putF K f_Con_19 ft_Con rfl hin rfl (q0 := 0) rfl rfl rfl (gle rfl) d_Con_init_22 ?_
  exact gx_vret K hr hlk d_Con_init_25 ⟨rfl, rfl⟩

set_option maxRecDepth 100000 in
set_option maxHeartbeats 1000000 in
theorem z_Set_init {l : Launch} {D : va_G} {ty : Nat → ClassId} {tt : Nat} {ws : va_W} {q : Nat} (x y : Int32) (ph : Bool) : Cd l y_Set_init c_Set_init 4 none 1 D ty tt [.ref q, .int x, .int y, .int (b2i ph)] ((q, .inr (7, [.int 0, .int 0, .int 0])) :: ws) none ((q, .inr (7, [.int x, .int y, .int (b2i ph)])) :: ws) := by
  refine Ct_of (by decide) (gle rfl) (fun p e s m args below meth c K hr hlk hin => ?_)
  refine gx_aload_n K d_Set_init_0 rfl rfl ?_
  refine gx_objInit K k55 k21 k22 ⟨gle rfl, gle rfl⟩ d_Set_init_1 ?_
  refine gx_aload_n K d_Set_init_4 rfl rfl ?_
  refine gx_iload_n K d_Set_init_5 rfl rfl ?_
  refine gx_putF K f_Set_7 ft_Set rfl hin rfl (q0 := 0) rfl rfl rfl (gle rfl) d_Set_init_6 ?_
  refine gx_aload_n K d_Set_init_9 rfl rfl ?_
  refine gx_iload_n K d_Set_init_10 rfl rfl ?_
  refine gx_putF K f_Set_13 ft_Set rfl hin rfl (q0 := 0) rfl rfl rfl (gle rfl) d_Set_init_11 ?_
  refine gx_aload_n K d_Set_init_14 rfl rfl ?_
  refine gx_iload_n K d_Set_init_15 rfl rfl ?_
  refine gx_putF K f_Set_16 ft_Set rfl hin rfl (q0 := 0) rfl (b2i_narrow _) (b2i_fits _) (gle rfl) d_Set_init_16 ?_
  exact gx_vret K hr hlk d_Set_init_19 ⟨rfl, rfl⟩

set_option maxRecDepth 100000 in
set_option maxHeartbeats 1000000 in
theorem z_Arc_init {l : Launch} {D : va_G} {ty : Nat → ClassId} {tt : Nat} {ws : va_W} {q : Nat} (x y z v u : Int32) (t0 : Nat) : Cd l y_Arc_init c_Arc_init 7 none 1 D ty tt [.ref q, .int x, .int y, .int z, .int v, .int u, .ref t0] ((q, .inr (8, [.int 0, .int 0, .int 0, .int 0, .int 0, .null])) :: ws) none ((q, .inr (8, [.int x, .int y, .int z, .int v, .int u, .ref t0])) :: ws) := by
  refine Ct_of (by decide) (gle rfl) (fun p e s m args below meth c K hr hlk hin => ?_)
  refine gx_aload_n K d_Arc_init_0 rfl rfl ?_
  refine gx_objInit K k301 k21 k22 ⟨gle rfl, gle rfl⟩ d_Arc_init_1 ?_
  refine gx_aload_n K d_Arc_init_4 rfl rfl ?_
  refine gx_iload_n K d_Arc_init_5 rfl rfl ?_
  refine gx_putF K f_Arc_7 ft_Arc rfl hin rfl (q0 := 0) rfl rfl rfl (gle rfl) d_Arc_init_6 ?_
  refine gx_aload_n K d_Arc_init_9 rfl rfl ?_
  refine gx_iload_n K d_Arc_init_10 rfl rfl ?_
  refine gx_putF K f_Arc_13 ft_Arc rfl hin rfl (q0 := 0) rfl rfl rfl (gle rfl) d_Arc_init_11 ?_
  refine gx_aload_n K d_Arc_init_14 rfl rfl ?_
  refine gx_iload_n K d_Arc_init_15 rfl rfl ?_
  refine gx_putF K f_Arc_16 ft_Arc rfl hin rfl (q0 := 0) rfl rfl rfl (gle rfl) d_Arc_init_16 ?_
  refine gx_aload_n K d_Arc_init_19 rfl rfl ?_
  refine gx_iload K d_Arc_init_20 rfl ?_
  refine gx_putF K f_Arc_19 ft_Arc rfl hin rfl (q0 := 0) rfl rfl rfl (gle rfl) d_Arc_init_22 ?_
  refine gx_aload_n K d_Arc_init_25 rfl rfl ?_
  refine gx_iload K d_Arc_init_26 rfl ?_
  refine gx_putF K f_Arc_22 ft_Arc rfl hin rfl (q0 := 0) rfl rfl rfl (gle rfl) d_Arc_init_28 ?_
  refine gx_aload_n K d_Arc_init_31 rfl rfl ?_
  refine gx_aload K d_Arc_init_32 rfl ?_
  refine gx_putF K f_Arc_25 ft_Arc rfl hin rfl (q0 := 0) rfl rfl rfl (gle rfl) d_Arc_init_34 ?_
  exact gx_vret K hr hlk d_Arc_init_37 ⟨rfl, rfl⟩

set_option maxRecDepth 100000 in
set_option maxHeartbeats 1000000 in
theorem z_Ctx_init {l : Launch} {D : va_G} {ty : Nat → ClassId} {tt : Nat} {ws : va_W} {q : Nat} (x y z v : Int32) : Cd l y_Ctx_init c_Ctx_init 5 none 1 D ty tt [.ref q, .int x, .int y, .int z, .int v] ((q, .inr (9, [.int 0, .int 0, .int 0, .int 0])) :: ws) none ((q, .inr (9, [.int x, .int y, .int z, .int v])) :: ws) := by
  refine Ct_of (by decide) (gle rfl) (fun p e s m args below meth c K hr hlk hin => ?_)
  refine gx_aload_n K d_Ctx_init_0 rfl rfl ?_
  refine gx_objInit K k349 k21 k22 ⟨gle rfl, gle rfl⟩ d_Ctx_init_1 ?_
  refine gx_aload_n K d_Ctx_init_4 rfl rfl ?_
  refine gx_iload_n K d_Ctx_init_5 rfl rfl ?_
  refine gx_putF K f_Ctx_9 ft_Ctx rfl hin rfl (q0 := 0) rfl rfl rfl (gle rfl) d_Ctx_init_6 ?_
  refine gx_aload_n K d_Ctx_init_9 rfl rfl ?_
  refine gx_iload_n K d_Ctx_init_10 rfl rfl ?_
  refine gx_putF K f_Ctx_15 ft_Ctx rfl hin rfl (q0 := 0) rfl rfl rfl (gle rfl) d_Ctx_init_11 ?_
  refine gx_aload_n K d_Ctx_init_14 rfl rfl ?_
  refine gx_iload_n K d_Ctx_init_15 rfl rfl ?_
  refine gx_putF K f_Ctx_18 ft_Ctx rfl hin rfl (q0 := 0) rfl rfl rfl (gle rfl) d_Ctx_init_16 ?_
  refine gx_aload_n K d_Ctx_init_19 rfl rfl ?_
  refine gx_iload K d_Ctx_init_20 rfl ?_
  refine gx_putF K f_Ctx_21 ft_Ctx rfl hin rfl (q0 := 0) rfl rfl rfl (gle rfl) d_Ctx_init_22 ?_
  exact gx_vret K hr hlk d_Ctx_init_25 ⟨rfl, rfl⟩

set_option maxRecDepth 100000 in
set_option maxHeartbeats 1000000 in
theorem z_Uni_init {l : Launch} {D : va_G} {ty : Nat → ClassId} {tt : Nat} {ws : va_W} {q : Nat} (x y z : Int32) : Cd l y_Uni_init c_Uni_init 4 none 1 D ty tt [.ref q, .int x, .int y, .int z] ((q, .inr (10, [.int 0, .int 0, .int 0])) :: ws) none ((q, .inr (10, [.int x, .int y, .int z])) :: ws) := by
  refine Ct_of (by decide) (gle rfl) (fun p e s m args below meth c K hr hlk hin => ?_)
  refine gx_aload_n K d_Uni_init_0 rfl rfl ?_
  refine gx_objInit K k375 k21 k22 ⟨gle rfl, gle rfl⟩ d_Uni_init_1 ?_
  refine gx_aload_n K d_Uni_init_4 rfl rfl ?_
  refine gx_iload_n K d_Uni_init_5 rfl rfl ?_
  refine gx_putF K f_Uni_9 ft_Uni rfl hin rfl (q0 := 0) rfl rfl rfl (gle rfl) d_Uni_init_6 ?_
  refine gx_aload_n K d_Uni_init_9 rfl rfl ?_
  refine gx_iload_n K d_Uni_init_10 rfl rfl ?_
  refine gx_putF K f_Uni_15 ft_Uni rfl hin rfl (q0 := 0) rfl rfl rfl (gle rfl) d_Uni_init_11 ?_
  refine gx_aload_n K d_Uni_init_14 rfl rfl ?_
  refine gx_iload_n K d_Uni_init_15 rfl rfl ?_
  refine gx_putF K f_Uni_18 ft_Uni rfl hin rfl (q0 := 0) rfl rfl rfl (gle rfl) d_Uni_init_16 ?_
  exact gx_vret K hr hlk d_Uni_init_19 ⟨rfl, rfl⟩

theorem con_in (y z : Int32) : (decide (z = 0) || (decide (y = 2) && m_in z 1 2)) = m_in z 0 (if y = 2 then 2 else 0) := by
  have h0 : ∀ c : Int32, (c = 0) = (c.toInt = 0) := fun c => propext ⟨fun h => by rw [h]; rfl, fun h => Int32.toInt_inj.mp h⟩
  unfold m_in
  rw [Bool.eq_iff_iff]
  simp only [Bool.or_eq_true, Bool.and_eq_true, decide_eq_true_eq, Int32.le_iff_toInt_le, h0 z]
  have e0 : (0 : Int32).toInt = 0 := rfl
  have e1 : (1 : Int32).toInt = 1 := rfl
  have e2 : (2 : Int32).toInt = 2 := rfl
  by_cases h : y = 2
  · simp only [h, if_true, e0, e1, e2, true_and]; omega
  · simp only [h, if_false, e0, e1, e2, false_and, or_false]; omega
theorem con_eq {N : Nat → Nat} (x1 x2 x3 x4 : Int32) : k_con N x1 x2 x3 x4 = ((m_in x1 0 7 && (m_in x2 0 2 && (m_in x3 0 (if x2 = 2 then 2 else 0) && m_in x4 0 1))) && decide (N 0 < 16)) := by
  unfold k_con
  rw [con_in]
  simp only [Bool.and_assoc]
set_option maxRecDepth 100000 in
set_option maxHeartbeats 1000000 in
theorem z_Tax_addConcept {l : Launch} {D : va_G} {ty : Nat → ClassId} {tt : Nat} {a : Nat → Nat} {N : Nat → Nat} {r : Nat → Int32} {en re : Int32} {O : Nat → Nat → Option Nat} {z : Nat} {tx : Nat → Int32} {X : Nat → Nat → Bool} {Y : Nat → Nat → Int32} {fc : Nat} {sl : Bool} {pt : Int32} {tot : Int64} {hv : Bool} {rest : va_W} (hN : mN N) (x1 x2 x3 x4 : Int32) : Ct l y_Tax_addConcept c_Tax_addConcept 6 (some .int) 2 1 4 D ty tt [.ref (a 1), .int x1, .int x2, .int x3, .int x4] (fbW a ty N r en re O z tx X Y fc sl pt tot hv rest) (fun v1 w1 => ∃ q : Nat, v1 = some (.int (if k_con N x1 x2 x3 x4 = true then nI (N 0) else -1)) ∧ w1 = (if k_con N x1 x2 x3 x4 = true then (fbW a ty (va_up N 0 (N 0 + 1)) r en re (va_up O 0 (va_up (O 0) (N 0) (some q))) z tx X Y fc sl pt tot hv (rest ++ [(q, .inr (6, [.int x1, .int x2, .int x3, .int x4]))])) else (fbW a ty N r en re O z tx X Y fc sl pt tot hv rest))) := by
  obtain ⟨n0, n1, n2, n3, n4, n5⟩ := id hN
  refine Ct_of (by decide) (gle rfl) (fun p e s m args below meth c K hr hlk hin => ?_)
  refine gx_cut (X := m_in x1 0 7 && (m_in x2 0 2 && (m_in x3 0 (if x2 = 2 then 2 else 0) && m_in x4 0 1))) 49 ?_ (fun j49 => ?_)
  · skip
    refine gx_istore K d_Tax_addConcept_49 (gle rfl) rfl ?_
    refine gx_iload K d_Tax_addConcept_51 rfl ?_
    refine gx_if_eqB K d_Tax_addConcept_53 rfl (fun h53 => ?_) (fun h53 => ?_)
    · skip
      refine gx_iconst (v := -1) K d_Tax_addConcept_65 rfl ?_
      refine gx_wide (k1 := 1) (n1 := 4) (gle rfl) (gle rfl) ?_
      exact gx_iret K hr hlk d_Tax_addConcept_66 ⟨0, by rw [show k_con N x1 x2 x3 x4 = false from (by rw [con_eq, h53]; rfl)]; rfl, by rw [show k_con N x1 x2 x3 x4 = false from (by rw [con_eq, h53]; rfl)]; rfl⟩
    · skip
      refine gx_aload_n K d_Tax_addConcept_56 rfl rfl ?_
      refine gx_get K f_Tax_39 (q0 := 1) rfl rfl d_Tax_addConcept_57 ?_
      refine gx_bipush (v := 16) K d_Tax_addConcept_60 rfl ?_
      refine gx_icmp_lt K d_Tax_addConcept_62 rfl (fun h62 => ?_) (fun h62 => ?_)
      · skip
        have h62n : N 0 < 16 := (nI_ltI (a := N 0) (b := 16) (by omega) (by omega)).mp h62
        refine gx_aload_n K d_Tax_addConcept_67 rfl rfl ?_
        refine gx_get K f_Tax_20 (q0 := 1) rfl rfl d_Tax_addConcept_68 ?_
        refine gx_aload_n K d_Tax_addConcept_71 rfl rfl ?_
        refine gx_get K f_Tax_39 (q0 := 1) rfl rfl d_Tax_addConcept_72 ?_
        have hk : k_con N x1 x2 x3 x4 = true := by rw [con_eq, h53, decide_eq_true h62n]; rfl
        refine gx_new K (ci := 6) (fs := [.int 0, .int 0, .int 0, .int 0]) rfl in_Con ft_Con k46 k254 k9 (fun j h => match j, h with | 0, _ => rfl | 1, _ => rfl | 2, _ => rfl | 3, _ => rfl | j_ + 4, h => absurd h (by omega)) ⟨gle rfl, gle rfl⟩ d_Tax_addConcept_75 (fun q75 => ?_)
        refine gx_ws (w1 := (fbW a ty N r en re O z tx X Y fc sl pt tot hv (rest ++ [(q75, .inr (6, [.int 0, .int 0, .int 0, .int 0]))]))) rfl ?_
        refine gx_dup K d_Tax_addConcept_78 rfl ?_
        refine gx_iload_n K d_Tax_addConcept_79 rfl rfl ?_
        refine gx_iload_n K d_Tax_addConcept_80 rfl rfl ?_
        refine gx_iload_n K d_Tax_addConcept_81 rfl rfl ?_
        refine gx_iload K d_Tax_addConcept_82 rfl ?_
        refine gx_ws (w1 := (fbW a ty N r en re O z tx X Y fc sl pt tot hv rest) ++ [(q75, .inr (6, [.int 0, .int 0, .int 0, .int 0]))]) rfl ?_
        refine gy_last ?_
        refine gx_INdv K (z_Con_init x1 x2 x3 x4) Y_Con_init rfl k256 k255 rfl ⟨gle rfl, gle rfl⟩ ⟨gle rfl, gle rfl⟩ (gle rfl) d_Tax_addConcept_84 ?_
        refine gy_first ?_
        refine gx_ws (w1 := (fbW a ty N r en re O z tx X Y fc sl pt tot hv (rest ++ [(q75, .inr (6, [.int x1, .int x2, .int x3, .int x4]))]))) rfl ?_
        refine gx_aast K (t := 4) rfl rfl (q0 := 4) rfl (fb_pl (pe_at rest _)) rfl (by omega) (by decide) d_Tax_addConcept_87 ?_
        refine gx_ws (w1 := (fbW a ty N r en re (va_up O 0 (va_up (O 0) (N 0) (some q75))) z tx X Y fc sl pt tot hv (rest ++ [(q75, .inr (6, [.int x1, .int x2, .int x3, .int x4]))]))) rfl ?_
        refine gx_aload_n K d_Tax_addConcept_88 rfl rfl ?_
        refine gx_dup K d_Tax_addConcept_89 rfl ?_
        refine gx_get K f_Tax_39 (q0 := 1) rfl rfl d_Tax_addConcept_90 ?_
        refine gx_dup_x1 K d_Tax_addConcept_93 rfl rfl ?_
        refine gx_iconst (v := 1) K d_Tax_addConcept_94 rfl ?_
        refine gx_iaddN K (N 0) (1) d_Tax_addConcept_95 ?_
        refine gx_put K f_Tax_39 ft_Tax rfl (q0 := 1) rfl rfl rfl (gle rfl) d_Tax_addConcept_96 ?_
        refine gx_ws (w1 := (fbW a ty (va_up N 0 (N 0 + 1)) r en re (va_up O 0 (va_up (O 0) (N 0) (some q75))) z tx X Y fc sl pt tot hv (rest ++ [(q75, .inr (6, [.int x1, .int x2, .int x3, .int x4]))]))) rfl ?_
        exact gx_iret K hr hlk d_Tax_addConcept_99 ⟨q75, congrArg (fun t => some (Value.int t)) (if_pos hk).symm, (if_pos hk).symm⟩
      · skip
        have h62n : ¬ N 0 < 16 := fun q => h62 ((nI_ltI (a := N 0) (b := 16) (by omega) (by omega)).mpr q)
        refine gx_iconst (v := -1) K d_Tax_addConcept_65 rfl ?_
        refine gx_wide (k1 := 1) (n1 := 4) (gle rfl) (gle rfl) ?_
        exact gx_iret K hr hlk d_Tax_addConcept_66 ⟨0, by rw [show k_con N x1 x2 x3 x4 = false from (by rw [con_eq, decide_eq_false h62n, Bool.and_false])]; rfl, by rw [show k_con N x1 x2 x3 x4 = false from (by rw [con_eq, decide_eq_false h62n, Bool.and_false])]; rfl⟩
  · skip
    refine gx_iload_n K d_Tax_addConcept_0 rfl rfl ?_
    refine gx_SNd K (z_Doc_exists _) Y_Doc_exists k223 k252 rfl ⟨gle rfl, gle rfl⟩ ⟨gle rfl, gle rfl⟩ (gle rfl) d_Tax_addConcept_1 ?_
    refine gx_if_eqB K d_Tax_addConcept_4 rfl (fun h4 => ?_) (fun h4 => ?_)
    · skip
      refine gx_iconst (v := b2i false) K d_Tax_addConcept_48 rfl ?_
      exact j49 _ (by simp [h4])
    · skip
      refine gx_iload_n K d_Tax_addConcept_7 rfl rfl ?_
      refine gx_iconst (v := 0) K d_Tax_addConcept_8 rfl ?_
      refine gx_iconst (v := 2) K d_Tax_addConcept_9 rfl ?_
      refine gx_SNd K (z_FB_within _ _ _ _) Y_FB_within k226 k253 rfl ⟨gle rfl, gle rfl⟩ ⟨gle rfl, gle rfl⟩ (gle rfl) d_Tax_addConcept_10 ?_
      refine gx_if_eqB K d_Tax_addConcept_13 rfl (fun h13 => ?_) (fun h13 => ?_)
      · skip
        refine gx_iconst (v := b2i false) K d_Tax_addConcept_48 rfl ?_
        exact j49 _ (by simp [h4, h13])
      · skip
        refine gx_iload_n K d_Tax_addConcept_16 rfl rfl ?_
        refine gx_iconst (v := 0) K d_Tax_addConcept_17 rfl ?_
        refine gx_cutI (X := if x2 = 2 then (2 : Int32) else 0) 28 ?_ (fun j28 => ?_)
        · skip
          refine gx_SNd K (z_FB_within _ _ _ _) Y_FB_within k226 k253 rfl ⟨gle rfl, gle rfl⟩ ⟨gle rfl, gle rfl⟩ (gle rfl) d_Tax_addConcept_28 ?_
          refine gx_if_eqB K d_Tax_addConcept_31 rfl (fun h31 => ?_) (fun h31 => ?_)
          · skip
            refine gx_iconst (v := b2i false) K d_Tax_addConcept_48 rfl ?_
            exact j49 _ (by simp [h4, h13, h31])
          · skip
            refine gx_iload K d_Tax_addConcept_34 rfl ?_
            refine gx_iconst (v := 0) K d_Tax_addConcept_36 rfl ?_
            refine gx_iconst (v := 1) K d_Tax_addConcept_37 rfl ?_
            refine gx_SNd K (z_FB_within _ _ _ _) Y_FB_within k226 k253 rfl ⟨gle rfl, gle rfl⟩ ⟨gle rfl, gle rfl⟩ (gle rfl) d_Tax_addConcept_38 ?_
            refine gx_if_eqB K d_Tax_addConcept_41 rfl (fun h41 => ?_) (fun h41 => ?_)
            · skip
              refine gx_iconst (v := b2i false) K d_Tax_addConcept_48 rfl ?_
              exact j49 _ (by simp [h4, h13, h31, h41])
            · skip
              refine gx_iconst (v := b2i true) K d_Tax_addConcept_44 rfl ?_
              refine gx_goto K d_Tax_addConcept_45 rfl ?_
              exact j49 _ (by simp [h4, h13, h31, h41])
        · skip
          refine gx_iload_n K d_Tax_addConcept_18 rfl rfl ?_
          refine gx_iconst (v := 2) K d_Tax_addConcept_19 rfl ?_
          refine gx_icmp_ne K d_Tax_addConcept_20 rfl (fun h20 => ?_) (fun h20 => ?_)
          · skip
            refine gx_iconst (v := 0) K d_Tax_addConcept_27 rfl ?_
            exact j28 _ (by simp [h4, h13, h20])
          · skip
            refine gx_iconst (v := 2) K d_Tax_addConcept_23 rfl ?_
            refine gx_goto K d_Tax_addConcept_24 rfl ?_
            exact j28 _ (by simp [h4, h13, h20])

