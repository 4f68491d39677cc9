theorem gt_eq {B : Nat → Nat → Bool} {N : Nat → Nat} {E : Nat → Nat → Int32} {V : Nat → Int64} {r : Int32} {f : Nat} (hN : mN N) : G_t B N E V r f = if m_bound B N E r f = true then m_sum B N E V r f else 0 := by
  unfold G_t
  by_cases hb : m_bound B N E r f = true
  · have h2 := hb
    unfold m_bound at h2
    rw [Bool.and_eq_true] at h2
    rw [if_pos hb, if_pos h2.2, sum_eq hN.2.1]
  · rw [if_neg hb]
    by_cases hs : m_single B N E f = true
    · rw [if_pos hs, sum_eq hN.2.1]
      unfold m_sum
      apply sumN_zero
      intro k hk
      rw [if_neg]
      intro q
      apply hb
      unfold m_bound
      rw [hs, Bool.and_true]
      exact anyB_iff.mpr ⟨k, hk, q⟩
    · rw [if_neg hs]
set_option maxRecDepth 100000 in
set_option maxHeartbeats 1000000 in
theorem z_FB_left {l : Launch} {D : va_G} {ty : Nat → ClassId} {tt : Nat} {a : Nat → Nat} {N : Nat → Nat} {r : Nat → Int32} {en re : Int32} {O : Nat → Nat → Option Nat} {z : Nat} {tx : Nat → Int32} {X : Nat → Nat → Bool} {Y : Nat → Nat → Int32} {fc : Nat} {sl : Bool} {pt : Int32} {tot : Int64} {hv : Bool} {rest : va_W} (hN : mN N) {B : Nat → Nat → Bool} {E : Nat → Nat → Int32} {V : Nat → Int64} (G : cI B N E V O rest re) (U : mU N E) (hfr : sl = false → fresh B N E V X Y fc) (x : Int32) : Ct l y_FB_left c_FB_left 2 (some .boolean) 6 0 0 D ty tt [.ref (a 0), .int x] (fbW a ty N r en re O z tx X Y fc sl pt tot hv rest) (fun v1 w1 => v1 = (some (.int (b2i (m_in x 0 (nI (N 1) - 1) && m_left B N E (ix x))))) ∧ ∃ (X1 : Nat → Nat → Bool) (Y1 : Nat → Nat → Int32) (fc1 : Nat) (sl1 : Bool) (pt1 : Int32) (tot1 : Int64) (hv1 : Bool), w1 = (fbW a ty N r en re O z tx X1 Y1 fc1 sl1 pt1 tot1 hv1 rest) ∧ (sl1 = false → fresh B N E V X1 Y1 fc1)) := by
  obtain ⟨n0, n1, n2, n3, n4, n5⟩ := id hN
  obtain ⟨pC, pA, pX, pU, pF, I, hA, hF, hre, hV⟩ := id G
  have hpl := probs_len (B := B) (E := E) (V := V) hN
  refine Ct_of (by decide) (gle rfl) (fun p e s m args below meth c K hr hlk hin => ?_)
  refine gx_aload_n K d_FB_left_0 rfl rfl ?_
  refine gx_get K f_FB_12 (q0 := 0) rfl rfl d_FB_left_1 ?_
  refine gx_iload_n K d_FB_left_4 rfl rfl ?_
  refine gx_VNd K (z_Tax_hasArc hN _) Y_Tax_hasArc (ci := 1) rfl (q0 := 1) rfl k509 ks17 k507 rfl ⟨gle rfl, gle rfl⟩ ⟨gle rfl, gle rfl⟩ (gle rfl) d_FB_left_5 ?_
  refine gx_if_neB K d_FB_left_8 rfl (fun h8 => ?_) (fun h8 => ?_)
  · skip
    have rx0 : rg x (N 1) := in_rgN h8 (by omega)
    have rx2 := rx0.2
    have rx : rg x 32 := ⟨rx0.1, by omega⟩
    refine gx_aload_n K d_FB_left_13 rfl rfl ?_
    refine gx_get K f_FB_28 (q0 := 0) rfl rfl d_FB_left_14 ?_
    refine gx_fresh K hN G U hfr ⟨gle rfl, gle rfl⟩ ⟨gle rfl, gle rfl⟩ (gle rfl) d_FB_left_17 (fun X1 Y1 pt1 tot1 hv1 hf1 => ?_)
    refine gx_aload_n K d_FB_left_20 rfl rfl ?_
    refine gx_get K f_FB_28 (q0 := 0) rfl rfl d_FB_left_21 ?_
    refine gx_getN K f_FB_114 (q0 := 12) rfl rfl d_FB_left_24 ?_
    refine gx_iload_n K d_FB_left_27 rfl rfl ?_
    refine gx_zld K (q0 := 14) rfl rx.1 rx.2 (by decide) d_FB_left_28 ?_
    exact gx_zret K hr hlk d_FB_left_29 ⟨gRb (by rw [h8, ← hf1.1 _ rx2]; rfl), ⟨X1, Y1, _, false, pt1, tot1, hv1, rfl, fun _ => hf1⟩⟩
  · skip
    refine gx_iconst (v := b2i false) K d_FB_left_11 rfl ?_
    exact gx_zret K hr hlk d_FB_left_12 ⟨gRb (by rw [h8]; rfl), ⟨X, Y, fc, sl, pt, tot, hv, rfl, hfr⟩⟩

set_option maxRecDepth 100000 in
set_option maxHeartbeats 1000000 in
theorem z_FB_problems {l : Launch} {D : va_G} {ty : Nat → ClassId} {tt : Nat} {a : Nat → Nat} {N : Nat → Nat} {r : Nat → Int32} {en re : Int32} {O : Nat → Nat → Option Nat} {z : Nat} {tx : Nat → Int32} {X : Nat → Nat → Bool} {Y : Nat → Nat → Int32} {fc : Nat} {sl : Bool} {pt : Int32} {tot : Int64} {hv : Bool} {rest : va_W} (hN : mN N) {B : Nat → Nat → Bool} {E : Nat → Nat → Int32} {V : Nat → Int64} (G : cI B N E V O rest re) (U : mU N E) (hfr : sl = false → fresh B N E V X Y fc)  : Ct l y_FB_problems c_FB_problems 1 (some .int) 6 0 0 D ty tt [.ref (a 0)] (fbW a ty N r en re O z tx X Y fc sl pt tot hv rest) (fun v1 w1 => v1 = (some (.int (nI ((m_probs B N E V).length)))) ∧ ∃ (X1 : Nat → Nat → Bool) (Y1 : Nat → Nat → Int32) (fc1 : Nat) (sl1 : Bool) (pt1 : Int32) (tot1 : Int64) (hv1 : Bool), w1 = (fbW a ty N r en re O z tx X1 Y1 fc1 sl1 pt1 tot1 hv1 rest) ∧ (sl1 = false → fresh B N E V X1 Y1 fc1)) := by
  obtain ⟨n0, n1, n2, n3, n4, n5⟩ := id hN
  obtain ⟨pC, pA, pX, pU, pF, I, hA, hF, hre, hV⟩ := id G
  have hpl := probs_len (B := B) (E := E) (V := V) hN
  refine Ct_of (by decide) (gle rfl) (fun p e s m args below meth c K hr hlk hin => ?_)
  refine gx_aload_n K d_FB_problems_0 rfl rfl ?_
  refine gx_get K f_FB_28 (q0 := 0) rfl rfl d_FB_problems_1 ?_
  refine gx_fresh K hN G U hfr ⟨gle rfl, gle rfl⟩ ⟨gle rfl, gle rfl⟩ (gle rfl) d_FB_problems_4 (fun X1 Y1 pt1 tot1 hv1 hf1 => ?_)
  refine gx_aload_n K d_FB_problems_7 rfl rfl ?_
  refine gx_get K f_FB_28 (q0 := 0) rfl rfl d_FB_problems_8 ?_
  refine gx_getN K f_FB_170 (q0 := 12) rfl rfl d_FB_problems_11 ?_
  exact gx_iret K hr hlk d_FB_problems_14 ⟨rfl, ⟨X1, Y1, _, false, pt1, tot1, hv1, rfl, fun _ => hf1⟩⟩

set_option maxRecDepth 100000 in
set_option maxHeartbeats 1000000 in
theorem z_FB_problem {l : Launch} {D : va_G} {ty : Nat → ClassId} {tt : Nat} {a : Nat → Nat} {N : Nat → Nat} {r : Nat → Int32} {en re : Int32} {O : Nat → Nat → Option Nat} {z : Nat} {tx : Nat → Int32} {X : Nat → Nat → Bool} {Y : Nat → Nat → Int32} {fc : Nat} {sl : Bool} {pt : Int32} {tot : Int64} {hv : Bool} {rest : va_W} (hN : mN N) {B : Nat → Nat → Bool} {E : Nat → Nat → Int32} {V : Nat → Int64} (G : cI B N E V O rest re) (U : mU N E) (hfr : sl = false → fresh B N E V X Y fc) (x : Int32) : Ct l y_FB_problem c_FB_problem 2 (some .int) 6 0 0 D ty tt [.ref (a 0), .int x] (fbW a ty N r en re O z tx X Y fc sl pt tot hv rest) (fun v1 w1 => v1 = (some (.int (if m_in x 0 (nI ((m_probs B N E V).length) - 1) = true then ((m_probs B N E V)[ix x]?).getD 0 else -1))) ∧ ∃ (X1 : Nat → Nat → Bool) (Y1 : Nat → Nat → Int32) (fc1 : Nat) (sl1 : Bool) (pt1 : Int32) (tot1 : Int64) (hv1 : Bool), w1 = (fbW a ty N r en re O z tx X1 Y1 fc1 sl1 pt1 tot1 hv1 rest) ∧ (sl1 = false → fresh B N E V X1 Y1 fc1)) := by
  obtain ⟨n0, n1, n2, n3, n4, n5⟩ := id hN
  obtain ⟨pC, pA, pX, pU, pF, I, hA, hF, hre, hV⟩ := id G
  have hpl := probs_len (B := B) (E := E) (V := V) hN
  refine Ct_of (by decide) (gle rfl) (fun p e s m args below meth c K hr hlk hin => ?_)
  refine gx_aload_n K d_FB_problem_0 rfl rfl ?_
  refine gx_get K f_FB_28 (q0 := 0) rfl rfl d_FB_problem_1 ?_
  refine gx_fresh K hN G U hfr ⟨gle rfl, gle rfl⟩ ⟨gle rfl, gle rfl⟩ (gle rfl) d_FB_problem_4 (fun X1 Y1 pt1 tot1 hv1 hf1 => ?_)
  refine gx_iload_n K d_FB_problem_7 rfl rfl ?_
  refine gx_iconst (v := 0) K d_FB_problem_8 rfl ?_
  refine gx_aload_n K d_FB_problem_9 rfl rfl ?_
  refine gx_get K f_FB_28 (q0 := 0) rfl rfl d_FB_problem_10 ?_
  refine gx_getN K f_FB_170 (q0 := 12) rfl rfl d_FB_problem_13 ?_
  refine gx_iconst (v := 1) K d_FB_problem_16 rfl ?_
  refine gx_isub K d_FB_problem_17 ?_
  refine gx_Sd K (z_FB_within _ _ _ _) Y_FB_within k226 k282 rfl ⟨gle rfl, gle rfl⟩ ⟨gle rfl, gle rfl⟩ (gle rfl) d_FB_problem_18 ?_
  refine gx_if_eqB K d_FB_problem_21 rfl (fun h21 => ?_) (fun h21 => ?_)
  · skip
    refine gx_iconst (v := -1) K d_FB_problem_36 rfl ?_
    exact gx_iret K hr hlk d_FB_problem_37 ⟨congrArg (fun t => some (Value.int t)) (if_neg (fun q => absurd (h21.symm.trans q) (by decide))).symm, ⟨X1, Y1, _, false, pt1, tot1, hv1, rfl, fun _ => hf1⟩⟩
  · skip
    have rx0 : rg x ((m_probs B N E V).length) := in_rgN h21 (by omega)
    have rx2 := rx0.2
    have rx : rg x 180 := ⟨rx0.1, by omega⟩
    refine gx_aload_n K d_FB_problem_24 rfl rfl ?_
    refine gx_get K f_FB_28 (q0 := 0) rfl rfl d_FB_problem_25 ?_
    refine gx_getN K f_FB_173 (q0 := 12) rfl rfl d_FB_problem_28 ?_
    refine gx_iload_n K d_FB_problem_31 rfl rfl ?_
    refine gx_iald K (q0 := 18) rfl rx.1 rx.2 (by decide) d_FB_problem_32 ?_
    refine gx_goto K d_FB_problem_33 rfl ?_
    exact gx_iret K hr hlk d_FB_problem_37 ⟨congrArg (fun t => some (Value.int t)) ((hf1.2.2.2.2 _ rx2).trans (if_pos h21).symm), ⟨X1, Y1, _, false, pt1, tot1, hv1, rfl, fun _ => hf1⟩⟩

set_option maxRecDepth 100000 in
set_option maxHeartbeats 1000000 in
theorem z_FB_sum {l : Launch} {D : va_G} {ty : Nat → ClassId} {tt : Nat} {a : Nat → Nat} {N : Nat → Nat} {r : Nat → Int32} {en re : Int32} {O : Nat → Nat → Option Nat} {z : Nat} {tx : Nat → Int32} {X : Nat → Nat → Bool} {Y : Nat → Nat → Int32} {fc : Nat} {sl : Bool} {pt : Int32} {tot : Int64} {hv : Bool} {rest : va_W} (hN : mN N) {B : Nat → Nat → Bool} {E : Nat → Nat → Int32} {V : Nat → Int64} (G : cI B N E V O rest re) (U : mU N E) (hfr : sl = false → fresh B N E V X Y fc) (x y : Int32) : Ct l y_FB_sum c_FB_sum 3 (some .long) 6 0 0 D ty tt [.ref (a 0), .int x, .int y] (fbW a ty N r en re O z tx X Y fc sl pt tot hv rest) (fun v1 w1 => v1 = (some (.long (if (m_in x 0 2 && (m_in y 0 (nI (N 5) - 1) && m_bound B N E x (ix y))) = true then m_sum B N E V x (ix y) else 0))) ∧ ∃ (X1 : Nat → Nat → Bool) (Y1 : Nat → Nat → Int32) (fc1 : Nat) (sl1 : Bool) (pt1 : Int32) (tot1 : Int64) (hv1 : Bool), w1 = (fbW a ty N r en re O z tx X1 Y1 fc1 sl1 pt1 tot1 hv1 rest) ∧ (sl1 = false → fresh B N E V X1 Y1 fc1)) := by
  obtain ⟨n0, n1, n2, n3, n4, n5⟩ := id hN
  obtain ⟨pC, pA, pX, pU, pF, I, hA, hF, hre, hV⟩ := id G
  have hpl := probs_len (B := B) (E := E) (V := V) hN
  refine Ct_of (by decide) (gle rfl) (fun p e s m args below meth c K hr hlk hin => ?_)
  refine gx_iload_n K d_FB_sum_0 rfl rfl ?_
  refine gx_iconst (v := 0) K d_FB_sum_1 rfl ?_
  refine gx_iconst (v := 2) K d_FB_sum_2 rfl ?_
  refine gx_Sd K (z_FB_within _ _ _ _) Y_FB_within k226 k282 rfl ⟨gle rfl, gle rfl⟩ ⟨gle rfl, gle rfl⟩ (gle rfl) d_FB_sum_3 ?_
  refine gx_if_eqB K d_FB_sum_6 rfl (fun h6 => ?_) (fun h6 => ?_)
  · skip
    refine gx_lconst (v := 0) K d_FB_sum_20 rfl ?_
    exact gx_lret K hr hlk d_FB_sum_21 ⟨congrArg (fun t => some (Value.long t)) (if_neg (by rw [h6]; simp)).symm, ⟨X, Y, fc, sl, pt, tot, hv, rfl, hfr⟩⟩
  · skip
    refine gx_aload_n K d_FB_sum_9 rfl rfl ?_
    refine gx_get K f_FB_19 (q0 := 0) rfl rfl d_FB_sum_10 ?_
    refine gx_iload_n K d_FB_sum_13 rfl rfl ?_
    refine gx_VNd K (z_Rep_hasFact hN _) Y_Rep_hasFact (ci := 3) rfl (q0 := 6) rfl k667 ks50 k665 rfl ⟨gle rfl, gle rfl⟩ ⟨gle rfl, gle rfl⟩ (gle rfl) d_FB_sum_14 ?_
    refine gx_if_neB K d_FB_sum_17 rfl (fun h17 => ?_) (fun h17 => ?_)
    · skip
      have ry0 : rg y (N 5) := in_rgN h17 (by omega)
      have ry2 := ry0.2
      refine gx_aload_n K d_FB_sum_22 rfl rfl ?_
      refine gx_get K f_FB_28 (q0 := 0) rfl rfl d_FB_sum_23 ?_
      refine gx_fresh K hN G U hfr ⟨gle rfl, gle rfl⟩ ⟨gle rfl, gle rfl⟩ (gle rfl) d_FB_sum_26 (fun X1 Y1 pt1 tot1 hv1 hf1 => ?_)
      refine gx_aload_n K d_FB_sum_29 rfl rfl ?_
      refine gx_get K f_FB_28 (q0 := 0) rfl rfl d_FB_sum_30 ?_
      refine gx_iload_n K d_FB_sum_33 rfl rfl ?_
      refine gx_iload_n K d_FB_sum_34 rfl rfl ?_
      refine gx_VNdv K (z_Rev_gatherParts hN x ry0.1 ry2 G hf1.2.1 hf1.2.2.1 hf1.1) Y_Rev_gatherParts (ci := 5) rfl (q0 := 12) rfl k627 ks45 k681 rfl ⟨gle rfl, gle rfl⟩ ⟨gle rfl, gle rfl⟩ (gle rfl) d_FB_sum_35 ?_
      refine gx_aload_n K d_FB_sum_38 rfl rfl ?_
      refine gx_get K f_FB_28 (q0 := 0) rfl rfl d_FB_sum_39 ?_
      refine gx_getN K f_FB_167 (q0 := 12) rfl rfl d_FB_sum_42 ?_
      exact gx_lret K hr hlk d_FB_sum_45 ⟨congrArg (fun t => some (Value.long t)) (by rw [h6, h17, Bool.true_and, Bool.true_and]; exact gt_eq hN), ⟨X1, Y1, _, false, _, _, _, rfl, fun _ => hf1⟩⟩
    · skip
      refine gx_lconst (v := 0) K d_FB_sum_20 rfl ?_
      exact gx_lret K hr hlk d_FB_sum_21 ⟨congrArg (fun t => some (Value.long t)) (if_neg (by rw [h17]; simp)).symm, ⟨X, Y, fc, sl, pt, tot, hv, rfl, hfr⟩⟩

set_option maxRecDepth 100000 in
set_option maxHeartbeats 1000000 in
theorem z_FB_concept {l : Launch} {D : va_G} {ty : Nat → ClassId} {tt : Nat} {a : Nat → Nat} {N : Nat → Nat} {r : Nat → Int32} {en re : Int32} {O : Nat → Nat → Option Nat} {z : Nat} {tx : Nat → Int32} {X : Nat → Nat → Bool} {Y : Nat → Nat → Int32} {fc : Nat} {sl : Bool} {pt : Int32} {tot : Int64} {hv : Bool} {rest : va_W} (hN : mN N) (x1 x2 x3 x4 : Int32) : Ct l y_FB_concept c_FB_concept 5 (some .int) 3 1 4 D ty tt [.ref (a 0), .int x1, .int x2, .int x3, .int x4] (fbW a ty N r en re O z tx X Y fc sl pt tot hv rest) (fun v1 w1 => ∃ q : Nat, v1 = some (.int (if k_con N x1 x2 x3 x4 = true then nI (N 0) else -1)) ∧ w1 = (if k_con N x1 x2 x3 x4 = true then (fbW a ty (va_up N 0 (N 0 + 1)) r en re (va_up O 0 (va_up (O 0) (N 0) (some q))) z tx X Y fc sl pt tot hv (rest ++ [(q, .inr (6, [.int x1, .int x2, .int x3, .int x4]))])) else (fbW a ty N r en re O z tx X Y fc sl pt tot hv rest))) := by
  obtain ⟨n0, n1, n2, n3, n4, n5⟩ := id hN
  refine Ct_of (by decide) (gle rfl) (fun p e s m args below meth c K hr hlk hin => ?_)
  refine gx_aload_n K d_FB_concept_0 rfl rfl ?_
  refine gx_get K f_FB_12 (q0 := 0) rfl rfl d_FB_concept_1 ?_
  refine gx_iload_n K d_FB_concept_4 rfl rfl ?_
  refine gx_iload_n K d_FB_concept_5 rfl rfl ?_
  refine gx_iload_n K d_FB_concept_6 rfl rfl ?_
  refine gx_iload K d_FB_concept_7 rfl ?_
  refine gx_VN K (z_Tax_addConcept hN x1 x2 x3 x4) Y_Tax_addConcept (ci := 1) rfl (q0 := 1) rfl k250 ks4 k248 rfl ⟨gle rfl, gle rfl⟩ ⟨gle rfl, gle rfl⟩ (gle rfl) d_FB_concept_9 (fun v1 w1 hp => ?_)
  obtain ⟨q, rfl, rfl⟩ := hp
  exact gx_iret K hr hlk d_FB_concept_12 ⟨q, rfl, rfl⟩

set_option maxRecDepth 100000 in
set_option maxHeartbeats 1000000 in
theorem z_FB_context {l : Launch} {D : va_G} {ty : Nat → ClassId} {tt : Nat} {a : Nat → Nat} {N : Nat → Nat} {r : Nat → Int32} {en re : Int32} {O : Nat → Nat → Option Nat} {z : Nat} {tx : Nat → Int32} {X : Nat → Nat → Bool} {Y : Nat → Nat → Int32} {fc : Nat} {sl : Bool} {pt : Int32} {tot : Int64} {hv : Bool} {rest : va_W} (hN : mN N) (x1 x2 x3 x4 : Int32) : Ct l y_FB_context c_FB_context 5 (some .int) 3 1 4 D ty tt [.ref (a 0), .int x1, .int x2, .int x3, .int x4] (fbW a ty N r en re O z tx X Y fc sl pt tot hv rest) (fun v1 w1 => ∃ q : Nat, v1 = some (.int (if k_ctx N x1 x2 x3 x4 = true then nI (N 2) else -1)) ∧ w1 = (if k_ctx N x1 x2 x3 x4 = true then (fbW a ty (va_up N 2 (N 2 + 1)) r en re (va_up O 2 (va_up (O 2) (N 2) (some q))) z tx X Y fc sl pt tot hv (rest ++ [(q, .inr (9, [.int x1, .int x2, .int x3, .int x4]))])) else (fbW a ty N r en re O z tx X Y fc sl pt tot hv rest))) := by
  obtain ⟨n0, n1, n2, n3, n4, n5⟩ := id hN
  refine Ct_of (by decide) (gle rfl) (fun p e s m args below meth c K hr hlk hin => ?_)
  refine gx_aload_n K d_FB_context_0 rfl rfl ?_
  refine gx_get K f_FB_19 (q0 := 0) rfl rfl d_FB_context_1 ?_
  refine gx_iload_n K d_FB_context_4 rfl rfl ?_
  refine gx_iload_n K d_FB_context_5 rfl rfl ?_
  refine gx_iload_n K d_FB_context_6 rfl rfl ?_
  refine gx_iload K d_FB_context_7 rfl ?_
  refine gx_VN K (z_Rep_addContext hN x1 x2 x3 x4) Y_Rep_addContext (ci := 3) rfl (q0 := 6) rfl k338 ks7 k336 rfl ⟨gle rfl, gle rfl⟩ ⟨gle rfl, gle rfl⟩ (gle rfl) d_FB_context_9 (fun v1 w1 hp => ?_)
  obtain ⟨q, rfl, rfl⟩ := hp
  exact gx_iret K hr hlk d_FB_context_12 ⟨q, rfl, rfl⟩

set_option maxRecDepth 100000 in
set_option maxHeartbeats 1000000 in
theorem z_FB_unit {l : Launch} {D : va_G} {ty : Nat → ClassId} {tt : Nat} {a : Nat → Nat} {N : Nat → Nat} {r : Nat → Int32} {en re : Int32} {O : Nat → Nat → Option Nat} {z : Nat} {tx : Nat → Int32} {X : Nat → Nat → Bool} {Y : Nat → Nat → Int32} {fc : Nat} {sl : Bool} {pt : Int32} {tot : Int64} {hv : Bool} {rest : va_W} (hN : mN N) (x1 x2 x3 : Int32) : Ct l y_FB_unit c_FB_unit 4 (some .int) 3 1 3 D ty tt [.ref (a 0), .int x1, .int x2, .int x3] (fbW a ty N r en re O z tx X Y fc sl pt tot hv rest) (fun v1 w1 => ∃ q : Nat, v1 = some (.int (if k_uni N x1 x2 x3 = true then nI (N 3) else -1)) ∧ w1 = (if k_uni N x1 x2 x3 = true then (fbW a ty (va_up N 3 (N 3 + 1)) r en re (va_up O 3 (va_up (O 3) (N 3) (some q))) z tx X Y fc sl pt tot hv (rest ++ [(q, .inr (10, [.int x1, .int x2, .int x3]))])) else (fbW a ty N r en re O z tx X Y fc sl pt tot hv rest))) := by
  obtain ⟨n0, n1, n2, n3, n4, n5⟩ := id hN
  refine Ct_of (by decide) (gle rfl) (fun p e s m args below meth c K hr hlk hin => ?_)
  refine gx_aload_n K d_FB_unit_0 rfl rfl ?_
  refine gx_get K f_FB_19 (q0 := 0) rfl rfl d_FB_unit_1 ?_
  refine gx_iload_n K d_FB_unit_4 rfl rfl ?_
  refine gx_iload_n K d_FB_unit_5 rfl rfl ?_
  refine gx_iload_n K d_FB_unit_6 rfl rfl ?_
  refine gx_VN K (z_Rep_addUnit hN x1 x2 x3) Y_Rep_addUnit (ci := 3) rfl (q0 := 6) rfl k369 ks8 k367 rfl ⟨gle rfl, gle rfl⟩ ⟨gle rfl, gle rfl⟩ (gle rfl) d_FB_unit_7 (fun v1 w1 hp => ?_)
  obtain ⟨q, rfl, rfl⟩ := hp
  exact gx_iret K hr hlk d_FB_unit_10 ⟨q, rfl, rfl⟩

theorem nI_m1 {n : Nat} (h : n < 2 ^ 30) : ¬ nI n = -1 := fun q => by
  have h1 : ¬ nI n < 0 := nI_pos (by omega)
  rw [q] at h1
  exact h1 (by decide)
set_option maxRecDepth 100000 in
set_option maxHeartbeats 1000000 in
theorem z_FB_arc {l : Launch} {D : va_G} {ty : Nat → ClassId} {tt : Nat} {a : Nat → Nat} {N : Nat → Nat} {r : Nat → Int32} {en re : Int32} {O : Nat → Nat → Option Nat} {z : Nat} {tx : Nat → Int32} {X : Nat → Nat → Bool} {Y : Nat → Nat → Int32} {fc : Nat} {sl : Bool} {pt : Int32} {tot : Int64} {hv : Bool} {rest : va_W} (hN : mN N) (x1 x2 x3 x4 x5 : Int32) : Ct l y_FB_arc c_FB_arc 7 (some .int) 3 1 6 D ty tt [.ref (a 0), .int x1, .int x2, .int x3, .int x4, .int x5] (fbW a ty N r en re O z tx X Y fc sl pt tot hv rest) (fun v1 w1 => ∃ q : Nat, v1 = some (.int (if k_arc N x1 x2 x3 x4 x5 = true then nI (N 1) else -1)) ∧ w1 = (if k_arc N x1 x2 x3 x4 x5 = true then (fbW a ty (va_up N 1 (N 1 + 1)) r en re (va_up O 1 (va_up (O 1) (N 1) (some q))) z tx X Y fc true pt tot hv (rest ++ [(q, .inr (8, [.int x1, .int x2, .int x3, .int x4, .int x5, .ref z]))])) else (fbW a ty N r en re O z tx X Y fc sl pt tot hv rest))) := by
  obtain ⟨n0, n1, n2, n3, n4, n5⟩ := id hN
  refine Ct_of (by decide) (gle rfl) (fun p e s m args below meth c K hr hlk hin => ?_)
  refine gx_aload_n K d_FB_arc_0 rfl rfl ?_
  refine gx_get K f_FB_12 (q0 := 0) rfl rfl d_FB_arc_1 ?_
  refine gx_iload_n K d_FB_arc_4 rfl rfl ?_
  refine gx_iload_n K d_FB_arc_5 rfl rfl ?_
  refine gx_iload_n K d_FB_arc_6 rfl rfl ?_
  refine gx_iload K d_FB_arc_7 rfl ?_
  refine gx_iload K d_FB_arc_9 rfl ?_
  refine gx_VN K (z_Tax_addArc hN x1 x2 x3 x4 x5) Y_Tax_addArc (ci := 1) rfl (q0 := 1) rfl k291 ks5 k289 rfl ⟨gle rfl, gle rfl⟩ ⟨gle rfl, gle rfl⟩ (gle rfl) d_FB_arc_11 (fun v1 w1 hp => ?_)
  obtain ⟨q, rfl, rfl⟩ := hp
  by_cases hk : k_arc N x1 x2 x3 x4 x5 = true
  · skip
    refine gx_ws (w1 := (fbW a ty (va_up N 1 (N 1 + 1)) r en re (va_up O 1 (va_up (O 1) (N 1) (some q))) z tx X Y fc sl pt tot hv (rest ++ [(q, .inr (8, [.int x1, .int x2, .int x3, .int x4, .int x5, .ref z]))]))) (if_pos hk) ?_
    refine gx_st (s1 := [.int (nI (N 1))]) (congrArg (fun t => [Value.int t]) (if_pos hk)) ?_
    refine gx_istore K d_FB_arc_14 (gle rfl) rfl ?_
    refine gx_iload K d_FB_arc_16 rfl ?_
    refine gx_iconst (v := -1) K d_FB_arc_18 rfl ?_
    refine gx_icmp_eqF K d_FB_arc_19 rfl (nI_m1 (by omega)) ?_
    refine gx_aload_n K d_FB_arc_22 rfl rfl ?_
    refine gx_get K f_FB_28 (q0 := 0) rfl rfl d_FB_arc_23 ?_
    refine gx_iconst (v := b2i true) K d_FB_arc_26 rfl ?_
    refine gx_putN K f_FB_42 ft_Rev rfl (q0 := 12) rfl (b2i_narrow _) (b2i_fits _) (gle rfl) d_FB_arc_27 ?_
    refine gx_ws (w1 := (fbW a ty (va_up N 1 (N 1 + 1)) r en re (va_up O 1 (va_up (O 1) (N 1) (some q))) z tx X Y fc true pt tot hv (rest ++ [(q, .inr (8, [.int x1, .int x2, .int x3, .int x4, .int x5, .ref z]))]))) rfl ?_
    refine gx_iload K d_FB_arc_30 rfl ?_
    exact gx_iret K hr hlk d_FB_arc_32 ⟨q, congrArg (fun t => some (Value.int t)) (if_pos hk).symm, (if_pos hk).symm⟩
  · skip
    refine gx_ws (w1 := (fbW a ty N r en re O z tx X Y fc sl pt tot hv rest)) (if_neg hk) ?_
    refine gx_st (s1 := [.int (-1)]) (congrArg (fun t => [Value.int t]) (if_neg hk)) ?_
    refine gx_istore K d_FB_arc_14 (gle rfl) rfl ?_
    refine gx_iload K d_FB_arc_16 rfl ?_
    refine gx_iconst (v := -1) K d_FB_arc_18 rfl ?_
    refine gx_icmp_eqT K d_FB_arc_19 rfl (rfl) ?_
    refine gx_iload K d_FB_arc_30 rfl ?_
    exact gx_iret K hr hlk d_FB_arc_32 ⟨q, congrArg (fun t => some (Value.int t)) (if_neg hk).symm, (if_neg hk).symm⟩

set_option maxRecDepth 100000 in
set_option maxHeartbeats 1000000 in
theorem z_FB_fact {l : Launch} {D : va_G} {ty : Nat → ClassId} {tt : Nat} {a : Nat → Nat} {N : Nat → Nat} {r : Nat → Int32} {en re : Int32} {O : Nat → Nat → Option Nat} {z : Nat} {tx : Nat → Int32} {X : Nat → Nat → Bool} {Y : Nat → Nat → Int32} {fc : Nat} {sl : Bool} {pt : Int32} {tot : Int64} {hv : Bool} {rest : va_W} (hN : mN N)  {B : Nat → Nat → Bool} {E : Nat → Nat → Int32} {V : Nat → Int64} (G : cI B N E V O rest re) (x1 x3 x4 x5 x6 : Int32) (hB : k_ok tx (N 4) = true → -(10 ^ 15 : Int) < (k_val tx (N 4)).toInt ∧ (k_val tx (N 4)).toInt < 10 ^ 15) : Ct l y_FB_fact c_FB_fact 8 (some .int) 4 1 8 D ty tt [.ref (a 0), .int x1, .int x3, .int x4, .int x5, .int x6] (fbW a ty N r en re O z tx X Y fc sl pt tot hv rest) (fun v1 w1 => ∃ (q xq : Nat) (ul : Value), v1 = some (.int (if (m_in x1 0 (nI (N 0) - 1) && k_fcl N tx (decide (E 1 (ix x1) = 0)) x3 x4 x5 x6) = true then nI (N 5) else -1)) ∧ w1 = (if (m_in x1 0 (nI (N 0) - 1) && k_fcl N tx (decide (E 1 (ix x1) = 0)) x3 x4 x5 x6) = true then (fbW a ty (va_up (va_up N 4 0) 5 (N 5 + 1)) r en re (va_up O 4 (va_up (O 4) (N 5) (some q))) z tx X Y fc true pt tot hv (rest ++ [(q, .inr (11, [.int x1, .ref xq, ul, .int x5, .int x6, .long (k_amt N tx (decide (E 1 (ix x1) = 0))), .int (m_places x5 x6 (k_amt N tx (decide (E 1 (ix x1) = 0)))), .long (r_m (k_amt N tx (decide (E 1 (ix x1) = 0))) (m_ten (6 - m_places x5 x6 (k_amt N tx (decide (E 1 (ix x1) = 0))))))]))])) else (fbW a ty N r en re O z tx X Y fc sl pt tot hv rest)) ∧ ((m_in x1 0 (nI (N 0) - 1) && k_fcl N tx (decide (E 1 (ix x1) = 0)) x3 x4 x5 x6) = true → O 2 (ix x3) = some xq ∧ ((x4 = -1 ∧ ul = .null) ∨ ∃ y : Nat, ¬ x4 < 0 ∧ ul = .ref y ∧ O 3 (ix x4) = some y))) := by
  obtain ⟨n0, n1, n2, n3, n4, n5⟩ := id hN
  obtain ⟨pC, pA, pX, pU, pF, I, hA, hF, hre, hV⟩ := id G
  refine Ct_of (by decide) (gle rfl) (fun p e s m args below meth c K hr hlk hin => ?_)
  refine gx_aload_n K d_FB_fact_0 rfl rfl ?_
  refine gx_get K f_FB_12 (q0 := 0) rfl rfl d_FB_fact_1 ?_
  refine gx_iload_n K d_FB_fact_4 rfl rfl ?_
  refine gx_VNd K (z_Tax_hasConcept hN _) Y_Tax_hasConcept (ci := 1) rfl (q0 := 1) rfl k295 ks6 k401 rfl ⟨gle rfl, gle rfl⟩ ⟨gle rfl, gle rfl⟩ (gle rfl) d_FB_fact_5 ?_
  refine gx_if_neB K d_FB_fact_8 rfl (fun h8 => ?_) (fun h8 => ?_)
  · skip
    have rx0 : rg x1 (N 0) := in_rgN h8 (by omega)
    have rx2 := rx0.2
    have rx : rg x1 16 := ⟨rx0.1, by omega⟩
    have hKF : (m_in x1 0 (nI (N 0) - 1) && k_fcl N tx (decide (E 1 (ix x1) = 0)) x3 x4 x5 x6) = k_fcl N tx (decide (E 1 (ix x1) = 0)) x3 x4 x5 x6 := by rw [h8, Bool.true_and]
    refine gx_cut (X := decide (E 1 (ix x1) = 0)) 33 ?_ (fun j33 => ?_)
    · skip
      refine gx_istore K d_FB_fact_33 (gle rfl) rfl ?_
      refine gx_aload_n K d_FB_fact_35 rfl rfl ?_
      refine gx_get K f_FB_19 (q0 := 0) rfl rfl d_FB_fact_36 ?_
      refine gx_iload_n K d_FB_fact_39 rfl rfl ?_
      refine gx_iload K d_FB_fact_40 rfl ?_
      refine gx_iload_n K d_FB_fact_42 rfl rfl ?_
      refine gx_iload_n K d_FB_fact_43 rfl rfl ?_
      refine gx_iload K d_FB_fact_44 rfl ?_
      refine gx_iload K d_FB_fact_46 rfl ?_
      refine gx_VN K (z_Rep_addFact hN G x1 (decide (E 1 (ix x1) = 0)) x3 x4 x5 x6 hB) Y_Rep_addFact (ci := 3) rfl (q0 := 6) rfl k404 ks10 k402 rfl ⟨gle rfl, gle rfl⟩ ⟨gle rfl, gle rfl⟩ (gle rfl) d_FB_fact_48 (fun v1 w1 hp => ?_)
      obtain ⟨q, xq, ul, rfl, rfl, hfa⟩ := hp
      by_cases hk : k_fcl N tx (decide (E 1 (ix x1) = 0)) x3 x4 x5 x6 = true
      · skip
        refine gx_ws (w1 := (fbW a ty (va_up (va_up N 4 0) 5 (N 5 + 1)) r en re (va_up O 4 (va_up (O 4) (N 5) (some q))) z tx X Y fc sl pt tot hv (rest ++ [(q, .inr (11, [.int x1, .ref xq, ul, .int x5, .int x6, .long (k_amt N tx (decide (E 1 (ix x1) = 0))), .int (m_places x5 x6 (k_amt N tx (decide (E 1 (ix x1) = 0)))), .long (r_m (k_amt N tx (decide (E 1 (ix x1) = 0))) (m_ten (6 - m_places x5 x6 (k_amt N tx (decide (E 1 (ix x1) = 0))))))]))]))) (if_pos hk) ?_
        refine gx_st (s1 := [.int (nI (N 5))]) (congrArg (fun t => [Value.int t]) (if_pos hk)) ?_
        refine gx_istore K d_FB_fact_51 (gle rfl) rfl ?_
        refine gx_iload K d_FB_fact_53 rfl ?_
        refine gx_iconst (v := -1) K d_FB_fact_55 rfl ?_
        refine gx_icmp_eqF K d_FB_fact_56 rfl (nI_m1 (by omega)) ?_
        refine gx_aload_n K d_FB_fact_59 rfl rfl ?_
        refine gx_get K f_FB_28 (q0 := 0) rfl rfl d_FB_fact_60 ?_
        refine gx_iconst (v := b2i true) K d_FB_fact_63 rfl ?_
        refine gx_putN K f_FB_42 ft_Rev rfl (q0 := 12) rfl (b2i_narrow _) (b2i_fits _) (gle rfl) d_FB_fact_64 ?_
        refine gx_ws (w1 := (fbW a ty (va_up (va_up N 4 0) 5 (N 5 + 1)) r en re (va_up O 4 (va_up (O 4) (N 5) (some q))) z tx X Y fc true pt tot hv (rest ++ [(q, .inr (11, [.int x1, .ref xq, ul, .int x5, .int x6, .long (k_amt N tx (decide (E 1 (ix x1) = 0))), .int (m_places x5 x6 (k_amt N tx (decide (E 1 (ix x1) = 0)))), .long (r_m (k_amt N tx (decide (E 1 (ix x1) = 0))) (m_ten (6 - m_places x5 x6 (k_amt N tx (decide (E 1 (ix x1) = 0))))))]))]))) rfl ?_
        refine gx_iload K d_FB_fact_67 rfl ?_
        exact gx_iret K hr hlk d_FB_fact_69 ⟨q, xq, ul, congrArg (fun t => some (Value.int t)) (if_pos (by rw [hKF]; exact hk)).symm, (if_pos (by rw [hKF]; exact hk)).symm, fun _ => hfa hk⟩
      · skip
        refine gx_ws (w1 := (fbW a ty N r en re O z tx X Y fc sl pt tot hv rest)) (if_neg hk) ?_
        refine gx_st (s1 := [.int (-1)]) (congrArg (fun t => [Value.int t]) (if_neg hk)) ?_
        refine gx_istore K d_FB_fact_51 (gle rfl) rfl ?_
        refine gx_iload K d_FB_fact_53 rfl ?_
        refine gx_iconst (v := -1) K d_FB_fact_55 rfl ?_
        refine gx_icmp_eqT K d_FB_fact_56 rfl (rfl) ?_
        refine gx_iload K d_FB_fact_67 rfl ?_
        exact gx_iret K hr hlk d_FB_fact_69 ⟨q, xq, ul, congrArg (fun t => some (Value.int t)) (if_neg (by rw [hKF]; exact hk)).symm, (if_neg (by rw [hKF]; exact hk)).symm, fun z9 => absurd (hKF.symm.trans z9) hk⟩
    · skip
      refine gx_aload_n K d_FB_fact_13 rfl rfl ?_
      refine gx_get K f_FB_12 (q0 := 0) rfl rfl d_FB_fact_14 ?_
      refine gx_getN K f_FB_91 (q0 := 1) rfl rfl d_FB_fact_17 ?_
      refine gx_iload_n K d_FB_fact_20 rfl rfl ?_
      refine gx_aald K (t := 4) rfl (q0 := 4) rfl rx.1 rx.2 (by decide) d_FB_fact_21 ?_
      obtain ⟨q21, k21, hO21, hk21⟩ := pC ((ix x1)) (by omega)
      rw [hO21]
      refine gx_getN K f_FB_95 (fb_pl hk21) rfl d_FB_fact_22 ?_
      refine gx_if_ne K d_FB_fact_25 rfl (fun h25 => ?_) (fun h25 => ?_)
      · skip
        refine gx_iconst (v := b2i false) K d_FB_fact_32 rfl ?_
        exact j33 _ (by simp [h8, h25])
      · skip
        refine gx_iconst (v := b2i true) K d_FB_fact_28 rfl ?_
        refine gx_goto K d_FB_fact_29 rfl ?_
        exact j33 _ (by simp [h8, h25])
  · skip
    refine gx_iconst (v := -1) K d_FB_fact_11 rfl ?_
    refine gx_wide (k1 := 1) (n1 := 8) (gle rfl) (gle rfl) ?_
    exact gx_iret K hr hlk d_FB_fact_12 ⟨0, 0, .null, by rw [show (m_in x1 0 (nI (N 0) - 1) && k_fcl N tx (decide (E 1 (ix x1) = 0)) x3 x4 x5 x6) = false from by rw [h8]; rfl]; rfl, by rw [show (m_in x1 0 (nI (N 0) - 1) && k_fcl N tx (decide (E 1 (ix x1) = 0)) x3 x4 x5 x6) = false from by rw [h8]; rfl]; rfl, fun z9 => absurd ((show (m_in x1 0 (nI (N 0) - 1) && k_fcl N tx (decide (E 1 (ix x1) = 0)) x3 x4 x5 x6) = false from by rw [h8]; rfl).symm.trans z9) (by decide)⟩

