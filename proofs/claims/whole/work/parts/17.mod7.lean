set_option maxRecDepth 100000 in
set_option maxHeartbeats 1000000 in
theorem z_Mod_sumOf {l : Launch} {D : va_G} {ty : Nat → ClassId} {tt : Nat} {b : Nat → Nat} {B : Nat → Nat → Bool} {N : Nat → Nat} {E : Nat → Nat → Int32} {J : Nat → Int32} {ph : Bool} {V : Nat → Int64} {rd : Int64} {rest : va_W} (I : mI E) (hN : mN N) {r : Int32} {xf : Int32} {f : Nat} (hxf : xf = nI f) (hf : f < 20) (hV : mV E V) : Cd l y_Mod_sumOf c_Mod_sumOf 7 (some .long) 5 D ty tt [.ref (b 0), .int r, .int xf] (mdW b ty B N E J ph V rd rest) (some (.long (m_sum B N E V r f))) (mdW b ty B N E J ph V rd rest) := by
  obtain ⟨n0, n1, n2, n3, n4, n5⟩ := id hN
  subst hxf
  refine Ct_of (by decide) (gle rfl) (fun p e s m args below meth c K hr hlk hin => ?_)
  refine gx_lconst (v := 0) K d_Mod_sumOf_0 rfl ?_
  refine gx_lstore_n K d_Mod_sumOf_1 rfl (gle rfl) rfl ?_
  refine gx_iconst (v := 0) K d_Mod_sumOf_2 rfl ?_
  refine gx_istore K d_Mod_sumOf_3 (gle rfl) rfl ?_
  refine gx_loop [true, true, true, true, false, true, false] (32 * N 5) (fun i => (mdW b ty B N E J ph V rd rest)) (fun i => [some (.ref (b 0)), some (.int r), some (.int (nI f)), some (.long (sumN (fun k => if m_is B N E r f k = true then (E 9 (k % 32)).toInt64 * m_rounded E V (k / 32) else 0) i)), none, some (.int (nI i)), none]) rfl rfl (fun i hi ihi => ?_) ?_
  · skip
    refine gx_iload K d_Mod_sumOf_5 rfl ?_
    refine gx_bipush (v := 32) K d_Mod_sumOf_7 rfl ?_
    refine gx_aload_n K d_Mod_sumOf_9 rfl rfl ?_
    refine gx_get K f_Mod_165 (q0 := 0) rfl rfl d_Mod_sumOf_10 ?_
    refine gx_imulN K (32) (N 5) d_Mod_sumOf_13 ?_
    refine gx_icmp_geF K d_Mod_sumOf_14 rfl (nI_ge hi (by omega)) ?_
    refine gx_cut (X := m_is B N E r f i) 53 ?_ (fun j53 => ?_)
    · skip
      refine gx_istore K d_Mod_sumOf_53 (gle rfl) rfl ?_
      refine gx_cutL (X := sumN (fun k => if m_is B N E r f k = true then (E 9 (k % 32)).toInt64 * m_rounded E V (k / 32) else 0) i + (if m_is B N E r f i = true then (E 9 (i % 32)).toInt64 * m_rounded E V (i / 32) else 0)) 87 ?_ (fun j87 => ?_)
      · skip
        refine gx_lstore_n K d_Mod_sumOf_87 rfl (gle rfl) rfl ?_
        refine gx_iinc (v := nI (i + 1)) K d_Mod_sumOf_88 rfl (nI_add _ _) (gle rfl) rfl ?_
        refine gx_goto K d_Mod_sumOf_91 rfl ?_
        exact gx_back [true, true, true, true, false, true, false] rfl rfl ihi
      · skip
        refine gx_iload K d_Mod_sumOf_55 rfl ?_
        refine gx_if_eqB K d_Mod_sumOf_57 rfl (fun h57 => ?_) (fun h57 => ?_)
        · skip
          refine gx_lload_n K d_Mod_sumOf_86 rfl rfl ?_
          exact j87 _ (by simp [h57])
        · skip
          refine gx_lload_n K d_Mod_sumOf_60 rfl rfl ?_
          refine gx_aload_n K d_Mod_sumOf_61 rfl rfl ?_
          refine gx_get K f_Mod_47 (q0 := 0) rfl rfl d_Mod_sumOf_62 ?_
          refine gx_iload K d_Mod_sumOf_65 rfl ?_
          refine gx_bipush (v := 32) K d_Mod_sumOf_67 rfl ?_
          refine gx_iremN K (i) (32) (by omega) (by omega) (by omega) d_Mod_sumOf_69 ?_
          refine gx_iald K (q0 := 13) rfl rfl (by omega) (by decide) d_Mod_sumOf_70 ?_
          refine gx_i2l K d_Mod_sumOf_71 ?_
          refine gx_aload_n K d_Mod_sumOf_72 rfl rfl ?_
          refine gx_iload K d_Mod_sumOf_73 rfl ?_
          refine gx_bipush (v := 32) K d_Mod_sumOf_75 rfl ?_
          refine gx_idivN K (i) (32) (by omega) (by omega) (by omega) d_Mod_sumOf_77 ?_
          refine gx_Vd K (z_Mod_roundedOf I hN rfl (by omega) hV) Y_Mod_roundedOf (ci := 12) rfl (q0 := 0) rfl k940 ks61 k938 rfl ⟨gle rfl, gle rfl⟩ ⟨gle rfl, gle rfl⟩ (gle rfl) d_Mod_sumOf_78 ?_
          refine gx_lmul K d_Mod_sumOf_81 ?_
          refine gx_ladd K d_Mod_sumOf_82 ?_
          refine gx_goto K d_Mod_sumOf_83 rfl ?_
          exact j87 _ (by simp [h57])
    · skip
      refine gx_iload K d_Mod_sumOf_17 rfl ?_
      refine gx_bipush (v := 32) K d_Mod_sumOf_19 rfl ?_
      refine gx_iremN K (i) (32) (by omega) (by omega) (by omega) d_Mod_sumOf_21 ?_
      refine gx_aload_n K d_Mod_sumOf_22 rfl rfl ?_
      refine gx_get K f_Mod_136 (q0 := 0) rfl rfl d_Mod_sumOf_23 ?_
      refine gx_icmp_ge K d_Mod_sumOf_26 rfl (fun h26 => ?_) (fun h26 => ?_)
      · skip
        have h26n : N 1 ≤ (i % 32) := (nI_leI (a := N 1) (b := (i % 32)) (by omega) (by omega)).mp h26
        refine gx_iconst (v := b2i false) K d_Mod_sumOf_52 rfl ?_
        exact j53 _ (by simp [m_is, h26, h26n, Nat.not_lt.mpr h26n, Int32.not_lt.mpr h26])
      · skip
        have h26n : ¬ N 1 ≤ (i % 32) := fun q => h26 ((nI_leI (a := N 1) (b := (i % 32)) (by omega) (by omega)).mpr q)
        refine gx_aload_n K d_Mod_sumOf_29 rfl rfl ?_
        refine gx_iload_n K d_Mod_sumOf_30 rfl rfl ?_
        refine gx_iload_n K d_Mod_sumOf_31 rfl rfl ?_
        refine gx_iload K d_Mod_sumOf_32 rfl ?_
        refine gx_bipush (v := 32) K d_Mod_sumOf_34 rfl ?_
        refine gx_iremN K (i) (32) (by omega) (by omega) (by omega) d_Mod_sumOf_36 ?_
        refine gx_iload K d_Mod_sumOf_37 rfl ?_
        refine gx_bipush (v := 32) K d_Mod_sumOf_39 rfl ?_
        refine gx_idivN K (i) (32) (by omega) (by omega) (by omega) d_Mod_sumOf_41 ?_
        refine gx_Vd K (z_Mod_part I hN rfl (by omega) rfl (by omega) rfl (by omega)) Y_Mod_part (ci := 12) rfl (q0 := 0) rfl k959 ks63 k957 rfl ⟨gle rfl, gle rfl⟩ ⟨gle rfl, gle rfl⟩ (gle rfl) d_Mod_sumOf_42 ?_
        refine gx_if_eqB K d_Mod_sumOf_45 rfl (fun h45 => ?_) (fun h45 => ?_)
        · skip
          refine gx_iconst (v := b2i false) K d_Mod_sumOf_52 rfl ?_
          exact j53 _ (by simp [m_is, h26, h26n, Nat.not_le.mp h26n, Int32.not_le.mp h26, h45])
        · skip
          refine gx_iconst (v := b2i true) K d_Mod_sumOf_48 rfl ?_
          refine gx_goto K d_Mod_sumOf_49 rfl ?_
          exact j53 _ (by simp [m_is, h26, h26n, Nat.not_le.mp h26n, Int32.not_le.mp h26, h45])
  · skip
    refine gx_iload K d_Mod_sumOf_5 rfl ?_
    refine gx_bipush (v := 32) K d_Mod_sumOf_7 rfl ?_
    refine gx_aload_n K d_Mod_sumOf_9 rfl rfl ?_
    refine gx_get K f_Mod_165 (q0 := 0) rfl rfl d_Mod_sumOf_10 ?_
    refine gx_imulN K (32) (N 5) d_Mod_sumOf_13 ?_
    refine gx_icmp_geT K d_Mod_sumOf_14 rfl (Int32.le_refl _) ?_
    refine gx_lload_n K d_Mod_sumOf_94 rfl rfl ?_
    exact gx_lret K hr hlk d_Mod_sumOf_95 ⟨rfl, rfl⟩

set_option maxRecDepth 100000 in
set_option maxHeartbeats 1000000 in
theorem z_Mod_agrees {l : Launch} {D : va_G} {ty : Nat → ClassId} {tt : Nat} {b : Nat → Nat} {B : Nat → Nat → Bool} {N : Nat → Nat} {E : Nat → Nat → Int32} {J : Nat → Int32} {ph : Bool} {V : Nat → Int64} {rd : Int64} {rest : va_W} (I : mI E) (hN : mN N) {r : Int32} {xf : Int32} {f : Nat} (hxf : xf = nI f) (hf : f < 20) (hV : mV E V) : Cd l y_Mod_agrees c_Mod_agrees 9 (some .boolean) 6 D ty tt [.ref (b 0), .int r, .int xf] (mdW b ty B N E J ph V rd rest) (some (.int (b2i (m_agrees B N E V r f)))) (mdW b ty B N E J ph V rd rest) := by
  obtain ⟨n0, n1, n2, n3, n4, n5⟩ := id hN
  subst hxf
  refine Ct_of (by decide) (gle rfl) (fun p e s m args below meth c K hr hlk hin => ?_)
  refine gx_cut (X := !(m_vague E f)) 13 ?_ (fun j13 => ?_)
  · skip
    refine gx_istore_n K d_Mod_agrees_13 rfl (gle rfl) rfl ?_
    refine gx_iconst (v := 0) K d_Mod_agrees_14 rfl ?_
    refine gx_istore K d_Mod_agrees_15 (gle rfl) rfl ?_
    refine gx_loop [true, true, true, true, true, false, false, false, false] (32 * N 5) (fun i => (mdW b ty B N E J ph V rd rest)) (fun i => [some (.ref (b 0)), some (.int r), some (.int (nI f)), some (.int (b2i (!(m_vague E f) && allB (fun k => !(m_is B N E r f k && m_vague E (k / 32))) (i)))), some (.int (nI i)), none, none, none, none]) rfl (by simp only [allB, Bool.and_true]; rfl) (fun i hi ihi => ?_) ?_
    · skip
      refine gx_iload K d_Mod_agrees_17 rfl ?_
      refine gx_bipush (v := 32) K d_Mod_agrees_19 rfl ?_
      refine gx_aload_n K d_Mod_agrees_21 rfl rfl ?_
      refine gx_get K f_Mod_165 (q0 := 0) rfl rfl d_Mod_agrees_22 ?_
      refine gx_imulN K (32) (N 5) d_Mod_agrees_25 ?_
      refine gx_icmp_geF K d_Mod_agrees_26 rfl (nI_ge hi (by omega)) ?_
      refine gx_cut (X := m_is B N E r f i) 65 ?_ (fun j65 => ?_)
      · skip
        refine gx_istore K d_Mod_agrees_65 (gle rfl) rfl ?_
        refine gx_cut (X := ((!(m_vague E f) && allB (fun k => !(m_is B N E r f k && m_vague E (k / 32))) (i)) && !(m_is B N E r f i && m_vague E (i / 32)))) 93 ?_ (fun j93 => ?_)
        · skip
          refine gx_istore_n K d_Mod_agrees_93 rfl (gle rfl) rfl ?_
          refine gx_iinc (v := nI (i + 1)) K d_Mod_agrees_94 rfl (nI_add _ _) (gle rfl) rfl ?_
          refine gx_goto K d_Mod_agrees_97 rfl ?_
          exact gx_back [true, true, true, true, true, false, false, false, false] (by rw [show (!(m_vague E f) && allB (fun k => !(m_is B N E r f k && m_vague E (k / 32))) (i + 1)) = ((!(m_vague E f) && allB (fun k => !(m_is B N E r f k && m_vague E (k / 32))) (i)) && !(m_is B N E r f i && m_vague E (i / 32))) from (Bool.and_assoc _ _ _).symm]; rfl) rfl ihi
        · skip
          refine gx_iload_n K d_Mod_agrees_67 rfl rfl ?_
          refine gx_if_eqB K d_Mod_agrees_68 rfl (fun h68 => ?_) (fun h68 => ?_)
          · skip
            refine gx_iconst (v := b2i false) K d_Mod_agrees_92 rfl ?_
            exact j93 _ (by simp only [h68, Bool.false_and, Bool.true_and, Bool.and_true, Bool.and_false, Bool.not_true, Bool.not_false])
          · skip
            refine gx_iload K d_Mod_agrees_71 rfl ?_
            refine gx_if_eqB K d_Mod_agrees_73 rfl (fun h73 => ?_) (fun h73 => ?_)
            · skip
              refine gx_iconst (v := b2i true) K d_Mod_agrees_88 rfl ?_
              refine gx_goto K d_Mod_agrees_89 rfl ?_
              exact j93 _ (by simp only [h68, h73, Bool.false_and, Bool.true_and, Bool.and_true, Bool.and_false, Bool.not_true, Bool.not_false])
            · skip
              refine gx_aload_n K d_Mod_agrees_76 rfl rfl ?_
              refine gx_iload K d_Mod_agrees_77 rfl ?_
              refine gx_bipush (v := 32) K d_Mod_agrees_79 rfl ?_
              refine gx_idivN K (i) (32) (by omega) (by omega) (by omega) d_Mod_agrees_81 ?_
              refine gx_Vd K (z_Mod_vague I hN rfl (by omega)) Y_Mod_vague (ci := 12) rfl (q0 := 0) rfl k1015 ks75 k1013 rfl ⟨gle rfl, gle rfl⟩ ⟨gle rfl, gle rfl⟩ (gle rfl) d_Mod_agrees_82 ?_
              refine gx_if_neB K d_Mod_agrees_85 rfl (fun h85 => ?_) (fun h85 => ?_)
              · skip
                refine gx_iconst (v := b2i false) K d_Mod_agrees_92 rfl ?_
                exact j93 _ (by simp only [h68, h73, h85, Bool.false_and, Bool.true_and, Bool.and_true, Bool.and_false, Bool.not_true, Bool.not_false])
              · skip
                refine gx_iconst (v := b2i true) K d_Mod_agrees_88 rfl ?_
                refine gx_goto K d_Mod_agrees_89 rfl ?_
                exact j93 _ (by simp only [h68, h73, h85, Bool.false_and, Bool.true_and, Bool.and_true, Bool.and_false, Bool.not_true, Bool.not_false])
      · skip
        refine gx_iload K d_Mod_agrees_29 rfl ?_
        refine gx_bipush (v := 32) K d_Mod_agrees_31 rfl ?_
        refine gx_iremN K (i) (32) (by omega) (by omega) (by omega) d_Mod_agrees_33 ?_
        refine gx_aload_n K d_Mod_agrees_34 rfl rfl ?_
        refine gx_get K f_Mod_136 (q0 := 0) rfl rfl d_Mod_agrees_35 ?_
        refine gx_icmp_ge K d_Mod_agrees_38 rfl (fun h38 => ?_) (fun h38 => ?_)
        · skip
          have h38n : N 1 ≤ (i % 32) := (nI_leI (a := N 1) (b := (i % 32)) (by omega) (by omega)).mp h38
          refine gx_iconst (v := b2i false) K d_Mod_agrees_64 rfl ?_
          exact j65 _ (by simp [m_is, h38, h38n, Nat.not_lt.mpr h38n, Int32.not_lt.mpr h38])
        · skip
          have h38n : ¬ N 1 ≤ (i % 32) := fun q => h38 ((nI_leI (a := N 1) (b := (i % 32)) (by omega) (by omega)).mpr q)
          refine gx_aload_n K d_Mod_agrees_41 rfl rfl ?_
          refine gx_iload_n K d_Mod_agrees_42 rfl rfl ?_
          refine gx_iload_n K d_Mod_agrees_43 rfl rfl ?_
          refine gx_iload K d_Mod_agrees_44 rfl ?_
          refine gx_bipush (v := 32) K d_Mod_agrees_46 rfl ?_
          refine gx_iremN K (i) (32) (by omega) (by omega) (by omega) d_Mod_agrees_48 ?_
          refine gx_iload K d_Mod_agrees_49 rfl ?_
          refine gx_bipush (v := 32) K d_Mod_agrees_51 rfl ?_
          refine gx_idivN K (i) (32) (by omega) (by omega) (by omega) d_Mod_agrees_53 ?_
          refine gx_Vd K (z_Mod_part I hN rfl (by omega) rfl (by omega) rfl (by omega)) Y_Mod_part (ci := 12) rfl (q0 := 0) rfl k959 ks63 k957 rfl ⟨gle rfl, gle rfl⟩ ⟨gle rfl, gle rfl⟩ (gle rfl) d_Mod_agrees_54 ?_
          refine gx_if_eqB K d_Mod_agrees_57 rfl (fun h57 => ?_) (fun h57 => ?_)
          · skip
            refine gx_iconst (v := b2i false) K d_Mod_agrees_64 rfl ?_
            exact j65 _ (by simp [m_is, h38, h38n, Nat.not_le.mp h38n, Int32.not_le.mp h38, h57])
          · skip
            refine gx_iconst (v := b2i true) K d_Mod_agrees_60 rfl ?_
            refine gx_goto K d_Mod_agrees_61 rfl ?_
            exact j65 _ (by simp [m_is, h38, h38n, Nat.not_le.mp h38n, Int32.not_le.mp h38, h57])
    · skip
      refine gx_iload K d_Mod_agrees_17 rfl ?_
      refine gx_bipush (v := 32) K d_Mod_agrees_19 rfl ?_
      refine gx_aload_n K d_Mod_agrees_21 rfl rfl ?_
      refine gx_get K f_Mod_165 (q0 := 0) rfl rfl d_Mod_agrees_22 ?_
      refine gx_imulN K (32) (N 5) d_Mod_agrees_25 ?_
      refine gx_icmp_geT K d_Mod_agrees_26 rfl (Int32.le_refl _) ?_
      refine gx_aload_n K d_Mod_agrees_100 rfl rfl ?_
      refine gx_iload_n K d_Mod_agrees_101 rfl rfl ?_
      refine gx_iload_n K d_Mod_agrees_102 rfl rfl ?_
      refine gx_Vd K (z_Mod_sumOf I hN rfl (by omega) hV) Y_Mod_sumOf (ci := 12) rfl (q0 := 0) rfl k979 ks68 k977 rfl ⟨gle rfl, gle rfl⟩ ⟨gle rfl, gle rfl⟩ (gle rfl) d_Mod_agrees_103 ?_
      refine gx_lstore K d_Mod_agrees_106 (gle rfl) rfl ?_
      refine gx_aload_n K d_Mod_agrees_108 rfl rfl ?_
      refine gx_iload_n K d_Mod_agrees_109 rfl rfl ?_
      refine gx_Vd K (z_Mod_placesOf I hN rfl (by omega) hV) Y_Mod_placesOf (ci := 12) rfl (q0 := 0) rfl k930 ks60 k928 rfl ⟨gle rfl, gle rfl⟩ ⟨gle rfl, gle rfl⟩ (gle rfl) d_Mod_agrees_110 ?_
      refine gx_istore K d_Mod_agrees_113 (gle rfl) rfl ?_
      refine gx_bipush (v := 7) K d_Mod_agrees_115 rfl ?_
      refine gx_iload K d_Mod_agrees_117 rfl ?_
      refine gx_isub K d_Mod_agrees_119 ?_
      refine gx_Sd K (z_Mod_ten _ (pl_rg (pl_in (hV.1 f)) 7 (Or.inr rfl)).1 (by have := (pl_rg (pl_in (md := E 22 f) (k := E 23 f) (v := V f) (hV.1 f)) 7 (Or.inr rfl)).2; omega)) Y_Mod_ten k943 k942 rfl ⟨gle rfl, gle rfl⟩ ⟨gle rfl, gle rfl⟩ (gle rfl) d_Mod_agrees_120 ?_
      refine gx_lstore K d_Mod_agrees_123 (gle rfl) rfl ?_
      refine gx_iload_n K d_Mod_agrees_125 rfl rfl ?_
      refine gx_if_eqB K d_Mod_agrees_126 rfl (fun h126 => ?_) (fun h126 => ?_)
      · skip
        refine gx_iconst (v := b2i false) K d_Mod_agrees_153 rfl ?_
        exact gx_zret K hr hlk d_Mod_agrees_154 ⟨gRb (by unfold m_agrees m_ten; simp only [show ((7 : Int32)) = nI 7 from rfl, h126]; first | rfl | (rw [decide_eq_true h146]; rfl) | (rw [decide_eq_false h146]; rfl) | simp), rfl⟩
      · skip
        refine gx_lload K d_Mod_agrees_129 rfl ?_
        refine gx_lload K d_Mod_agrees_131 rfl ?_
        refine gx_Sd K (z_Mod_round _ _ _ (ten_ne (by have := (pl_rg (pl_in (md := E 22 f) (k := E 23 f) (v := V f) (hV.1 f)) 7 (Or.inr rfl)).2; omega))) Y_Mod_round k946 k945 rfl ⟨gle rfl, gle rfl⟩ ⟨gle rfl, gle rfl⟩ (gle rfl) d_Mod_agrees_133 ?_
        refine gx_ldc2 K d_Mod_agrees_136 k914 ?_
        refine gx_aload_n K d_Mod_agrees_139 rfl rfl ?_
        refine gx_iload_n K d_Mod_agrees_140 rfl rfl ?_
        refine gx_Vd K (z_Mod_roundedOf I hN rfl (by omega) hV) Y_Mod_roundedOf (ci := 12) rfl (q0 := 0) rfl k940 ks61 k938 rfl ⟨gle rfl, gle rfl⟩ ⟨gle rfl, gle rfl⟩ (gle rfl) d_Mod_agrees_141 ?_
        refine gx_lmul K d_Mod_agrees_144 ?_
        refine gx_lcmp K d_Mod_agrees_145 ?_
        refine gx_ifl_ne K d_Mod_agrees_146 rfl (fun h146 => ?_) (fun h146 => ?_)
        · skip
          refine gx_iconst (v := b2i false) K d_Mod_agrees_153 rfl ?_
          exact gx_zret K hr hlk d_Mod_agrees_154 ⟨gRb (by unfold m_agrees m_ten; simp only [show ((7 : Int32)) = nI 7 from rfl, h126, h146]; first | rfl | (rw [decide_eq_true h146]; rfl) | (rw [decide_eq_false h146]; rfl) | simp), rfl⟩
        · skip
          refine gx_iconst (v := b2i true) K d_Mod_agrees_149 rfl ?_
          refine gx_goto K d_Mod_agrees_150 rfl ?_
          exact gx_zret K hr hlk d_Mod_agrees_154 ⟨gRb (by unfold m_agrees m_ten; simp only [show ((7 : Int32)) = nI 7 from rfl, h126, h146]; first | rfl | (rw [decide_eq_true h146]; rfl) | (rw [decide_eq_false h146]; rfl) | simp), rfl⟩
  · skip
    refine gx_aload_n K d_Mod_agrees_0 rfl rfl ?_
    refine gx_iload_n K d_Mod_agrees_1 rfl rfl ?_
    refine gx_Vd K (z_Mod_vague I hN rfl (by omega)) Y_Mod_vague (ci := 12) rfl (q0 := 0) rfl k1015 ks75 k1013 rfl ⟨gle rfl, gle rfl⟩ ⟨gle rfl, gle rfl⟩ (gle rfl) d_Mod_agrees_2 ?_
    refine gx_if_neB K d_Mod_agrees_5 rfl (fun h5 => ?_) (fun h5 => ?_)
    · skip
      refine gx_iconst (v := b2i false) K d_Mod_agrees_12 rfl ?_
      exact j13 _ (by simp [h5])
    · skip
      refine gx_iconst (v := b2i true) K d_Mod_agrees_8 rfl ?_
      refine gx_goto K d_Mod_agrees_9 rfl ?_
      exact j13 _ (by simp [h5])

def d_cp (en fo : Nat → Bool) : Nat → Nat → Bool
  | 0 => fo
  | i + 1 => va_up (d_cp en fo i) i (en i)
theorem d_cp_at (en fo : Nat → Bool) : ∀ n j, j < n → d_cp en fo n j = en j
  | 0, j, h => absurd h (Nat.not_lt_zero j)
  | n + 1, j, h => by
    show va_up (d_cp en fo n) n (en n) j = en j
    by_cases e : j = n
    · rw [e, va_up_self]
    · rw [gup_ne _ _ e]; exact d_cp_at en fo n j (by omega)
theorem gUpS {α : Type} (B : Nat → α) (k : Nat) : va_up B k (B k) = B := by
  funext j
  by_cases e : j = k
  · rw [e, va_up_self]
  · rw [gup_ne _ _ e]
theorem gUpU {α : Type} (B : Nat → α) (k : Nat) (x y : α) : va_up (va_up B k x) k y = va_up B k y := by
  funext j
  by_cases e : j = k
  · rw [e, va_up_self, va_up_self]
  · rw [gup_ne _ _ e, gup_ne _ _ e, gup_ne _ _ e]
/-- the documents that the reference finds -/
def d_fi (B : Nat → Nat → Bool) : Nat → Bool := d_rd (B 0) (d_cp (B 1) (B 2) 8) 8
theorem d_ex : ∃ g : (Nat → Nat → Bool) → Nat → Bool, g = d_fi := ⟨_, rfl⟩
noncomputable def d_fo : (Nat → Nat → Bool) → Nat → Bool := Classical.choose d_ex
theorem d_fo_eq : d_fo = d_fi := Classical.choose_spec d_ex
set_option maxRecDepth 100000 in
set_option maxHeartbeats 1000000 in
theorem z_Mod_discover {l : Launch} {D : va_G} {ty : Nat → ClassId} {tt : Nat} {b : Nat → Nat} {B : Nat → Nat → Bool} {N : Nat → Nat} {E : Nat → Nat → Int32} {J : Nat → Int32} {ph : Bool} {V : Nat → Int64} {rd : Int64} {rest : va_W} (I : mI E) (hN : mN N)  : Cd l y_Mod_discover c_Mod_discover 3 none 0 D ty tt [.ref (b 0)] (mdW b ty B N E J ph V rd rest) none (mdW b ty (va_up B 2 (d_fo B)) N E J ph V rd rest) := by
  obtain ⟨n0, n1, n2, n3, n4, n5⟩ := id hN
  refine Ct_of (by decide) (gle rfl) (fun p e s m args below meth c K hr hlk hin => ?_)
  refine gx_iconst (v := 0) K d_Mod_discover_0 rfl ?_
  refine gx_istore_n K d_Mod_discover_1 rfl (gle rfl) rfl ?_
  refine gx_loop [true, true, false] (8) (fun i => (mdW b ty (va_up B 2 (d_cp (B 1) (B 2) i)) N E J ph V rd rest)) (fun i => [some (.ref (b 0)), some (.int (nI i)), none]) (by rw [show va_up B 2 (d_cp (B 1) (B 2) 0) = B from gUpS B 2]) rfl (fun i hi ihi => ?_) ?_
  · skip
    refine gx_iload_n K d_Mod_discover_2 rfl rfl ?_
    refine gx_bipush (v := 8) K d_Mod_discover_3 rfl ?_
    refine gx_icmp_geF K d_Mod_discover_5 rfl (nI_ge (b := 8) hi (by decide)) ?_
    refine gx_aload_n K d_Mod_discover_8 rfl rfl ?_
    refine gx_get K f_Mod_16 (q0 := 0) rfl rfl d_Mod_discover_9 ?_
    refine gx_iload_n K d_Mod_discover_12 rfl rfl ?_
    refine gx_aload_n K d_Mod_discover_13 rfl rfl ?_
    refine gx_get K f_Mod_13 (q0 := 0) rfl rfl d_Mod_discover_14 ?_
    refine gx_iload_n K d_Mod_discover_17 rfl rfl ?_
    refine gx_zld K (q0 := 2) rfl rfl (by omega) (by decide) d_Mod_discover_18 ?_
    refine gx_zst K (q0 := 3) rfl rfl (by omega) (by decide) d_Mod_discover_19 ?_
    refine gx_iinc (v := nI (i + 1)) K d_Mod_discover_20 rfl (nI_add _ _) (gle rfl) rfl ?_
    refine gx_goto K d_Mod_discover_23 rfl ?_
    exact gx_back [true, true, false] rfl rfl ihi
  · skip
    refine gx_iload_n K d_Mod_discover_2 rfl rfl ?_
    refine gx_bipush (v := 8) K d_Mod_discover_3 rfl ?_
    refine gx_icmp_geT K d_Mod_discover_5 rfl (Int32.le_refl _) ?_
    refine gx_iconst (v := 0) K d_Mod_discover_26 rfl ?_
    refine gx_istore_n K d_Mod_discover_27 rfl (gle rfl) rfl ?_
    refine gx_loop [true, true, false] (8) (fun rr => (mdW b ty (va_up B 2 (cl_it (fun g => d_sw (B 0) g 64) (d_cp (B 1) (B 2) 8) rr)) N E J ph V rd rest)) (fun rr => [some (.ref (b 0)), some (.int (nI rr)), none]) rfl rfl (fun rr hrr ihrr => ?_) ?_
    · skip
      refine gx_iload_n K d_Mod_discover_28 rfl rfl ?_
      refine gx_bipush (v := 8) K d_Mod_discover_29 rfl ?_
      refine gx_icmp_geF K d_Mod_discover_31 rfl (nI_ge (b := 8) hrr (by decide)) ?_
      refine gx_iconst (v := 0) K d_Mod_discover_34 rfl ?_
      refine gx_istore_n K d_Mod_discover_35 rfl (gle rfl) rfl ?_
      refine gx_loop [true, true, true] (64) (fun i => (mdW b ty (va_up B 2 (d_sw (B 0) (cl_it (fun g => d_sw (B 0) g 64) (d_cp (B 1) (B 2) 8) rr) (i))) N E J ph V rd rest)) (fun i => [some (.ref (b 0)), some (.int (nI rr)), some (.int (nI i))]) rfl rfl (fun i hi ihi => ?_) ?_
      · skip
        refine gx_iload_n K d_Mod_discover_36 rfl rfl ?_
        refine gx_bipush (v := 64) K d_Mod_discover_37 rfl ?_
        refine gx_icmp_geF K d_Mod_discover_39 rfl (nI_ge (b := 64) hi (by decide)) ?_
        refine gx_aload_n K d_Mod_discover_42 rfl rfl ?_
        refine gx_get K f_Mod_16 (q0 := 0) rfl rfl d_Mod_discover_43 ?_
        refine gx_iload_n K d_Mod_discover_46 rfl rfl ?_
        refine gx_bipush (v := 8) K d_Mod_discover_47 rfl ?_
        refine gx_iremN K (i) (8) (by omega) (by omega) (by omega) d_Mod_discover_49 ?_
        refine gx_cut (X := va_up B 2 (d_sw (B 0) (cl_it (fun g => d_sw (B 0) g 64) (d_cp (B 1) (B 2) 8) rr) (i)) 2 (i % 8) || (va_up B 2 (d_sw (B 0) (cl_it (fun g => d_sw (B 0) g 64) (d_cp (B 1) (B 2) 8) rr) (i)) 2 (i / 8) && va_up B 2 (d_sw (B 0) (cl_it (fun g => d_sw (B 0) g 64) (d_cp (B 1) (B 2) 8) rr) (i)) 0 i)) 88 ?_ (fun j88 => ?_)
        · skip
          refine gx_zst K (q0 := 3) rfl rfl (by omega) (by decide) d_Mod_discover_88 ?_
          refine gx_iinc (v := nI (i + 1)) K d_Mod_discover_89 rfl (nI_add _ _) (gle rfl) rfl ?_
          refine gx_goto K d_Mod_discover_92 rfl ?_
          exact gx_back [true, true, true] rfl rfl ihi
        · skip
          refine gx_aload_n K d_Mod_discover_50 rfl rfl ?_
          refine gx_get K f_Mod_16 (q0 := 0) rfl rfl d_Mod_discover_51 ?_
          refine gx_iload_n K d_Mod_discover_54 rfl rfl ?_
          refine gx_bipush (v := 8) K d_Mod_discover_55 rfl ?_
          refine gx_iremN K (i) (8) (by omega) (by omega) (by omega) d_Mod_discover_57 ?_
          refine gx_zld K (q0 := 3) rfl rfl (by omega) (by decide) d_Mod_discover_58 ?_
          refine gx_if_neB K d_Mod_discover_59 rfl (fun h59 => ?_) (fun h59 => ?_)
          · skip
            refine gx_iconst (v := b2i true) K d_Mod_discover_83 rfl ?_
            refine gx_goto K d_Mod_discover_84 rfl ?_
            exact j88 _ (by simp [h59])
          · skip
            refine gx_aload_n K d_Mod_discover_62 rfl rfl ?_
            refine gx_get K f_Mod_16 (q0 := 0) rfl rfl d_Mod_discover_63 ?_
            refine gx_iload_n K d_Mod_discover_66 rfl rfl ?_
            refine gx_bipush (v := 8) K d_Mod_discover_67 rfl ?_
            refine gx_idivN K (i) (8) (by omega) (by omega) (by omega) d_Mod_discover_69 ?_
            refine gx_zld K (q0 := 3) rfl rfl (by omega) (by decide) d_Mod_discover_70 ?_
            refine gx_if_eqB K d_Mod_discover_71 rfl (fun h71 => ?_) (fun h71 => ?_)
            · skip
              refine gx_iconst (v := b2i false) K d_Mod_discover_87 rfl ?_
              exact j88 _ (by simp [h59, h71])
            · skip
              refine gx_aload_n K d_Mod_discover_74 rfl rfl ?_
              refine gx_get K f_Mod_7 (q0 := 0) rfl rfl d_Mod_discover_75 ?_
              refine gx_iload_n K d_Mod_discover_78 rfl rfl ?_
              refine gx_zld K (q0 := 1) rfl rfl (by omega) (by decide) d_Mod_discover_79 ?_
              refine gx_if_eqB K d_Mod_discover_80 rfl (fun h80 => ?_) (fun h80 => ?_)
              · skip
                refine gx_iconst (v := b2i false) K d_Mod_discover_87 rfl ?_
                exact j88 _ (by simp [h59, h71, h80])
              · skip
                refine gx_iconst (v := b2i true) K d_Mod_discover_83 rfl ?_
                refine gx_goto K d_Mod_discover_84 rfl ?_
                exact j88 _ (by simp [h59, h71, h80])
      · skip
        refine gx_iload_n K d_Mod_discover_36 rfl rfl ?_
        refine gx_bipush (v := 64) K d_Mod_discover_37 rfl ?_
        refine gx_icmp_geT K d_Mod_discover_39 rfl (Int32.le_refl _) ?_
        refine gx_iinc (v := nI (rr + 1)) K d_Mod_discover_95 rfl (nI_add _ _) (gle rfl) rfl ?_
        refine gx_goto K d_Mod_discover_98 rfl ?_
        exact gx_back [true, true, false] rfl rfl ihrr
    · skip
      refine gx_iload_n K d_Mod_discover_28 rfl rfl ?_
      refine gx_bipush (v := 8) K d_Mod_discover_29 rfl ?_
      refine gx_icmp_geT K d_Mod_discover_31 rfl (Int32.le_refl _) ?_
      exact gx_vret K hr hlk d_Mod_discover_101 ⟨rfl, by rw [d_fo_eq]; rfl⟩

/-- the problem that was asked for, out of those met so far -/
def paR (w : Int32) : List Int32 → Int32
  | [] => -1
  | x :: r => if nI r.length = w then x else paR w r
def pa (w : Int32) (ps : List Int32) : Int32 := paR w ps.reverse
theorem pa_add (w x : Int32) (ps : List Int32) : pa w (ps ++ [x]) = if nI ps.length = w then x else pa w ps := by
  unfold pa
  rw [List.reverse_append]
  show (if nI ps.reverse.length = w then x else _) = _
  rw [List.length_reverse]
  rfl
def mJ (J : Nat → Int32) (w : Int32) (ps : List Int32) : Nat → Int32 := va_up (va_up (va_up J 2 (nI ps.length)) 3 w) 4 (pa w ps)
theorem mJ_add (J : Nat → Int32) (w x : Int32) (ps : List Int32) : va_up (va_up (mJ J w ps) 4 (if nI ps.length = w then x else pa w ps)) 2 (nI ps.length + 1) = mJ J w (ps ++ [x]) := by
  unfold mJ
  rw [pa_add, List.length_append, show nI (ps.length + [x].length) = nI ps.length + 1 from nI_succ _]
  funext j
  by_cases h2 : j = 2
  · subst h2; rfl
  · by_cases h3 : j = 3
    · subst h3; rfl
    · by_cases h4 : j = 4
      · subst h4; rfl
      · rw [gup_ne _ _ h2, gup_ne _ _ h4, gup_ne _ _ h4, gup_ne _ _ h3, gup_ne _ _ h2, gup_ne _ _ h4, gup_ne _ _ h3, gup_ne _ _ h2]
set_option maxRecDepth 100000 in
set_option maxHeartbeats 1000000 in
theorem z_Mod_meet {l : Launch} {D : va_G} {ty : Nat → ClassId} {tt : Nat} {b : Nat → Nat} {B : Nat → Nat → Bool} {N : Nat → Nat} {E : Nat → Nat → Int32} {J : Nat → Int32} {ph : Bool} {V : Nat → Int64} {rd : Int64} {rest : va_W} (I : mI E) (hN : mN N) {w x : Int32} {ps : List Int32} : Cd l y_Mod_meet c_Mod_meet 2 none 0 D ty tt [.ref (b 0), .int x] (mdW b ty B N E (mJ J w ps) ph V rd rest) none (mdW b ty B N E (mJ J w (ps ++ [x])) ph V rd rest) := by
  obtain ⟨n0, n1, n2, n3, n4, n5⟩ := id hN
  refine Ct_of (by decide) (gle rfl) (fun p e s m args below meth c K hr hlk hin => ?_)
  refine gx_aload_n K d_Mod_meet_0 rfl rfl ?_
  refine gx_cutI (X := if nI ps.length = w then x else pa w ps) 20 ?_ (fun j20 => ?_)
  · skip
    refine gx_put K f_Mod_226 ft_Mod rfl (q0 := 0) rfl rfl rfl (gle rfl) d_Mod_meet_20 ?_
    refine gx_aload_n K d_Mod_meet_23 rfl rfl ?_
    refine gx_aload_n K d_Mod_meet_24 rfl rfl ?_
    refine gx_get K f_Mod_220 (q0 := 0) rfl rfl d_Mod_meet_25 ?_
    refine gx_iconst (v := 1) K d_Mod_meet_28 rfl ?_
    refine gx_iadd K d_Mod_meet_29 ?_
    refine gx_put K f_Mod_220 ft_Mod rfl (q0 := 0) rfl rfl rfl (gle rfl) d_Mod_meet_30 ?_
    exact gx_vret K hr hlk d_Mod_meet_33 ⟨rfl, congrArg (fun j => mdW b ty B N E j ph V rd rest) (mJ_add J w x ps)⟩
  · skip
    refine gx_aload_n K d_Mod_meet_1 rfl rfl ?_
    refine gx_get K f_Mod_220 (q0 := 0) rfl rfl d_Mod_meet_2 ?_
    refine gx_aload_n K d_Mod_meet_5 rfl rfl ?_
    refine gx_get K f_Mod_223 (q0 := 0) rfl rfl d_Mod_meet_6 ?_
    refine gx_icmp_ne K d_Mod_meet_9 rfl (fun h9 => ?_) (fun h9 => ?_)
    · skip
      refine gx_aload_n K d_Mod_meet_16 rfl rfl ?_
      refine gx_get K f_Mod_226 (q0 := 0) rfl rfl d_Mod_meet_17 ?_
      exact j20 _ (by first | exact (if_pos h9).symm | exact (if_neg h9).symm)
    · skip
      refine gx_iload_n K d_Mod_meet_12 rfl rfl ?_
      refine gx_goto K d_Mod_meet_13 rfl ?_
      exact j20 _ (by first | exact (if_pos h9).symm | exact (if_neg h9).symm)

