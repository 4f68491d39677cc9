set_option maxRecDepth 100000 in
set_option maxHeartbeats 4000000 in
theorem z_Mod_isLeft {l : Launch} {D : va_G} {ty : Nat → ClassId} {tt : Nat} {b : Nat → Nat} {B : Nat → Nat → Bool} {N : Nat → Nat} {E : Nat → Nat → Int32} {J : Nat → Int32} {ph : Bool} {V : Nat → Int64} {rd : Int64} {rest : va_W} (I : mI E) (hN : mN N) {x : Int32} {a : Nat} (hx : x = nI a) (ha : a < 32) : Cd l y_Mod_isLeft c_Mod_isLeft 7 (some .boolean) 2 D ty tt [.ref (b 0), .int x] (mdW b ty B N E J ph V rd rest) (some (.int (b2i (m_left B N E a)))) (mdW b ty B N E J ph V rd rest) := by
  obtain ⟨n0, n1, n2, n3, n4, n5⟩ := id hN
  subst hx
  refine Ct_of (by decide) (gle rfl) (fun p e s m args below meth c K hr hlk hin => ?_)
  refine gx_aload_n K d_Mod_isLeft_0 rfl rfl ?_
  refine gx_iload_n K d_Mod_isLeft_1 rfl rfl ?_
  refine gx_Vd K (z_Mod_counts I hN rfl (by omega)) Y_Mod_counts (ci := 12) rfl (q0 := 0) rfl k892 ks55 k890 rfl ⟨gle rfl, gle rfl⟩ ⟨gle rfl, gle rfl⟩ (gle rfl) d_Mod_isLeft_2 ?_
  refine gx_istore_n K d_Mod_isLeft_5 rfl (gle rfl) rfl ?_
  refine gx_iconst (v := 0) K d_Mod_isLeft_6 rfl ?_
  refine gx_istore_n K d_Mod_isLeft_7 rfl (gle rfl) rfl ?_
  refine gx_loop [true, true, true, true, false, false, false] (N 1) (fun i => (mdW b ty B N E J ph V rd rest)) (fun i => [some (.ref (b 0)), some (.int (nI a)), some (.int (b2i (m_counts B E a && allB (fun d => !(m_beat B E a d)) (i)))), some (.int (nI i)), none, none, none]) rfl (by simp only [allB, Bool.and_true]; rfl) (fun i hi ihi => ?_) ?_
  · skip
    refine gx_iload_n K d_Mod_isLeft_8 rfl rfl ?_
    refine gx_aload_n K d_Mod_isLeft_9 rfl rfl ?_
    refine gx_get K f_Mod_136 (q0 := 0) rfl rfl d_Mod_isLeft_10 ?_
    refine gx_icmp_geF K d_Mod_isLeft_13 rfl (nI_ge hi (by omega)) ?_
    refine gx_cut (X := m_counts B E i && m_alike E a i) 38 ?_ (fun j38 => ?_)
    · skip
      refine gx_istore K d_Mod_isLeft_38 (gle rfl) rfl ?_
      refine gx_cut (X := decide (E 10 a < E 10 i)) 60 ?_ (fun j60 => ?_)
      · skip
        refine gx_istore K d_Mod_isLeft_60 (gle rfl) rfl ?_
        refine gx_cut (X := decide (E 10 i = E 10 a) && (B 3 i || decide (i < a))) 96 ?_ (fun j96 => ?_)
        · skip
          refine gx_istore K d_Mod_isLeft_96 (gle rfl) rfl ?_
          refine gx_cut (X := ((m_counts B E a && allB (fun d => !(m_beat B E a d)) (i)) && !((m_counts B E i && m_alike E a i) && (decide (E 10 a < E 10 i) || (decide (E 10 i = E 10 a) && (B 3 i || decide (i < a))))))) 122 ?_ (fun j122 => ?_)
          · skip
            refine gx_istore_n K d_Mod_isLeft_122 rfl (gle rfl) rfl ?_
            refine gx_iinc (v := nI (i + 1)) K d_Mod_isLeft_123 rfl (nI_add _ _) (gle rfl) rfl ?_
            refine gx_goto K d_Mod_isLeft_126 rfl ?_
            exact gx_back [true, true, true, true, false, false, false] (by rw [show (m_counts B E a && allB (fun d => !(m_beat B E a d)) (i + 1)) = ((m_counts B E a && allB (fun d => !(m_beat B E a d)) (i)) && !((m_counts B E i && m_alike E a i) && (decide (E 10 a < E 10 i) || (decide (E 10 i = E 10 a) && (B 3 i || decide (i < a)))))) from (Bool.and_assoc _ _ _).symm]; rfl) rfl ihi
          · skip
            refine gx_iload_n K d_Mod_isLeft_98 rfl rfl ?_
            refine gx_if_eqB K d_Mod_isLeft_99 rfl (fun h99 => ?_) (fun h99 => ?_)
            · skip
              refine gx_iconst (v := b2i false) K d_Mod_isLeft_121 rfl ?_
              exact j122 _ (by simp [h99])
            · skip
              refine gx_iload K d_Mod_isLeft_102 rfl ?_
              refine gx_if_eqB K d_Mod_isLeft_104 rfl (fun h104 => ?_) (fun h104 => ?_)
              · skip
                refine gx_iconst (v := b2i true) K d_Mod_isLeft_117 rfl ?_
                refine gx_goto K d_Mod_isLeft_118 rfl ?_
                exact j122 _ (by simp [h99, h104])
              · skip
                refine gx_iload K d_Mod_isLeft_107 rfl ?_
                refine gx_if_neB K d_Mod_isLeft_109 rfl (fun h109 => ?_) (fun h109 => ?_)
                · skip
                  refine gx_iconst (v := b2i false) K d_Mod_isLeft_121 rfl ?_
                  exact j122 _ (by simp [h99, h104, h109])
                · skip
                  refine gx_iload K d_Mod_isLeft_112 rfl ?_
                  refine gx_if_neB K d_Mod_isLeft_114 rfl (fun h114 => ?_) (fun h114 => ?_)
                  · skip
                    refine gx_iconst (v := b2i false) K d_Mod_isLeft_121 rfl ?_
                    exact j122 _ (by simp [h99, h104, h109, h114])
                  · skip
                    refine gx_iconst (v := b2i true) K d_Mod_isLeft_117 rfl ?_
                    refine gx_goto K d_Mod_isLeft_118 rfl ?_
                    exact j122 _ (by simp [h99, h104, h109, h114])
        · skip
          refine gx_aload_n K d_Mod_isLeft_62 rfl rfl ?_
          refine gx_get K f_Mod_50 (q0 := 0) rfl rfl d_Mod_isLeft_63 ?_
          refine gx_iload_n K d_Mod_isLeft_66 rfl rfl ?_
          refine gx_iald K (q0 := 14) rfl rfl (by omega) (by decide) d_Mod_isLeft_67 ?_
          refine gx_aload_n K d_Mod_isLeft_68 rfl rfl ?_
          refine gx_get K f_Mod_50 (q0 := 0) rfl rfl d_Mod_isLeft_69 ?_
          refine gx_iload_n K d_Mod_isLeft_72 rfl rfl ?_
          refine gx_iald K (q0 := 14) rfl rfl (by omega) (by decide) d_Mod_isLeft_73 ?_
          refine gx_icmp_ne K d_Mod_isLeft_74 rfl (fun h74 => ?_) (fun h74 => ?_)
          · skip
            refine gx_iconst (v := b2i false) K d_Mod_isLeft_95 rfl ?_
            exact j96 _ (by simp [h74])
          · skip
            refine gx_aload_n K d_Mod_isLeft_77 rfl rfl ?_
            refine gx_get K f_Mod_53 (q0 := 0) rfl rfl d_Mod_isLeft_78 ?_
            refine gx_iload_n K d_Mod_isLeft_81 rfl rfl ?_
            refine gx_zld K (q0 := 15) rfl rfl (by omega) (by decide) d_Mod_isLeft_82 ?_
            refine gx_if_neB K d_Mod_isLeft_83 rfl (fun h83 => ?_) (fun h83 => ?_)
            · skip
              refine gx_iconst (v := b2i true) K d_Mod_isLeft_91 rfl ?_
              refine gx_goto K d_Mod_isLeft_92 rfl ?_
              exact j96 _ (by simp [h74, h83])
            · skip
              refine gx_iload_n K d_Mod_isLeft_86 rfl rfl ?_
              refine gx_iload_n K d_Mod_isLeft_87 rfl rfl ?_
              refine gx_icmp_ge K d_Mod_isLeft_88 rfl (fun h88 => ?_) (fun h88 => ?_)
              · skip
                have h88n : a ≤ i := (nI_leI (a := a) (b := i) (by omega) (by omega)).mp h88
                refine gx_iconst (v := b2i false) K d_Mod_isLeft_95 rfl ?_
                exact j96 _ (by simp [h74, h83, h88, h88n, Nat.not_lt.mpr h88n, Int32.not_lt.mpr h88])
              · skip
                have h88n : ¬ a ≤ i := fun q => h88 ((nI_leI (a := a) (b := i) (by omega) (by omega)).mpr q)
                refine gx_iconst (v := b2i true) K d_Mod_isLeft_91 rfl ?_
                refine gx_goto K d_Mod_isLeft_92 rfl ?_
                exact j96 _ (by simp [h74, h83, h88, h88n, Nat.not_le.mp h88n, Int32.not_le.mp h88])
      · skip
        refine gx_aload_n K d_Mod_isLeft_40 rfl rfl ?_
        refine gx_get K f_Mod_50 (q0 := 0) rfl rfl d_Mod_isLeft_41 ?_
        refine gx_iload_n K d_Mod_isLeft_44 rfl rfl ?_
        refine gx_iald K (q0 := 14) rfl rfl (by omega) (by decide) d_Mod_isLeft_45 ?_
        refine gx_aload_n K d_Mod_isLeft_46 rfl rfl ?_
        refine gx_get K f_Mod_50 (q0 := 0) rfl rfl d_Mod_isLeft_47 ?_
        refine gx_iload_n K d_Mod_isLeft_50 rfl rfl ?_
        refine gx_iald K (q0 := 14) rfl rfl (by omega) (by decide) d_Mod_isLeft_51 ?_
        refine gx_icmp_le K d_Mod_isLeft_52 rfl (fun h52 => ?_) (fun h52 => ?_)
        · skip
          refine gx_iconst (v := b2i false) K d_Mod_isLeft_59 rfl ?_
          exact j60 _ (by simp [h52, Int32.not_lt.mpr h52])
        · skip
          refine gx_iconst (v := b2i true) K d_Mod_isLeft_55 rfl ?_
          refine gx_goto K d_Mod_isLeft_56 rfl ?_
          exact j60 _ (by simp [h52, Int32.not_le.mp h52])
    · skip
      refine gx_aload_n K d_Mod_isLeft_16 rfl rfl ?_
      refine gx_iload_n K d_Mod_isLeft_17 rfl rfl ?_
      refine gx_Vd K (z_Mod_counts I hN rfl (by omega)) Y_Mod_counts (ci := 12) rfl (q0 := 0) rfl k892 ks55 k890 rfl ⟨gle rfl, gle rfl⟩ ⟨gle rfl, gle rfl⟩ (gle rfl) d_Mod_isLeft_18 ?_
      refine gx_if_eqB K d_Mod_isLeft_21 rfl (fun h21 => ?_) (fun h21 => ?_)
      · skip
        refine gx_iconst (v := b2i false) K d_Mod_isLeft_37 rfl ?_
        exact j38 _ (by simp [h21])
      · skip
        refine gx_aload_n K d_Mod_isLeft_24 rfl rfl ?_
        refine gx_iload_n K d_Mod_isLeft_25 rfl rfl ?_
        refine gx_iload_n K d_Mod_isLeft_26 rfl rfl ?_
        refine gx_Vd K (z_Mod_alike I hN rfl (by omega) rfl (by omega)) Y_Mod_alike (ci := 12) rfl (q0 := 0) rfl k900 ks57 k898 rfl ⟨gle rfl, gle rfl⟩ ⟨gle rfl, gle rfl⟩ (gle rfl) d_Mod_isLeft_27 ?_
        refine gx_if_eqB K d_Mod_isLeft_30 rfl (fun h30 => ?_) (fun h30 => ?_)
        · skip
          refine gx_iconst (v := b2i false) K d_Mod_isLeft_37 rfl ?_
          exact j38 _ (by simp [h21, h30])
        · skip
          refine gx_iconst (v := b2i true) K d_Mod_isLeft_33 rfl ?_
          refine gx_goto K d_Mod_isLeft_34 rfl ?_
          exact j38 _ (by simp [h21, h30])
  · skip
    refine gx_iload_n K d_Mod_isLeft_8 rfl rfl ?_
    refine gx_aload_n K d_Mod_isLeft_9 rfl rfl ?_
    refine gx_get K f_Mod_136 (q0 := 0) rfl rfl d_Mod_isLeft_10 ?_
    refine gx_icmp_geT K d_Mod_isLeft_13 rfl (Int32.le_refl _) ?_
    refine gx_iload_n K d_Mod_isLeft_129 rfl rfl ?_
    exact gx_zret K hr hlk d_Mod_isLeft_130 ⟨gRb (by rfl), rfl⟩

