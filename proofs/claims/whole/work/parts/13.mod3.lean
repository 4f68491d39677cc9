set_option maxRecDepth 100000 in
set_option maxHeartbeats 4000000 in
theorem z_Mod_equalUnits {l : Launch} {D : va_G} {ty : Nat → ClassId} {tt : Nat} {b : Nat → Nat} {B : Nat → Nat → Bool} {N : Nat → Nat} {E : Nat → Nat → Int32} {J : Nat → Int32} {ph : Bool} {V : Nat → Int64} {rd : Int64} {rest : va_W} (I : mI E) (hN : mN N) {x y : Int32} (hx : x < 0 ∨ rg x 8) (hy : y < 0 ∨ rg y 8) : Cd l y_Mod_equalUnits c_Mod_equalUnits 5 (some .boolean) 0 D ty tt [.ref (b 0), .int x, .int y] (mdW b ty B N E J ph V rd rest) (some (.int (b2i (m_eqU E x y)))) (mdW b ty B N E J ph V rd rest) := by
  obtain ⟨n0, n1, n2, n3, n4, n5⟩ := id hN
  refine Ct_of (by decide) (gle rfl) (fun p e s m args below meth c K hr hlk hin => ?_)
  refine gx_iload_n K d_Mod_equalUnits_0 rfl rfl ?_
  refine gx_if_lt K d_Mod_equalUnits_1 rfl (fun h1 => ?_) (fun h1 => ?_)
  · skip
    refine gx_iload_n K d_Mod_equalUnits_8 rfl rfl ?_
    refine gx_iload_n K d_Mod_equalUnits_9 rfl rfl ?_
    refine gx_icmp_ne K d_Mod_equalUnits_10 rfl (fun h10 => ?_) (fun h10 => ?_)
    · skip
      refine gx_iconst (v := b2i false) K d_Mod_equalUnits_17 rfl ?_
      exact gx_zret K hr hlk d_Mod_equalUnits_18 ⟨gRb (by simp [m_eqU, h1, Int32.not_le.mpr h1, h10]), rfl⟩
    · skip
      refine gx_iconst (v := b2i true) K d_Mod_equalUnits_13 rfl ?_
      refine gx_goto K d_Mod_equalUnits_14 rfl ?_
      exact gx_zret K hr hlk d_Mod_equalUnits_18 ⟨gRb (by simp [m_eqU, h1, Int32.not_le.mpr h1, h10]), rfl⟩
  · skip
    refine gx_iload_n K d_Mod_equalUnits_4 rfl rfl ?_
    refine gx_if_ge K d_Mod_equalUnits_5 rfl (fun h5 => ?_) (fun h5 => ?_)
    · skip
      have rx := hx.resolve_left h1
      have ry := hy.resolve_left (Int32.not_lt.mpr h5)
      refine gx_cut (X := decide (E 15 (ix x) = E 15 (ix y)) && decide (E 16 (ix x) = E 16 (ix y))) 54 ?_ (fun j54 => ?_)
      · skip
        refine gx_istore_n K d_Mod_equalUnits_54 rfl (gle rfl) rfl ?_
        refine gx_cut (X := decide (E 15 (ix x) = E 16 (ix y)) && decide (E 16 (ix x) = E 15 (ix y))) 90 ?_ (fun j90 => ?_)
        · skip
          refine gx_istore K d_Mod_equalUnits_90 (gle rfl) rfl ?_
          refine gx_iload_n K d_Mod_equalUnits_92 rfl rfl ?_
          refine gx_if_neB K d_Mod_equalUnits_93 rfl (fun h93 => ?_) (fun h93 => ?_)
          · skip
            refine gx_aload_n K d_Mod_equalUnits_101 rfl rfl ?_
            refine gx_get K f_Mod_74 (q0 := 0) rfl rfl d_Mod_equalUnits_102 ?_
            refine gx_iload_n K d_Mod_equalUnits_105 rfl rfl ?_
            refine gx_iald K (q0 := 22) rfl rx.1 rx.2 (by decide) d_Mod_equalUnits_106 ?_
            refine gx_aload_n K d_Mod_equalUnits_107 rfl rfl ?_
            refine gx_get K f_Mod_74 (q0 := 0) rfl rfl d_Mod_equalUnits_108 ?_
            refine gx_iload_n K d_Mod_equalUnits_111 rfl rfl ?_
            refine gx_iald K (q0 := 22) rfl ry.1 ry.2 (by decide) d_Mod_equalUnits_112 ?_
            refine gx_icmp_ne K d_Mod_equalUnits_113 rfl (fun h113 => ?_) (fun h113 => ?_)
            · skip
              refine gx_iconst (v := b2i false) K d_Mod_equalUnits_120 rfl ?_
              exact gx_zret K hr hlk d_Mod_equalUnits_121 ⟨gRb (by simp [m_eqU, h1, Int32.not_lt.mp h1, h5, Int32.not_lt.mpr h5, h93, h113]), rfl⟩
            · skip
              refine gx_iconst (v := b2i true) K d_Mod_equalUnits_116 rfl ?_
              refine gx_goto K d_Mod_equalUnits_117 rfl ?_
              exact gx_zret K hr hlk d_Mod_equalUnits_121 ⟨gRb (by simp [m_eqU, h1, Int32.not_lt.mp h1, h5, Int32.not_lt.mpr h5, h93, h113]), rfl⟩
          · skip
            refine gx_iload K d_Mod_equalUnits_96 rfl ?_
            refine gx_if_eqB K d_Mod_equalUnits_98 rfl (fun h98 => ?_) (fun h98 => ?_)
            · skip
              refine gx_iconst (v := b2i false) K d_Mod_equalUnits_120 rfl ?_
              exact gx_zret K hr hlk d_Mod_equalUnits_121 ⟨gRb (by simp [m_eqU, h1, Int32.not_lt.mp h1, h5, Int32.not_lt.mpr h5, h93, h98]), rfl⟩
            · skip
              refine gx_aload_n K d_Mod_equalUnits_101 rfl rfl ?_
              refine gx_get K f_Mod_74 (q0 := 0) rfl rfl d_Mod_equalUnits_102 ?_
              refine gx_iload_n K d_Mod_equalUnits_105 rfl rfl ?_
              refine gx_iald K (q0 := 22) rfl rx.1 rx.2 (by decide) d_Mod_equalUnits_106 ?_
              refine gx_aload_n K d_Mod_equalUnits_107 rfl rfl ?_
              refine gx_get K f_Mod_74 (q0 := 0) rfl rfl d_Mod_equalUnits_108 ?_
              refine gx_iload_n K d_Mod_equalUnits_111 rfl rfl ?_
              refine gx_iald K (q0 := 22) rfl ry.1 ry.2 (by decide) d_Mod_equalUnits_112 ?_
              refine gx_icmp_ne K d_Mod_equalUnits_113 rfl (fun h113 => ?_) (fun h113 => ?_)
              · skip
                refine gx_iconst (v := b2i false) K d_Mod_equalUnits_120 rfl ?_
                exact gx_zret K hr hlk d_Mod_equalUnits_121 ⟨gRb (by simp [m_eqU, h1, Int32.not_lt.mp h1, h5, Int32.not_lt.mpr h5, h93, h98, h113]), rfl⟩
              · skip
                refine gx_iconst (v := b2i true) K d_Mod_equalUnits_116 rfl ?_
                refine gx_goto K d_Mod_equalUnits_117 rfl ?_
                exact gx_zret K hr hlk d_Mod_equalUnits_121 ⟨gRb (by simp [m_eqU, h1, Int32.not_lt.mp h1, h5, Int32.not_lt.mpr h5, h93, h98, h113]), rfl⟩
        · skip
          refine gx_aload_n K d_Mod_equalUnits_55 rfl rfl ?_
          refine gx_get K f_Mod_68 (q0 := 0) rfl rfl d_Mod_equalUnits_56 ?_
          refine gx_iload_n K d_Mod_equalUnits_59 rfl rfl ?_
          refine gx_iald K (q0 := 20) rfl rx.1 rx.2 (by decide) d_Mod_equalUnits_60 ?_
          refine gx_aload_n K d_Mod_equalUnits_61 rfl rfl ?_
          refine gx_get K f_Mod_71 (q0 := 0) rfl rfl d_Mod_equalUnits_62 ?_
          refine gx_iload_n K d_Mod_equalUnits_65 rfl rfl ?_
          refine gx_iald K (q0 := 21) rfl ry.1 ry.2 (by decide) d_Mod_equalUnits_66 ?_
          refine gx_icmp_ne K d_Mod_equalUnits_67 rfl (fun h67 => ?_) (fun h67 => ?_)
          · skip
            refine gx_iconst (v := b2i false) K d_Mod_equalUnits_89 rfl ?_
            exact j90 _ (by simp [h1, Int32.not_lt.mp h1, h5, Int32.not_lt.mpr h5, h67])
          · skip
            refine gx_aload_n K d_Mod_equalUnits_70 rfl rfl ?_
            refine gx_get K f_Mod_71 (q0 := 0) rfl rfl d_Mod_equalUnits_71 ?_
            refine gx_iload_n K d_Mod_equalUnits_74 rfl rfl ?_
            refine gx_iald K (q0 := 21) rfl rx.1 rx.2 (by decide) d_Mod_equalUnits_75 ?_
            refine gx_aload_n K d_Mod_equalUnits_76 rfl rfl ?_
            refine gx_get K f_Mod_68 (q0 := 0) rfl rfl d_Mod_equalUnits_77 ?_
            refine gx_iload_n K d_Mod_equalUnits_80 rfl rfl ?_
            refine gx_iald K (q0 := 20) rfl ry.1 ry.2 (by decide) d_Mod_equalUnits_81 ?_
            refine gx_icmp_ne K d_Mod_equalUnits_82 rfl (fun h82 => ?_) (fun h82 => ?_)
            · skip
              refine gx_iconst (v := b2i false) K d_Mod_equalUnits_89 rfl ?_
              exact j90 _ (by simp [h1, Int32.not_lt.mp h1, h5, Int32.not_lt.mpr h5, h67, h82])
            · skip
              refine gx_iconst (v := b2i true) K d_Mod_equalUnits_85 rfl ?_
              refine gx_goto K d_Mod_equalUnits_86 rfl ?_
              exact j90 _ (by simp [h1, Int32.not_lt.mp h1, h5, Int32.not_lt.mpr h5, h67, h82])
      · skip
        refine gx_aload_n K d_Mod_equalUnits_19 rfl rfl ?_
        refine gx_get K f_Mod_68 (q0 := 0) rfl rfl d_Mod_equalUnits_20 ?_
        refine gx_iload_n K d_Mod_equalUnits_23 rfl rfl ?_
        refine gx_iald K (q0 := 20) rfl rx.1 rx.2 (by decide) d_Mod_equalUnits_24 ?_
        refine gx_aload_n K d_Mod_equalUnits_25 rfl rfl ?_
        refine gx_get K f_Mod_68 (q0 := 0) rfl rfl d_Mod_equalUnits_26 ?_
        refine gx_iload_n K d_Mod_equalUnits_29 rfl rfl ?_
        refine gx_iald K (q0 := 20) rfl ry.1 ry.2 (by decide) d_Mod_equalUnits_30 ?_
        refine gx_icmp_ne K d_Mod_equalUnits_31 rfl (fun h31 => ?_) (fun h31 => ?_)
        · skip
          refine gx_iconst (v := b2i false) K d_Mod_equalUnits_53 rfl ?_
          exact j54 _ (by simp [h1, Int32.not_lt.mp h1, h5, Int32.not_lt.mpr h5, h31])
        · skip
          refine gx_aload_n K d_Mod_equalUnits_34 rfl rfl ?_
          refine gx_get K f_Mod_71 (q0 := 0) rfl rfl d_Mod_equalUnits_35 ?_
          refine gx_iload_n K d_Mod_equalUnits_38 rfl rfl ?_
          refine gx_iald K (q0 := 21) rfl rx.1 rx.2 (by decide) d_Mod_equalUnits_39 ?_
          refine gx_aload_n K d_Mod_equalUnits_40 rfl rfl ?_
          refine gx_get K f_Mod_71 (q0 := 0) rfl rfl d_Mod_equalUnits_41 ?_
          refine gx_iload_n K d_Mod_equalUnits_44 rfl rfl ?_
          refine gx_iald K (q0 := 21) rfl ry.1 ry.2 (by decide) d_Mod_equalUnits_45 ?_
          refine gx_icmp_ne K d_Mod_equalUnits_46 rfl (fun h46 => ?_) (fun h46 => ?_)
          · skip
            refine gx_iconst (v := b2i false) K d_Mod_equalUnits_53 rfl ?_
            exact j54 _ (by simp [h1, Int32.not_lt.mp h1, h5, Int32.not_lt.mpr h5, h31, h46])
          · skip
            refine gx_iconst (v := b2i true) K d_Mod_equalUnits_49 rfl ?_
            refine gx_goto K d_Mod_equalUnits_50 rfl ?_
            exact j54 _ (by simp [h1, Int32.not_lt.mp h1, h5, Int32.not_lt.mpr h5, h31, h46])
    · skip
      refine gx_iload_n K d_Mod_equalUnits_8 rfl rfl ?_
      refine gx_iload_n K d_Mod_equalUnits_9 rfl rfl ?_
      refine gx_icmp_ne K d_Mod_equalUnits_10 rfl (fun h10 => ?_) (fun h10 => ?_)
      · skip
        refine gx_iconst (v := b2i false) K d_Mod_equalUnits_17 rfl ?_
        exact gx_zret K hr hlk d_Mod_equalUnits_18 ⟨gRb (by simp [m_eqU, h1, Int32.not_lt.mp h1, h5, Int32.not_le.mp h5, h10]), rfl⟩
      · skip
        refine gx_iconst (v := b2i true) K d_Mod_equalUnits_13 rfl ?_
        refine gx_goto K d_Mod_equalUnits_14 rfl ?_
        exact gx_zret K hr hlk d_Mod_equalUnits_18 ⟨gRb (by simp [m_eqU, h1, Int32.not_lt.mp h1, h5, Int32.not_le.mp h5, h10]), rfl⟩

set_option maxRecDepth 100000 in
set_option maxHeartbeats 4000000 in
theorem z_Mod_twins {l : Launch} {D : va_G} {ty : Nat → ClassId} {tt : Nat} {b : Nat → Nat} {B : Nat → Nat → Bool} {N : Nat → Nat} {E : Nat → Nat → Int32} {J : Nat → Int32} {ph : Bool} {V : Nat → Int64} {rd : Int64} {rest : va_W} (I : mI E) (hN : mN N) {x : Int32} {a : Nat} (hx : x = nI a) (ha : a < 20) {y : Int32} {d : Nat} (hy : y = nI d) (hd : d < 20) : Cd l y_Mod_twins c_Mod_twins 3 (some .boolean) 1 D ty tt [.ref (b 0), .int x, .int y] (mdW b ty B N E J ph V rd rest) (some (.int (b2i (m_twins E a d)))) (mdW b ty B N E J ph V rd rest) := by
  obtain ⟨n0, n1, n2, n3, n4, n5⟩ := id hN
  subst hx
  subst hy
  refine Ct_of (by decide) (gle rfl) (fun p e s m args below meth c K hr hlk hin => ?_)
  refine gx_iload_n K d_Mod_twins_0 rfl rfl ?_
  refine gx_iload_n K d_Mod_twins_1 rfl rfl ?_
  refine gx_icmp_eq K d_Mod_twins_2 rfl (fun h2 => ?_) (fun h2 => ?_)
  · skip
    have h2n : a = d := (nI_eq (a := a) (b := d) (by omega) (by omega)).mp h2
    refine gx_iconst (v := b2i false) K d_Mod_twins_62 rfl ?_
    exact gx_zret K hr hlk d_Mod_twins_63 ⟨gRb (by simp [m_twins, h2, h2n]), rfl⟩
  · skip
    have h2n : ¬ a = d := fun q => h2 ((nI_eq (a := a) (b := d) (by omega) (by omega)).mpr q)
    refine gx_aload_n K d_Mod_twins_5 rfl rfl ?_
    refine gx_get K f_Mod_80 (q0 := 0) rfl rfl d_Mod_twins_6 ?_
    refine gx_iload_n K d_Mod_twins_9 rfl rfl ?_
    refine gx_iald K (q0 := 24) rfl rfl (by omega) (by decide) d_Mod_twins_10 ?_
    refine gx_aload_n K d_Mod_twins_11 rfl rfl ?_
    refine gx_get K f_Mod_80 (q0 := 0) rfl rfl d_Mod_twins_12 ?_
    refine gx_iload_n K d_Mod_twins_15 rfl rfl ?_
    refine gx_iald K (q0 := 24) rfl rfl (by omega) (by decide) d_Mod_twins_16 ?_
    refine gx_icmp_ne K d_Mod_twins_17 rfl (fun h17 => ?_) (fun h17 => ?_)
    · skip
      refine gx_iconst (v := b2i false) K d_Mod_twins_62 rfl ?_
      exact gx_zret K hr hlk d_Mod_twins_63 ⟨gRb (by simp [m_twins, h2, h2n, h17]), rfl⟩
    · skip
      refine gx_aload_n K d_Mod_twins_20 rfl rfl ?_
      refine gx_aload_n K d_Mod_twins_21 rfl rfl ?_
      refine gx_get K f_Mod_83 (q0 := 0) rfl rfl d_Mod_twins_22 ?_
      refine gx_iload_n K d_Mod_twins_25 rfl rfl ?_
      refine gx_iald K (q0 := 25) rfl rfl (by omega) (by decide) d_Mod_twins_26 ?_
      refine gx_aload_n K d_Mod_twins_27 rfl rfl ?_
      refine gx_get K f_Mod_83 (q0 := 0) rfl rfl d_Mod_twins_28 ?_
      refine gx_iload_n K d_Mod_twins_31 rfl rfl ?_
      refine gx_iald K (q0 := 25) rfl rfl (by omega) (by decide) d_Mod_twins_32 ?_
      refine gx_Vd K (z_Mod_equalContexts I hN (I.2.2.2.2.2.1 (a)).1 (I.2.2.2.2.2.1 (a)).2 (I.2.2.2.2.2.1 (d)).1 (I.2.2.2.2.2.1 (d)).2) Y_Mod_equalContexts (ci := 12) rfl (q0 := 0) rfl k860 ks52 k858 rfl ⟨gle rfl, gle rfl⟩ ⟨gle rfl, gle rfl⟩ (gle rfl) d_Mod_twins_33 ?_
      refine gx_if_eqB K d_Mod_twins_36 rfl (fun h36 => ?_) (fun h36 => ?_)
      · skip
        refine gx_iconst (v := b2i false) K d_Mod_twins_62 rfl ?_
        exact gx_zret K hr hlk d_Mod_twins_63 ⟨gRb (by simp [m_twins, h2, h2n, h17, h36]), rfl⟩
      · skip
        refine gx_aload_n K d_Mod_twins_39 rfl rfl ?_
        refine gx_aload_n K d_Mod_twins_40 rfl rfl ?_
        refine gx_get K f_Mod_86 (q0 := 0) rfl rfl d_Mod_twins_41 ?_
        refine gx_iload_n K d_Mod_twins_44 rfl rfl ?_
        refine gx_iald K (q0 := 26) rfl rfl (by omega) (by decide) d_Mod_twins_45 ?_
        refine gx_aload_n K d_Mod_twins_46 rfl rfl ?_
        refine gx_get K f_Mod_86 (q0 := 0) rfl rfl d_Mod_twins_47 ?_
        refine gx_iload_n K d_Mod_twins_50 rfl rfl ?_
        refine gx_iald K (q0 := 26) rfl rfl (by omega) (by decide) d_Mod_twins_51 ?_
        refine gx_Vd K (z_Mod_equalUnits I hN (I.2.2.2.2.2.2 (a)) (I.2.2.2.2.2.2 (d))) Y_Mod_equalUnits (ci := 12) rfl (q0 := 0) rfl k872 ks53 k870 rfl ⟨gle rfl, gle rfl⟩ ⟨gle rfl, gle rfl⟩ (gle rfl) d_Mod_twins_52 ?_
        refine gx_if_eqB K d_Mod_twins_55 rfl (fun h55 => ?_) (fun h55 => ?_)
        · skip
          refine gx_iconst (v := b2i false) K d_Mod_twins_62 rfl ?_
          exact gx_zret K hr hlk d_Mod_twins_63 ⟨gRb (by simp [m_twins, h2, h2n, h17, h36, h55]), rfl⟩
        · skip
          refine gx_iconst (v := b2i true) K d_Mod_twins_58 rfl ?_
          refine gx_goto K d_Mod_twins_59 rfl ?_
          exact gx_zret K hr hlk d_Mod_twins_63 ⟨gRb (by simp [m_twins, h2, h2n, h17, h36, h55]), rfl⟩

set_option maxRecDepth 100000 in
set_option maxHeartbeats 4000000 in
theorem z_Mod_fault {l : Launch} {D : va_G} {ty : Nat → ClassId} {tt : Nat} {b : Nat → Nat} {B : Nat → Nat → Bool} {N : Nat → Nat} {E : Nat → Nat → Int32} {J : Nat → Int32} {ph : Bool} {V : Nat → Int64} {rd : Int64} {rest : va_W} (I : mI E) (hN : mN N) {x : Int32} {a : Nat} (hx : x = nI a) (ha : a < 20) : Cd l y_Mod_fault c_Mod_fault 6 (some .int) 1 D ty tt [.ref (b 0), .int x] (mdW b ty B N E J ph V rd rest) (some (.int (m_fault B E a))) (mdW b ty B N E J ph V rd rest) := by
  obtain ⟨n0, n1, n2, n3, n4, n5⟩ := id hN
  subst hx
  refine Ct_of (by decide) (gle rfl) (fun p e s m args below meth c K hr hlk hin => ?_)
  refine gx_aload_n K d_Mod_fault_0 rfl rfl ?_
  refine gx_get K f_Mod_80 (q0 := 0) rfl rfl d_Mod_fault_1 ?_
  refine gx_iload_n K d_Mod_fault_4 rfl rfl ?_
  refine gx_iald K (q0 := 24) rfl rfl (by omega) (by decide) d_Mod_fault_5 ?_
  refine gx_istore_n K d_Mod_fault_6 rfl (gle rfl) rfl ?_
  refine gx_aload_n K d_Mod_fault_7 rfl rfl ?_
  refine gx_get K f_Mod_86 (q0 := 0) rfl rfl d_Mod_fault_8 ?_
  refine gx_iload_n K d_Mod_fault_11 rfl rfl ?_
  refine gx_iald K (q0 := 26) rfl rfl (by omega) (by decide) d_Mod_fault_12 ?_
  refine gx_istore_n K d_Mod_fault_13 rfl (gle rfl) rfl ?_
  refine gx_aload_n K d_Mod_fault_14 rfl rfl ?_
  refine gx_iload_n K d_Mod_fault_15 rfl rfl ?_
  refine gx_Vd K (z_Mod_known I hN (I.2.2.2.2.1 (a)).1 (I.2.2.2.2.1 (a)).2) Y_Mod_known (ci := 12) rfl (q0 := 0) rfl k896 ks56 k894 rfl ⟨gle rfl, gle rfl⟩ ⟨gle rfl, gle rfl⟩ (gle rfl) d_Mod_fault_16 ?_
  refine gx_if_neB K d_Mod_fault_19 rfl (fun h19 => ?_) (fun h19 => ?_)
  · skip
    refine gx_cut (X := decide (E 1 (ix (E 19 a)) = 0)) 38 ?_ (fun j38 => ?_)
    · skip
      refine gx_istore K d_Mod_fault_38 (gle rfl) rfl ?_
      refine gx_cut (X := m_money E (E 21 a)) 78 ?_ (fun j78 => ?_)
      · skip
        refine gx_istore K d_Mod_fault_78 (gle rfl) rfl ?_
        refine gx_iload K d_Mod_fault_80 rfl ?_
        refine gx_cut (X := decide (E 21 a < 0)) 91 ?_ (fun j91 => ?_)
        · skip
          refine gx_icmp_neB K d_Mod_fault_91 rfl (fun h91 => ?_) (fun h91 => ?_)
          · skip
            refine gx_iconst (v := 2) K d_Mod_fault_109 rfl ?_
            exact gx_iret K hr hlk d_Mod_fault_110 ⟨gRi (by simp [m_fault, m_text, h19, h91] <;> simp_all), rfl⟩
          · skip
            refine gx_aload_n K d_Mod_fault_94 rfl rfl ?_
            refine gx_get K f_Mod_23 (q0 := 0) rfl rfl d_Mod_fault_95 ?_
            refine gx_iload_n K d_Mod_fault_98 rfl rfl ?_
            refine gx_iald K (q0 := 5) rfl (I.2.2.2.2.1 (a)).1 (I.2.2.2.2.1 (a)).2 (by decide) d_Mod_fault_99 ?_
            refine gx_iconst (v := 2) K d_Mod_fault_100 rfl ?_
            refine gx_icmp_ne K d_Mod_fault_101 rfl (fun h101 => ?_) (fun h101 => ?_)
            · skip
              refine gx_cut (X := decide (E 12 (ix (E 20 a)) = -1)) 131 ?_ (fun j131 => ?_)
              · skip
                refine gx_aload_n K d_Mod_fault_131 rfl rfl ?_
                refine gx_get K f_Mod_29 (q0 := 0) rfl rfl d_Mod_fault_132 ?_
                refine gx_iload_n K d_Mod_fault_135 rfl rfl ?_
                refine gx_iald K (q0 := 7) rfl (I.2.2.2.2.1 (a)).1 (I.2.2.2.2.1 (a)).2 (by decide) d_Mod_fault_136 ?_
                refine gx_if_ne K d_Mod_fault_137 rfl (fun h137 => ?_) (fun h137 => ?_)
                · skip
                  refine gx_iconst (v := b2i false) K d_Mod_fault_144 rfl ?_
                  refine gx_icmp_eqB K d_Mod_fault_145 rfl (fun h145 => ?_) (fun h145 => ?_)
                  · skip
                    refine gx_iload K d_Mod_fault_150 rfl ?_
                    refine gx_cut (X := decide (E 22 a = 0)) 166 ?_ (fun j166 => ?_)
                    · skip
                      refine gx_icmp_neB K d_Mod_fault_166 rfl (fun h166 => ?_) (fun h166 => ?_)
                      · skip
                        refine gx_iconst (v := 4) K d_Mod_fault_173 rfl ?_
                        exact gx_iret K hr hlk d_Mod_fault_174 ⟨gRi (by simp [m_fault, m_text, h19, h91, h101, h137, h145, h166] <;> simp_all), rfl⟩
                      · skip
                        refine gx_iconst (v := 0) K d_Mod_fault_169 rfl ?_
                        refine gx_goto K d_Mod_fault_170 rfl ?_
                        exact gx_iret K hr hlk d_Mod_fault_174 ⟨gRi (by simp [m_fault, m_text, h19, h91, h101, h137, h145, h166] <;> simp_all), rfl⟩
                    · skip
                      refine gx_aload_n K d_Mod_fault_152 rfl rfl ?_
                      refine gx_get K f_Mod_89 (q0 := 0) rfl rfl d_Mod_fault_153 ?_
                      refine gx_iload_n K d_Mod_fault_156 rfl rfl ?_
                      refine gx_iald K (q0 := 27) rfl rfl (by omega) (by decide) d_Mod_fault_157 ?_
                      refine gx_if_ne K d_Mod_fault_158 rfl (fun h158 => ?_) (fun h158 => ?_)
                      · skip
                        refine gx_iconst (v := b2i false) K d_Mod_fault_165 rfl ?_
                        exact j166 _ (by simp [h19, h91, h101, h137, h145, h158])
                      · skip
                        refine gx_iconst (v := b2i true) K d_Mod_fault_161 rfl ?_
                        refine gx_goto K d_Mod_fault_162 rfl ?_
                        exact j166 _ (by simp [h19, h91, h101, h137, h145, h158])
                  · skip
                    refine gx_iconst (v := 3) K d_Mod_fault_148 rfl ?_
                    exact gx_iret K hr hlk d_Mod_fault_149 ⟨gRi (by simp [m_fault, m_text, h19, h91, h101, h137, h145] <;> simp_all), rfl⟩
                · skip
                  refine gx_iconst (v := b2i true) K d_Mod_fault_140 rfl ?_
                  refine gx_goto K d_Mod_fault_141 rfl ?_
                  refine gx_icmp_eqB K d_Mod_fault_145 rfl (fun h145 => ?_) (fun h145 => ?_)
                  · skip
                    refine gx_iload K d_Mod_fault_150 rfl ?_
                    refine gx_cut (X := decide (E 22 a = 0)) 166 ?_ (fun j166 => ?_)
                    · skip
                      refine gx_icmp_neB K d_Mod_fault_166 rfl (fun h166 => ?_) (fun h166 => ?_)
                      · skip
                        refine gx_iconst (v := 4) K d_Mod_fault_173 rfl ?_
                        exact gx_iret K hr hlk d_Mod_fault_174 ⟨gRi (by simp [m_fault, m_text, h19, h91, h101, h137, h145, h166] <;> simp_all), rfl⟩
                      · skip
                        refine gx_iconst (v := 0) K d_Mod_fault_169 rfl ?_
                        refine gx_goto K d_Mod_fault_170 rfl ?_
                        exact gx_iret K hr hlk d_Mod_fault_174 ⟨gRi (by simp [m_fault, m_text, h19, h91, h101, h137, h145, h166] <;> simp_all), rfl⟩
                    · skip
                      refine gx_aload_n K d_Mod_fault_152 rfl rfl ?_
                      refine gx_get K f_Mod_89 (q0 := 0) rfl rfl d_Mod_fault_153 ?_
                      refine gx_iload_n K d_Mod_fault_156 rfl rfl ?_
                      refine gx_iald K (q0 := 27) rfl rfl (by omega) (by decide) d_Mod_fault_157 ?_
                      refine gx_if_ne K d_Mod_fault_158 rfl (fun h158 => ?_) (fun h158 => ?_)
                      · skip
                        refine gx_iconst (v := b2i false) K d_Mod_fault_165 rfl ?_
                        exact j166 _ (by simp [h19, h91, h101, h137, h145, h158])
                      · skip
                        refine gx_iconst (v := b2i true) K d_Mod_fault_161 rfl ?_
                        refine gx_goto K d_Mod_fault_162 rfl ?_
                        exact j166 _ (by simp [h19, h91, h101, h137, h145, h158])
                  · skip
                    refine gx_iconst (v := 3) K d_Mod_fault_148 rfl ?_
                    exact gx_iret K hr hlk d_Mod_fault_149 ⟨gRi (by simp [m_fault, m_text, h19, h91, h101, h137, h145] <;> simp_all), rfl⟩
              · skip
                refine gx_aload_n K d_Mod_fault_111 rfl rfl ?_
                refine gx_get K f_Mod_59 (q0 := 0) rfl rfl d_Mod_fault_112 ?_
                refine gx_aload_n K d_Mod_fault_115 rfl rfl ?_
                refine gx_get K f_Mod_83 (q0 := 0) rfl rfl d_Mod_fault_116 ?_
                refine gx_iload_n K d_Mod_fault_119 rfl rfl ?_
                refine gx_iald K (q0 := 25) rfl rfl (by omega) (by decide) d_Mod_fault_120 ?_
                refine gx_iald K (q0 := 17) rfl (I.2.2.2.2.2.1 (a)).1 (I.2.2.2.2.2.1 (a)).2 (by decide) d_Mod_fault_121 ?_
                refine gx_iconst (v := -1) K d_Mod_fault_122 rfl ?_
                refine gx_icmp_ne K d_Mod_fault_123 rfl (fun h123 => ?_) (fun h123 => ?_)
                · skip
                  refine gx_iconst (v := b2i false) K d_Mod_fault_130 rfl ?_
                  exact j131 _ (by simp [h19, h91, h101, h123])
                · skip
                  refine gx_iconst (v := b2i true) K d_Mod_fault_126 rfl ?_
                  refine gx_goto K d_Mod_fault_127 rfl ?_
                  exact j131 _ (by simp [h19, h91, h101, h123])
            · skip
              refine gx_iload K d_Mod_fault_104 rfl ?_
              refine gx_if_neB K d_Mod_fault_106 rfl (fun h106 => ?_) (fun h106 => ?_)
              · skip
                refine gx_cut (X := decide (E 12 (ix (E 20 a)) = -1)) 131 ?_ (fun j131 => ?_)
                · skip
                  refine gx_aload_n K d_Mod_fault_131 rfl rfl ?_
                  refine gx_get K f_Mod_29 (q0 := 0) rfl rfl d_Mod_fault_132 ?_
                  refine gx_iload_n K d_Mod_fault_135 rfl rfl ?_
                  refine gx_iald K (q0 := 7) rfl (I.2.2.2.2.1 (a)).1 (I.2.2.2.2.1 (a)).2 (by decide) d_Mod_fault_136 ?_
                  refine gx_if_ne K d_Mod_fault_137 rfl (fun h137 => ?_) (fun h137 => ?_)
                  · skip
                    refine gx_iconst (v := b2i false) K d_Mod_fault_144 rfl ?_
                    refine gx_icmp_eqB K d_Mod_fault_145 rfl (fun h145 => ?_) (fun h145 => ?_)
                    · skip
                      refine gx_iload K d_Mod_fault_150 rfl ?_
                      refine gx_cut (X := decide (E 22 a = 0)) 166 ?_ (fun j166 => ?_)
                      · skip
                        refine gx_icmp_neB K d_Mod_fault_166 rfl (fun h166 => ?_) (fun h166 => ?_)
                        · skip
                          refine gx_iconst (v := 4) K d_Mod_fault_173 rfl ?_
                          exact gx_iret K hr hlk d_Mod_fault_174 ⟨gRi (by simp [m_fault, m_text, h19, h91, h101, h106, h137, h145, h166] <;> simp_all), rfl⟩
                        · skip
                          refine gx_iconst (v := 0) K d_Mod_fault_169 rfl ?_
                          refine gx_goto K d_Mod_fault_170 rfl ?_
                          exact gx_iret K hr hlk d_Mod_fault_174 ⟨gRi (by simp [m_fault, m_text, h19, h91, h101, h106, h137, h145, h166] <;> simp_all), rfl⟩
                      · skip
                        refine gx_aload_n K d_Mod_fault_152 rfl rfl ?_
                        refine gx_get K f_Mod_89 (q0 := 0) rfl rfl d_Mod_fault_153 ?_
                        refine gx_iload_n K d_Mod_fault_156 rfl rfl ?_
                        refine gx_iald K (q0 := 27) rfl rfl (by omega) (by decide) d_Mod_fault_157 ?_
                        refine gx_if_ne K d_Mod_fault_158 rfl (fun h158 => ?_) (fun h158 => ?_)
                        · skip
                          refine gx_iconst (v := b2i false) K d_Mod_fault_165 rfl ?_
                          exact j166 _ (by simp [h19, h91, h101, h106, h137, h145, h158])
                        · skip
                          refine gx_iconst (v := b2i true) K d_Mod_fault_161 rfl ?_
                          refine gx_goto K d_Mod_fault_162 rfl ?_
                          exact j166 _ (by simp [h19, h91, h101, h106, h137, h145, h158])
                    · skip
                      refine gx_iconst (v := 3) K d_Mod_fault_148 rfl ?_
                      exact gx_iret K hr hlk d_Mod_fault_149 ⟨gRi (by simp [m_fault, m_text, h19, h91, h101, h106, h137, h145] <;> simp_all), rfl⟩
                  · skip
                    refine gx_iconst (v := b2i true) K d_Mod_fault_140 rfl ?_
                    refine gx_goto K d_Mod_fault_141 rfl ?_
                    refine gx_icmp_eqB K d_Mod_fault_145 rfl (fun h145 => ?_) (fun h145 => ?_)
                    · skip
                      refine gx_iload K d_Mod_fault_150 rfl ?_
                      refine gx_cut (X := decide (E 22 a = 0)) 166 ?_ (fun j166 => ?_)
                      · skip
                        refine gx_icmp_neB K d_Mod_fault_166 rfl (fun h166 => ?_) (fun h166 => ?_)
                        · skip
                          refine gx_iconst (v := 4) K d_Mod_fault_173 rfl ?_
                          exact gx_iret K hr hlk d_Mod_fault_174 ⟨gRi (by simp [m_fault, m_text, h19, h91, h101, h106, h137, h145, h166] <;> simp_all), rfl⟩
                        · skip
                          refine gx_iconst (v := 0) K d_Mod_fault_169 rfl ?_
                          refine gx_goto K d_Mod_fault_170 rfl ?_
                          exact gx_iret K hr hlk d_Mod_fault_174 ⟨gRi (by simp [m_fault, m_text, h19, h91, h101, h106, h137, h145, h166] <;> simp_all), rfl⟩
                      · skip
                        refine gx_aload_n K d_Mod_fault_152 rfl rfl ?_
                        refine gx_get K f_Mod_89 (q0 := 0) rfl rfl d_Mod_fault_153 ?_
                        refine gx_iload_n K d_Mod_fault_156 rfl rfl ?_
                        refine gx_iald K (q0 := 27) rfl rfl (by omega) (by decide) d_Mod_fault_157 ?_
                        refine gx_if_ne K d_Mod_fault_158 rfl (fun h158 => ?_) (fun h158 => ?_)
                        · skip
                          refine gx_iconst (v := b2i false) K d_Mod_fault_165 rfl ?_
                          exact j166 _ (by simp [h19, h91, h101, h106, h137, h145, h158])
                        · skip
                          refine gx_iconst (v := b2i true) K d_Mod_fault_161 rfl ?_
                          refine gx_goto K d_Mod_fault_162 rfl ?_
                          exact j166 _ (by simp [h19, h91, h101, h106, h137, h145, h158])
                    · skip
                      refine gx_iconst (v := 3) K d_Mod_fault_148 rfl ?_
                      exact gx_iret K hr hlk d_Mod_fault_149 ⟨gRi (by simp [m_fault, m_text, h19, h91, h101, h106, h137, h145] <;> simp_all), rfl⟩
                · skip
                  refine gx_aload_n K d_Mod_fault_111 rfl rfl ?_
                  refine gx_get K f_Mod_59 (q0 := 0) rfl rfl d_Mod_fault_112 ?_
                  refine gx_aload_n K d_Mod_fault_115 rfl rfl ?_
                  refine gx_get K f_Mod_83 (q0 := 0) rfl rfl d_Mod_fault_116 ?_
                  refine gx_iload_n K d_Mod_fault_119 rfl rfl ?_
                  refine gx_iald K (q0 := 25) rfl rfl (by omega) (by decide) d_Mod_fault_120 ?_
                  refine gx_iald K (q0 := 17) rfl (I.2.2.2.2.2.1 (a)).1 (I.2.2.2.2.2.1 (a)).2 (by decide) d_Mod_fault_121 ?_
                  refine gx_iconst (v := -1) K d_Mod_fault_122 rfl ?_
                  refine gx_icmp_ne K d_Mod_fault_123 rfl (fun h123 => ?_) (fun h123 => ?_)
                  · skip
                    refine gx_iconst (v := b2i false) K d_Mod_fault_130 rfl ?_
                    exact j131 _ (by simp [h19, h91, h101, h106, h123])
                  · skip
                    refine gx_iconst (v := b2i true) K d_Mod_fault_126 rfl ?_
                    refine gx_goto K d_Mod_fault_127 rfl ?_
                    exact j131 _ (by simp [h19, h91, h101, h106, h123])
              · skip
                refine gx_iconst (v := 2) K d_Mod_fault_109 rfl ?_
                exact gx_iret K hr hlk d_Mod_fault_110 ⟨gRi (by simp [m_fault, m_text, h19, h91, h101, h106] <;> simp_all), rfl⟩
        · skip
          refine gx_iload_n K d_Mod_fault_82 rfl rfl ?_
          refine gx_if_ge K d_Mod_fault_83 rfl (fun h83 => ?_) (fun h83 => ?_)
          · skip
            refine gx_iconst (v := b2i false) K d_Mod_fault_90 rfl ?_
            exact j91 _ (by simp [h19, h83, Int32.not_lt.mpr h83])
          · skip
            refine gx_iconst (v := b2i true) K d_Mod_fault_86 rfl ?_
            refine gx_goto K d_Mod_fault_87 rfl ?_
            exact j91 _ (by simp [h19, h83, Int32.not_le.mp h83])
      · skip
        refine gx_iload_n K d_Mod_fault_40 rfl rfl ?_
        refine gx_if_lt K d_Mod_fault_41 rfl (fun h41 => ?_) (fun h41 => ?_)
        · skip
          refine gx_iconst (v := b2i false) K d_Mod_fault_77 rfl ?_
          exact j78 _ (by simp [m_money, h19, h41, Int32.not_le.mpr h41])
        · skip
          have ru := (I.2.2.2.2.2.2 a).resolve_left h41
          refine gx_aload_n K d_Mod_fault_44 rfl rfl ?_
          refine gx_get K f_Mod_68 (q0 := 0) rfl rfl d_Mod_fault_45 ?_
          refine gx_iload_n K d_Mod_fault_48 rfl rfl ?_
          refine gx_iald K (q0 := 20) rfl ru.1 ru.2 (by decide) d_Mod_fault_49 ?_
          refine gx_bipush (v := 6) K d_Mod_fault_50 rfl ?_
          refine gx_icmp_lt K d_Mod_fault_52 rfl (fun h52 => ?_) (fun h52 => ?_)
          · skip
            refine gx_iconst (v := b2i false) K d_Mod_fault_77 rfl ?_
            exact j78 _ (by simp [m_money, h19, h41, Int32.not_lt.mp h41, h52, Int32.not_le.mpr h52])
          · skip
            refine gx_aload_n K d_Mod_fault_55 rfl rfl ?_
            refine gx_get K f_Mod_71 (q0 := 0) rfl rfl d_Mod_fault_56 ?_
            refine gx_iload_n K d_Mod_fault_59 rfl rfl ?_
            refine gx_iald K (q0 := 21) rfl ru.1 ru.2 (by decide) d_Mod_fault_60 ?_
            refine gx_if_ne K d_Mod_fault_61 rfl (fun h61 => ?_) (fun h61 => ?_)
            · skip
              refine gx_iconst (v := b2i false) K d_Mod_fault_77 rfl ?_
              exact j78 _ (by simp [m_money, h19, h41, Int32.not_lt.mp h41, h52, Int32.not_lt.mp h52, h61])
            · skip
              refine gx_aload_n K d_Mod_fault_64 rfl rfl ?_
              refine gx_get K f_Mod_74 (q0 := 0) rfl rfl d_Mod_fault_65 ?_
              refine gx_iload_n K d_Mod_fault_68 rfl rfl ?_
              refine gx_iald K (q0 := 22) rfl ru.1 ru.2 (by decide) d_Mod_fault_69 ?_
              refine gx_if_ne K d_Mod_fault_70 rfl (fun h70 => ?_) (fun h70 => ?_)
              · skip
                refine gx_iconst (v := b2i false) K d_Mod_fault_77 rfl ?_
                exact j78 _ (by simp [m_money, h19, h41, Int32.not_lt.mp h41, h52, Int32.not_lt.mp h52, h61, h70])
              · skip
                refine gx_iconst (v := b2i true) K d_Mod_fault_73 rfl ?_
                refine gx_goto K d_Mod_fault_74 rfl ?_
                exact j78 _ (by simp [m_money, h19, h41, Int32.not_lt.mp h41, h52, Int32.not_lt.mp h52, h61, h70])
    · skip
      refine gx_aload_n K d_Mod_fault_24 rfl rfl ?_
      refine gx_get K f_Mod_23 (q0 := 0) rfl rfl d_Mod_fault_25 ?_
      refine gx_iload_n K d_Mod_fault_28 rfl rfl ?_
      refine gx_iald K (q0 := 5) rfl (I.2.2.2.2.1 (a)).1 (I.2.2.2.2.1 (a)).2 (by decide) d_Mod_fault_29 ?_
      refine gx_if_ne K d_Mod_fault_30 rfl (fun h30 => ?_) (fun h30 => ?_)
      · skip
        refine gx_iconst (v := b2i false) K d_Mod_fault_37 rfl ?_
        exact j38 _ (by simp [h19, h30])
      · skip
        refine gx_iconst (v := b2i true) K d_Mod_fault_33 rfl ?_
        refine gx_goto K d_Mod_fault_34 rfl ?_
        exact j38 _ (by simp [h19, h30])
  · skip
    refine gx_iconst (v := 1) K d_Mod_fault_22 rfl ?_
    exact gx_iret K hr hlk d_Mod_fault_23 ⟨gRi (by simp [m_fault, m_text, h19] <;> simp_all), rfl⟩

set_option maxRecDepth 100000 in
set_option maxHeartbeats 4000000 in
theorem z_Mod_isFact {l : Launch} {D : va_G} {ty : Nat → ClassId} {tt : Nat} {b : Nat → Nat} {B : Nat → Nat → Bool} {N : Nat → Nat} {E : Nat → Nat → Int32} {J : Nat → Int32} {ph : Bool} {V : Nat → Int64} {rd : Int64} {rest : va_W} (I : mI E) (hN : mN N) (x : Int32) : Cd l y_Mod_isFact c_Mod_isFact 2 (some .boolean) 1 D ty tt [.ref (b 0), .int x] (mdW b ty B N E J ph V rd rest) (some (.int (b2i (m_in x 0 (nI (N 5) - 1))))) (mdW b ty B N E J ph V rd rest) := by
  obtain ⟨n0, n1, n2, n3, n4, n5⟩ := id hN
  refine Ct_of (by decide) (gle rfl) (fun p e s m args below meth c K hr hlk hin => ?_)
  refine gx_iload_n K d_Mod_isFact_0 rfl rfl ?_
  refine gx_iconst (v := 0) K d_Mod_isFact_1 rfl ?_
  refine gx_aload_n K d_Mod_isFact_2 rfl rfl ?_
  refine gx_get K f_Mod_165 (q0 := 0) rfl rfl d_Mod_isFact_3 ?_
  refine gx_iconst (v := 1) K d_Mod_isFact_6 rfl ?_
  refine gx_isub K d_Mod_isFact_7 ?_
  refine gx_Sd K (z_Mod_in _ _ _ _) Y_Mod_in k832 k831 rfl ⟨gle rfl, gle rfl⟩ ⟨gle rfl, gle rfl⟩ (gle rfl) d_Mod_isFact_8 ?_
  exact gx_zret K hr hlk d_Mod_isFact_11 ⟨gRb (by rfl), rfl⟩

