set_option maxRecDepth 100000 in
set_option maxHeartbeats 4000000 in
theorem z_Mod_known {l : Launch} {D : va_G} {ty : Nat → ClassId} {tt : Nat} {b : Nat → Nat} {B : Nat → Nat → Bool} {N : Nat → Nat} {E : Nat → Nat → Int32} {J : Nat → Int32} {ph : Bool} {V : Nat → Int64} {rd : Int64} {rest : va_W} (I : mI E) (hN : mN N) {x : Int32} {a : Nat} (hx : x = nI a) (ha : a < 16) : Cd l y_Mod_known c_Mod_known 2 (some .boolean) 0 D ty tt [.ref (b 0), .int x] (mdW b ty B N E J ph V rd rest) (some (.int (b2i (m_known B E a)))) (mdW b ty B N E J ph V rd rest) := by
  obtain ⟨n0, n1, n2, n3, n4, n5⟩ := id hN
  subst hx
  refine Ct_of (by decide) (gle rfl) (fun p e s m args below meth c K hr hlk hin => ?_)
  refine gx_aload_n K d_Mod_known_0 rfl rfl ?_
  refine gx_get K f_Mod_16 (q0 := 0) rfl rfl d_Mod_known_1 ?_
  refine gx_aload_n K d_Mod_known_4 rfl rfl ?_
  refine gx_get K f_Mod_19 (q0 := 0) rfl rfl d_Mod_known_5 ?_
  refine gx_iload_n K d_Mod_known_8 rfl rfl ?_
  refine gx_iald K (q0 := 4) rfl rfl (by omega) (by decide) d_Mod_known_9 ?_
  refine gx_zld K (q0 := 3) rfl (I.1 (a)).1 (I.1 (a)).2 (by decide) d_Mod_known_10 ?_
  exact gx_zret K hr hlk d_Mod_known_11 ⟨gRb (by rfl), rfl⟩

set_option maxRecDepth 100000 in
set_option maxHeartbeats 4000000 in
theorem z_Mod_equalContexts {l : Launch} {D : va_G} {ty : Nat → ClassId} {tt : Nat} {b : Nat → Nat} {B : Nat → Nat → Bool} {N : Nat → Nat} {E : Nat → Nat → Int32} {J : Nat → Int32} {ph : Bool} {V : Nat → Int64} {rd : Int64} {rest : va_W} (I : mI E) (hN : mN N) {x : Int32} {a : Nat} (hx : x = nI a) (ha : a < 12) {y : Int32} {d : Nat} (hy : y = nI d) (hd : d < 12) : Cd l y_Mod_equalContexts c_Mod_equalContexts 3 (some .boolean) 0 D ty tt [.ref (b 0), .int x, .int y] (mdW b ty B N E J ph V rd rest) (some (.int (b2i (m_eqX E a d)))) (mdW b ty B N E J ph V rd rest) := by
  obtain ⟨n0, n1, n2, n3, n4, n5⟩ := id hN
  subst hx
  subst hy
  refine Ct_of (by decide) (gle rfl) (fun p e s m args below meth c K hr hlk hin => ?_)
  refine gx_aload_n K d_Mod_equalContexts_0 rfl rfl ?_
  refine gx_get K f_Mod_56 (q0 := 0) rfl rfl d_Mod_equalContexts_1 ?_
  refine gx_iload_n K d_Mod_equalContexts_4 rfl rfl ?_
  refine gx_iald K (q0 := 16) rfl rfl (by omega) (by decide) d_Mod_equalContexts_5 ?_
  refine gx_aload_n K d_Mod_equalContexts_6 rfl rfl ?_
  refine gx_get K f_Mod_56 (q0 := 0) rfl rfl d_Mod_equalContexts_7 ?_
  refine gx_iload_n K d_Mod_equalContexts_10 rfl rfl ?_
  refine gx_iald K (q0 := 16) rfl rfl (by omega) (by decide) d_Mod_equalContexts_11 ?_
  refine gx_icmp_ne K d_Mod_equalContexts_12 rfl (fun h12 => ?_) (fun h12 => ?_)
  · skip
    refine gx_iconst (v := b2i false) K d_Mod_equalContexts_64 rfl ?_
    exact gx_zret K hr hlk d_Mod_equalContexts_65 ⟨gRb (by simp [m_eqX, h12]), rfl⟩
  · skip
    refine gx_aload_n K d_Mod_equalContexts_15 rfl rfl ?_
    refine gx_get K f_Mod_59 (q0 := 0) rfl rfl d_Mod_equalContexts_16 ?_
    refine gx_iload_n K d_Mod_equalContexts_19 rfl rfl ?_
    refine gx_iald K (q0 := 17) rfl rfl (by omega) (by decide) d_Mod_equalContexts_20 ?_
    refine gx_aload_n K d_Mod_equalContexts_21 rfl rfl ?_
    refine gx_get K f_Mod_59 (q0 := 0) rfl rfl d_Mod_equalContexts_22 ?_
    refine gx_iload_n K d_Mod_equalContexts_25 rfl rfl ?_
    refine gx_iald K (q0 := 17) rfl rfl (by omega) (by decide) d_Mod_equalContexts_26 ?_
    refine gx_icmp_ne K d_Mod_equalContexts_27 rfl (fun h27 => ?_) (fun h27 => ?_)
    · skip
      refine gx_iconst (v := b2i false) K d_Mod_equalContexts_64 rfl ?_
      exact gx_zret K hr hlk d_Mod_equalContexts_65 ⟨gRb (by simp [m_eqX, h12, h27]), rfl⟩
    · skip
      refine gx_aload_n K d_Mod_equalContexts_30 rfl rfl ?_
      refine gx_get K f_Mod_62 (q0 := 0) rfl rfl d_Mod_equalContexts_31 ?_
      refine gx_iload_n K d_Mod_equalContexts_34 rfl rfl ?_
      refine gx_iald K (q0 := 18) rfl rfl (by omega) (by decide) d_Mod_equalContexts_35 ?_
      refine gx_aload_n K d_Mod_equalContexts_36 rfl rfl ?_
      refine gx_get K f_Mod_62 (q0 := 0) rfl rfl d_Mod_equalContexts_37 ?_
      refine gx_iload_n K d_Mod_equalContexts_40 rfl rfl ?_
      refine gx_iald K (q0 := 18) rfl rfl (by omega) (by decide) d_Mod_equalContexts_41 ?_
      refine gx_icmp_ne K d_Mod_equalContexts_42 rfl (fun h42 => ?_) (fun h42 => ?_)
      · skip
        refine gx_iconst (v := b2i false) K d_Mod_equalContexts_64 rfl ?_
        exact gx_zret K hr hlk d_Mod_equalContexts_65 ⟨gRb (by simp [m_eqX, h12, h27, h42]), rfl⟩
      · skip
        refine gx_aload_n K d_Mod_equalContexts_45 rfl rfl ?_
        refine gx_get K f_Mod_65 (q0 := 0) rfl rfl d_Mod_equalContexts_46 ?_
        refine gx_iload_n K d_Mod_equalContexts_49 rfl rfl ?_
        refine gx_iald K (q0 := 19) rfl rfl (by omega) (by decide) d_Mod_equalContexts_50 ?_
        refine gx_aload_n K d_Mod_equalContexts_51 rfl rfl ?_
        refine gx_get K f_Mod_65 (q0 := 0) rfl rfl d_Mod_equalContexts_52 ?_
        refine gx_iload_n K d_Mod_equalContexts_55 rfl rfl ?_
        refine gx_iald K (q0 := 19) rfl rfl (by omega) (by decide) d_Mod_equalContexts_56 ?_
        refine gx_icmp_ne K d_Mod_equalContexts_57 rfl (fun h57 => ?_) (fun h57 => ?_)
        · skip
          refine gx_iconst (v := b2i false) K d_Mod_equalContexts_64 rfl ?_
          exact gx_zret K hr hlk d_Mod_equalContexts_65 ⟨gRb (by simp [m_eqX, h12, h27, h42, h57]), rfl⟩
        · skip
          refine gx_iconst (v := b2i true) K d_Mod_equalContexts_60 rfl ?_
          refine gx_goto K d_Mod_equalContexts_61 rfl ?_
          exact gx_zret K hr hlk d_Mod_equalContexts_65 ⟨gRb (by simp [m_eqX, h12, h27, h42, h57]), rfl⟩

set_option maxRecDepth 100000 in
set_option maxHeartbeats 4000000 in
theorem z_Mod_alike {l : Launch} {D : va_G} {ty : Nat → ClassId} {tt : Nat} {b : Nat → Nat} {B : Nat → Nat → Bool} {N : Nat → Nat} {E : Nat → Nat → Int32} {J : Nat → Int32} {ph : Bool} {V : Nat → Int64} {rd : Int64} {rest : va_W} (I : mI E) (hN : mN N) {x : Int32} {a : Nat} (hx : x = nI a) (ha : a < 32) {y : Int32} {d : Nat} (hy : y = nI d) (hd : d < 32) : Cd l y_Mod_alike c_Mod_alike 3 (some .boolean) 0 D ty tt [.ref (b 0), .int x, .int y] (mdW b ty B N E J ph V rd rest) (some (.int (b2i (m_alike E a d)))) (mdW b ty B N E J ph V rd rest) := by
  obtain ⟨n0, n1, n2, n3, n4, n5⟩ := id hN
  subst hx
  subst hy
  refine Ct_of (by decide) (gle rfl) (fun p e s m args below meth c K hr hlk hin => ?_)
  refine gx_aload_n K d_Mod_alike_0 rfl rfl ?_
  refine gx_get K f_Mod_35 (q0 := 0) rfl rfl d_Mod_alike_1 ?_
  refine gx_iload_n K d_Mod_alike_4 rfl rfl ?_
  refine gx_iald K (q0 := 9) rfl rfl (by omega) (by decide) d_Mod_alike_5 ?_
  refine gx_aload_n K d_Mod_alike_6 rfl rfl ?_
  refine gx_get K f_Mod_35 (q0 := 0) rfl rfl d_Mod_alike_7 ?_
  refine gx_iload_n K d_Mod_alike_10 rfl rfl ?_
  refine gx_iald K (q0 := 9) rfl rfl (by omega) (by decide) d_Mod_alike_11 ?_
  refine gx_icmp_ne K d_Mod_alike_12 rfl (fun h12 => ?_) (fun h12 => ?_)
  · skip
    refine gx_iconst (v := b2i false) K d_Mod_alike_79 rfl ?_
    exact gx_zret K hr hlk d_Mod_alike_80 ⟨gRb (by simp [m_alike, h12]), rfl⟩
  · skip
    refine gx_aload_n K d_Mod_alike_15 rfl rfl ?_
    refine gx_get K f_Mod_38 (q0 := 0) rfl rfl d_Mod_alike_16 ?_
    refine gx_iload_n K d_Mod_alike_19 rfl rfl ?_
    refine gx_iald K (q0 := 10) rfl rfl (by omega) (by decide) d_Mod_alike_20 ?_
    refine gx_aload_n K d_Mod_alike_21 rfl rfl ?_
    refine gx_get K f_Mod_38 (q0 := 0) rfl rfl d_Mod_alike_22 ?_
    refine gx_iload_n K d_Mod_alike_25 rfl rfl ?_
    refine gx_iald K (q0 := 10) rfl rfl (by omega) (by decide) d_Mod_alike_26 ?_
    refine gx_icmp_ne K d_Mod_alike_27 rfl (fun h27 => ?_) (fun h27 => ?_)
    · skip
      refine gx_iconst (v := b2i false) K d_Mod_alike_79 rfl ?_
      exact gx_zret K hr hlk d_Mod_alike_80 ⟨gRb (by simp [m_alike, h12, h27]), rfl⟩
    · skip
      refine gx_aload_n K d_Mod_alike_30 rfl rfl ?_
      refine gx_get K f_Mod_41 (q0 := 0) rfl rfl d_Mod_alike_31 ?_
      refine gx_iload_n K d_Mod_alike_34 rfl rfl ?_
      refine gx_iald K (q0 := 11) rfl rfl (by omega) (by decide) d_Mod_alike_35 ?_
      refine gx_aload_n K d_Mod_alike_36 rfl rfl ?_
      refine gx_get K f_Mod_41 (q0 := 0) rfl rfl d_Mod_alike_37 ?_
      refine gx_iload_n K d_Mod_alike_40 rfl rfl ?_
      refine gx_iald K (q0 := 11) rfl rfl (by omega) (by decide) d_Mod_alike_41 ?_
      refine gx_icmp_ne K d_Mod_alike_42 rfl (fun h42 => ?_) (fun h42 => ?_)
      · skip
        refine gx_iconst (v := b2i false) K d_Mod_alike_79 rfl ?_
        exact gx_zret K hr hlk d_Mod_alike_80 ⟨gRb (by simp [m_alike, h12, h27, h42]), rfl⟩
      · skip
        refine gx_aload_n K d_Mod_alike_45 rfl rfl ?_
        refine gx_get K f_Mod_44 (q0 := 0) rfl rfl d_Mod_alike_46 ?_
        refine gx_iload_n K d_Mod_alike_49 rfl rfl ?_
        refine gx_iald K (q0 := 12) rfl rfl (by omega) (by decide) d_Mod_alike_50 ?_
        refine gx_aload_n K d_Mod_alike_51 rfl rfl ?_
        refine gx_get K f_Mod_44 (q0 := 0) rfl rfl d_Mod_alike_52 ?_
        refine gx_iload_n K d_Mod_alike_55 rfl rfl ?_
        refine gx_iald K (q0 := 12) rfl rfl (by omega) (by decide) d_Mod_alike_56 ?_
        refine gx_icmp_ne K d_Mod_alike_57 rfl (fun h57 => ?_) (fun h57 => ?_)
        · skip
          refine gx_iconst (v := b2i false) K d_Mod_alike_79 rfl ?_
          exact gx_zret K hr hlk d_Mod_alike_80 ⟨gRb (by simp [m_alike, h12, h27, h42, h57]), rfl⟩
        · skip
          refine gx_aload_n K d_Mod_alike_60 rfl rfl ?_
          refine gx_get K f_Mod_47 (q0 := 0) rfl rfl d_Mod_alike_61 ?_
          refine gx_iload_n K d_Mod_alike_64 rfl rfl ?_
          refine gx_iald K (q0 := 13) rfl rfl (by omega) (by decide) d_Mod_alike_65 ?_
          refine gx_aload_n K d_Mod_alike_66 rfl rfl ?_
          refine gx_get K f_Mod_47 (q0 := 0) rfl rfl d_Mod_alike_67 ?_
          refine gx_iload_n K d_Mod_alike_70 rfl rfl ?_
          refine gx_iald K (q0 := 13) rfl rfl (by omega) (by decide) d_Mod_alike_71 ?_
          refine gx_icmp_ne K d_Mod_alike_72 rfl (fun h72 => ?_) (fun h72 => ?_)
          · skip
            refine gx_iconst (v := b2i false) K d_Mod_alike_79 rfl ?_
            exact gx_zret K hr hlk d_Mod_alike_80 ⟨gRb (by simp [m_alike, h12, h27, h42, h57, h72]), rfl⟩
          · skip
            refine gx_iconst (v := b2i true) K d_Mod_alike_75 rfl ?_
            refine gx_goto K d_Mod_alike_76 rfl ?_
            exact gx_zret K hr hlk d_Mod_alike_80 ⟨gRb (by simp [m_alike, h12, h27, h42, h57, h72]), rfl⟩

set_option maxRecDepth 100000 in
set_option maxHeartbeats 4000000 in
theorem z_Mod_counts {l : Launch} {D : va_G} {ty : Nat → ClassId} {tt : Nat} {b : Nat → Nat} {B : Nat → Nat → Bool} {N : Nat → Nat} {E : Nat → Nat → Int32} {J : Nat → Int32} {ph : Bool} {V : Nat → Int64} {rd : Int64} {rest : va_W} (I : mI E) (hN : mN N) {x : Int32} {a : Nat} (hx : x = nI a) (ha : a < 32) : Cd l y_Mod_counts c_Mod_counts 2 (some .boolean) 1 D ty tt [.ref (b 0), .int x] (mdW b ty B N E J ph V rd rest) (some (.int (b2i (m_counts B E a)))) (mdW b ty B N E J ph V rd rest) := by
  obtain ⟨n0, n1, n2, n3, n4, n5⟩ := id hN
  subst hx
  refine Ct_of (by decide) (gle rfl) (fun p e s m args below meth c K hr hlk hin => ?_)
  refine gx_aload_n K d_Mod_counts_0 rfl rfl ?_
  refine gx_get K f_Mod_16 (q0 := 0) rfl rfl d_Mod_counts_1 ?_
  refine gx_aload_n K d_Mod_counts_4 rfl rfl ?_
  refine gx_get K f_Mod_32 (q0 := 0) rfl rfl d_Mod_counts_5 ?_
  refine gx_iload_n K d_Mod_counts_8 rfl rfl ?_
  refine gx_iald K (q0 := 8) rfl rfl (by omega) (by decide) d_Mod_counts_9 ?_
  refine gx_zld K (q0 := 3) rfl (I.2.1 (a)).1 (I.2.1 (a)).2 (by decide) d_Mod_counts_10 ?_
  refine gx_if_eqB K d_Mod_counts_11 rfl (fun h11 => ?_) (fun h11 => ?_)
  · skip
    refine gx_iconst (v := b2i false) K d_Mod_counts_44 rfl ?_
    exact gx_zret K hr hlk d_Mod_counts_45 ⟨gRb (by simp [m_counts, h11]), rfl⟩
  · skip
    refine gx_aload_n K d_Mod_counts_14 rfl rfl ?_
    refine gx_aload_n K d_Mod_counts_15 rfl rfl ?_
    refine gx_get K f_Mod_41 (q0 := 0) rfl rfl d_Mod_counts_16 ?_
    refine gx_iload_n K d_Mod_counts_19 rfl rfl ?_
    refine gx_iald K (q0 := 11) rfl rfl (by omega) (by decide) d_Mod_counts_20 ?_
    refine gx_Vd K (z_Mod_known I hN (I.2.2.1 (a)).1 (I.2.2.1 (a)).2) Y_Mod_known (ci := 12) rfl (q0 := 0) rfl k896 ks56 k894 rfl ⟨gle rfl, gle rfl⟩ ⟨gle rfl, gle rfl⟩ (gle rfl) d_Mod_counts_21 ?_
    refine gx_if_eqB K d_Mod_counts_24 rfl (fun h24 => ?_) (fun h24 => ?_)
    · skip
      refine gx_iconst (v := b2i false) K d_Mod_counts_44 rfl ?_
      exact gx_zret K hr hlk d_Mod_counts_45 ⟨gRb (by simp [m_counts, h11, h24]), rfl⟩
    · skip
      refine gx_aload_n K d_Mod_counts_27 rfl rfl ?_
      refine gx_aload_n K d_Mod_counts_28 rfl rfl ?_
      refine gx_get K f_Mod_44 (q0 := 0) rfl rfl d_Mod_counts_29 ?_
      refine gx_iload_n K d_Mod_counts_32 rfl rfl ?_
      refine gx_iald K (q0 := 12) rfl rfl (by omega) (by decide) d_Mod_counts_33 ?_
      refine gx_Vd K (z_Mod_known I hN (I.2.2.2.1 (a)).1 (I.2.2.2.1 (a)).2) Y_Mod_known (ci := 12) rfl (q0 := 0) rfl k896 ks56 k894 rfl ⟨gle rfl, gle rfl⟩ ⟨gle rfl, gle rfl⟩ (gle rfl) d_Mod_counts_34 ?_
      refine gx_if_eqB K d_Mod_counts_37 rfl (fun h37 => ?_) (fun h37 => ?_)
      · skip
        refine gx_iconst (v := b2i false) K d_Mod_counts_44 rfl ?_
        exact gx_zret K hr hlk d_Mod_counts_45 ⟨gRb (by simp [m_counts, h11, h24, h37]), rfl⟩
      · skip
        refine gx_iconst (v := b2i true) K d_Mod_counts_40 rfl ?_
        refine gx_goto K d_Mod_counts_41 rfl ?_
        exact gx_zret K hr hlk d_Mod_counts_45 ⟨gRb (by simp [m_counts, h11, h24, h37]), rfl⟩

set_option maxRecDepth 100000 in
set_option maxHeartbeats 4000000 in
theorem z_Mod_vague {l : Launch} {D : va_G} {ty : Nat → ClassId} {tt : Nat} {b : Nat → Nat} {B : Nat → Nat → Bool} {N : Nat → Nat} {E : Nat → Nat → Int32} {J : Nat → Int32} {ph : Bool} {V : Nat → Int64} {rd : Int64} {rest : va_W} (I : mI E) (hN : mN N) {x : Int32} {a : Nat} (hx : x = nI a) (ha : a < 20) : Cd l y_Mod_vague c_Mod_vague 2 (some .boolean) 0 D ty tt [.ref (b 0), .int x] (mdW b ty B N E J ph V rd rest) (some (.int (b2i (m_vague E a)))) (mdW b ty B N E J ph V rd rest) := by
  obtain ⟨n0, n1, n2, n3, n4, n5⟩ := id hN
  subst hx
  refine Ct_of (by decide) (gle rfl) (fun p e s m args below meth c K hr hlk hin => ?_)
  refine gx_aload_n K d_Mod_vague_0 rfl rfl ?_
  refine gx_get K f_Mod_89 (q0 := 0) rfl rfl d_Mod_vague_1 ?_
  refine gx_iload_n K d_Mod_vague_4 rfl rfl ?_
  refine gx_iald K (q0 := 27) rfl rfl (by omega) (by decide) d_Mod_vague_5 ?_
  refine gx_iconst (v := 2) K d_Mod_vague_6 rfl ?_
  refine gx_icmp_ne K d_Mod_vague_7 rfl (fun h7 => ?_) (fun h7 => ?_)
  · skip
    refine gx_iconst (v := b2i false) K d_Mod_vague_23 rfl ?_
    exact gx_zret K hr hlk d_Mod_vague_24 ⟨gRb (by simp [m_vague, h7]), rfl⟩
  · skip
    refine gx_aload_n K d_Mod_vague_10 rfl rfl ?_
    refine gx_get K f_Mod_92 (q0 := 0) rfl rfl d_Mod_vague_11 ?_
    refine gx_iload_n K d_Mod_vague_14 rfl rfl ?_
    refine gx_iald K (q0 := 28) rfl rfl (by omega) (by decide) d_Mod_vague_15 ?_
    refine gx_if_ne K d_Mod_vague_16 rfl (fun h16 => ?_) (fun h16 => ?_)
    · skip
      refine gx_iconst (v := b2i false) K d_Mod_vague_23 rfl ?_
      exact gx_zret K hr hlk d_Mod_vague_24 ⟨gRb (by simp [m_vague, h7, h16]), rfl⟩
    · skip
      refine gx_iconst (v := b2i true) K d_Mod_vague_19 rfl ?_
      refine gx_goto K d_Mod_vague_20 rfl ?_
      exact gx_zret K hr hlk d_Mod_vague_24 ⟨gRb (by simp [m_vague, h7, h16]), rfl⟩


