set_option maxRecDepth 100000 in
set_option maxHeartbeats 1000000 in
theorem z_FB_isDigit {l : Launch} {D : va_G} {ty : Nat → ClassId} {tt : Nat} {ws : va_W} (x : Int32) : Cd l y_FB_isDigit c_FB_isDigit 1 (some .boolean) 0 D ty tt [.int x] ws (some (.int (b2i (s_dig x)))) ws := by
  refine Ct_of (by decide) (gle rfl) (fun p e s m args below meth c K hr hlk hin => ?_)
  refine gx_iload_n K d_FB_isDigit_0 rfl rfl ?_
  refine gx_bipush (v := 48) K d_FB_isDigit_1 rfl ?_
  refine gx_icmp_lt K d_FB_isDigit_3 rfl (fun h3 => ?_) (fun h3 => ?_)
  · skip
    refine gx_iconst (v := b2i false) K d_FB_isDigit_16 rfl ?_
    exact gx_zret K hr hlk d_FB_isDigit_17 ⟨gRb (by simp [s_dig, h3, Int32.not_le.mpr h3]), rfl⟩
  · skip
    refine gx_iload_n K d_FB_isDigit_6 rfl rfl ?_
    refine gx_bipush (v := 57) K d_FB_isDigit_7 rfl ?_
    refine gx_icmp_gt K d_FB_isDigit_9 rfl (fun h9 => ?_) (fun h9 => ?_)
    · skip
      refine gx_iconst (v := b2i false) K d_FB_isDigit_16 rfl ?_
      exact gx_zret K hr hlk d_FB_isDigit_17 ⟨gRb (by simp [s_dig, h3, Int32.not_lt.mp h3, h9, Int32.not_le.mpr h9]), rfl⟩
    · skip
      refine gx_iconst (v := b2i true) K d_FB_isDigit_12 rfl ?_
      refine gx_goto K d_FB_isDigit_13 rfl ?_
      exact gx_zret K hr hlk d_FB_isDigit_17 ⟨gRb (by simp [s_dig, h3, Int32.not_lt.mp h3, h9, Int32.not_lt.mp h9]), rfl⟩

set_option maxRecDepth 100000 in
set_option maxHeartbeats 1000000 in
theorem z_Ctx_isDay {l : Launch} {D : va_G} {ty : Nat → ClassId} {tt : Nat} {ws : va_W} (x : Int32) : Cd l y_Ctx_isDay c_Ctx_isDay 1 (some .boolean) 1 D ty tt [.int x] ws (some (.int (b2i (m_in x 0 9999)))) ws := by
  refine Ct_of (by decide) (gle rfl) (fun p e s m args below meth c K hr hlk hin => ?_)
  refine gx_iload_n K d_Ctx_isDay_0 rfl rfl ?_
  refine gx_iconst (v := 0) K d_Ctx_isDay_1 rfl ?_
  refine gx_sipush (v := 9999) K d_Ctx_isDay_2 rfl ?_
  refine gx_SNd K (z_FB_within _ _ _ _) Y_FB_within k226 k343 rfl ⟨gle rfl, gle rfl⟩ ⟨gle rfl, gle rfl⟩ (gle rfl) d_Ctx_isDay_5 ?_
  exact gx_zret K hr hlk d_Ctx_isDay_8 ⟨gRb (by rfl), rfl⟩

set_option maxRecDepth 100000 in
set_option maxHeartbeats 1000000 in
theorem z_Doc_exists {l : Launch} {D : va_G} {ty : Nat → ClassId} {tt : Nat} {ws : va_W} (x : Int32) : Cd l y_Doc_exists c_Doc_exists 1 (some .boolean) 1 D ty tt [.int x] ws (some (.int (b2i (m_in x 0 7)))) ws := by
  refine Ct_of (by decide) (gle rfl) (fun p e s m args below meth c K hr hlk hin => ?_)
  refine gx_iload_n K d_Doc_exists_0 rfl rfl ?_
  refine gx_iconst (v := 0) K d_Doc_exists_1 rfl ?_
  refine gx_bipush (v := 7) K d_Doc_exists_2 rfl ?_
  refine gx_SNd K (z_FB_within _ _ _ _) Y_FB_within k226 k225 rfl ⟨gle rfl, gle rfl⟩ ⟨gle rfl, gle rfl⟩ (gle rfl) d_Doc_exists_4 ?_
  exact gx_zret K hr hlk d_Doc_exists_7 ⟨gRb (by rfl), rfl⟩

set_option maxRecDepth 100000 in
set_option maxHeartbeats 1000000 in
theorem z_Ctx_matches {l : Launch} {D : va_G} {ty : Nat → ClassId} {tt : Nat} {ws : va_W} {e1 s1 x1 c1 e2 s2 x2 c2 : Int32} {i1 q1 : Nat} (h1 : ws[i1]? = some (q1, .inr (9, [.int e1, .int s1, .int x1, .int c1]))) {i2 q2 : Nat} (h2 : ws[i2]? = some (q2, .inr (9, [.int e2, .int s2, .int x2, .int c2]))) : Cd l y_Ctx_matches c_Ctx_matches 2 (some .boolean) 0 D ty tt [.ref q1, .ref q2] ws (some (.int (b2i (decide (e1 = e2) && (decide (s1 = s2) && (decide (x1 = x2) && decide (c1 = c2))))))) ws := by
  refine Ct_of (by decide) (gle rfl) (fun p e s m args below meth c K hr hlk hin => ?_)
  refine gx_aload_n K d_Ctx_matches_0 rfl rfl ?_
  refine gx_get K f_Ctx_9 h1 rfl d_Ctx_matches_1 ?_
  refine gx_aload_n K d_Ctx_matches_4 rfl rfl ?_
  refine gx_get K f_Ctx_9 h2 rfl d_Ctx_matches_5 ?_
  refine gx_icmp_ne K d_Ctx_matches_8 rfl (fun h8 => ?_) (fun h8 => ?_)
  · skip
    refine gx_iconst (v := b2i false) K d_Ctx_matches_48 rfl ?_
    exact gx_zret K hr hlk d_Ctx_matches_49 ⟨gRb (by simp [h8]), rfl⟩
  · skip
    refine gx_aload_n K d_Ctx_matches_11 rfl rfl ?_
    refine gx_get K f_Ctx_21 h1 rfl d_Ctx_matches_12 ?_
    refine gx_aload_n K d_Ctx_matches_15 rfl rfl ?_
    refine gx_get K f_Ctx_21 h2 rfl d_Ctx_matches_16 ?_
    refine gx_icmp_ne K d_Ctx_matches_19 rfl (fun h19 => ?_) (fun h19 => ?_)
    · skip
      refine gx_iconst (v := b2i false) K d_Ctx_matches_48 rfl ?_
      exact gx_zret K hr hlk d_Ctx_matches_49 ⟨gRb (by simp [h8, h19]), rfl⟩
    · skip
      refine gx_aload_n K d_Ctx_matches_22 rfl rfl ?_
      refine gx_get K f_Ctx_15 h1 rfl d_Ctx_matches_23 ?_
      refine gx_aload_n K d_Ctx_matches_26 rfl rfl ?_
      refine gx_get K f_Ctx_15 h2 rfl d_Ctx_matches_27 ?_
      refine gx_icmp_ne K d_Ctx_matches_30 rfl (fun h30 => ?_) (fun h30 => ?_)
      · skip
        refine gx_iconst (v := b2i false) K d_Ctx_matches_48 rfl ?_
        exact gx_zret K hr hlk d_Ctx_matches_49 ⟨gRb (by simp [h8, h19, h30]), rfl⟩
      · skip
        refine gx_aload_n K d_Ctx_matches_33 rfl rfl ?_
        refine gx_get K f_Ctx_18 h1 rfl d_Ctx_matches_34 ?_
        refine gx_aload_n K d_Ctx_matches_37 rfl rfl ?_
        refine gx_get K f_Ctx_18 h2 rfl d_Ctx_matches_38 ?_
        refine gx_icmp_ne K d_Ctx_matches_41 rfl (fun h41 => ?_) (fun h41 => ?_)
        · skip
          refine gx_iconst (v := b2i false) K d_Ctx_matches_48 rfl ?_
          exact gx_zret K hr hlk d_Ctx_matches_49 ⟨gRb (by simp [h8, h19, h30, h41]), rfl⟩
        · skip
          refine gx_iconst (v := b2i true) K d_Ctx_matches_44 rfl ?_
          refine gx_goto K d_Ctx_matches_45 rfl ?_
          exact gx_zret K hr hlk d_Ctx_matches_49 ⟨gRb (by simp [h8, h19, h30, h41]), rfl⟩

set_option maxRecDepth 100000 in
set_option maxHeartbeats 1000000 in
theorem z_Ctx_periodKind {l : Launch} {D : va_G} {ty : Nat → ClassId} {tt : Nat} {ws : va_W} {e1 s1 x1 c1 : Int32} {i1 q1 : Nat} (h1 : ws[i1]? = some (q1, .inr (9, [.int e1, .int s1, .int x1, .int c1]))) : Cd l y_Ctx_periodKind c_Ctx_periodKind 1 (some .int) 0 D ty tt [.ref q1] ws (some (.int (if s1 = -1 then 0 else 1))) ws := by
  refine Ct_of (by decide) (gle rfl) (fun p e s m args below meth c K hr hlk hin => ?_)
  refine gx_aload_n K d_Ctx_periodKind_0 rfl rfl ?_
  refine gx_get K f_Ctx_15 h1 rfl d_Ctx_periodKind_1 ?_
  refine gx_iconst (v := -1) K d_Ctx_periodKind_4 rfl ?_
  refine gx_icmp_ne K d_Ctx_periodKind_5 rfl (fun h5 => ?_) (fun h5 => ?_)
  · skip
    refine gx_iconst (v := 1) K d_Ctx_periodKind_12 rfl ?_
    exact gx_iret K hr hlk d_Ctx_periodKind_13 ⟨gRi (by simp [h5]), rfl⟩
  · skip
    refine gx_iconst (v := 0) K d_Ctx_periodKind_8 rfl ?_
    refine gx_goto K d_Ctx_periodKind_9 rfl ?_
    exact gx_iret K hr hlk d_Ctx_periodKind_13 ⟨gRi (by simp [h5]), rfl⟩

set_option maxRecDepth 100000 in
set_option maxHeartbeats 1000000 in
theorem z_Arc_isAlike {l : Launch} {D : va_G} {ty : Nat → ClassId} {tt : Nat} {ws : va_W} {d1 o1 f1 t1 n1 d2 o2 f2 t2 n2 r1 p1 r2 p2 : Int32} {x1 x2 : Bool} {z1 z2 : Nat} {i1 q1 : Nat} (h1 : ws[i1]? = some (q1, .inr (8, [.int d1, .int o1, .int f1, .int t1, .int n1, .ref z1]))) {i2 q2 : Nat} (h2 : ws[i2]? = some (q2, .inr (8, [.int d2, .int o2, .int f2, .int t2, .int n2, .ref z2]))) {j1 j2 : Nat} (g1 : ws[j1]? = some (z1, .inr (7, [.int r1, .int p1, .int (b2i x1)]))) (g2 : ws[j2]? = some (z2, .inr (7, [.int r2, .int p2, .int (b2i x2)]))) : Cd l y_Arc_isAlike c_Arc_isAlike 2 (some .boolean) 0 D ty tt [.ref q1, .ref q2] ws (some (.int (b2i (decide (r1 = r2) && (decide (o1 = o2) && (decide (f1 = f2) && (decide (t1 = t2) && decide (n1 = n2)))))))) ws := by
  refine Ct_of (by decide) (gle rfl) (fun p e s m args below meth c K hr hlk hin => ?_)
  refine gx_aload_n K d_Arc_isAlike_0 rfl rfl ?_
  refine gx_get K f_Arc_25 h1 rfl d_Arc_isAlike_1 ?_
  refine gx_getN K f_Arc_29 g1 rfl d_Arc_isAlike_4 ?_
  refine gx_aload_n K d_Arc_isAlike_7 rfl rfl ?_
  refine gx_get K f_Arc_25 h2 rfl d_Arc_isAlike_8 ?_
  refine gx_getN K f_Arc_29 g2 rfl d_Arc_isAlike_11 ?_
  refine gx_icmp_ne K d_Arc_isAlike_14 rfl (fun h14 => ?_) (fun h14 => ?_)
  · skip
    refine gx_iconst (v := b2i false) K d_Arc_isAlike_65 rfl ?_
    exact gx_zret K hr hlk d_Arc_isAlike_66 ⟨gRb (by simp [h14]), rfl⟩
  · skip
    refine gx_aload_n K d_Arc_isAlike_17 rfl rfl ?_
    refine gx_get K f_Arc_13 h1 rfl d_Arc_isAlike_18 ?_
    refine gx_aload_n K d_Arc_isAlike_21 rfl rfl ?_
    refine gx_get K f_Arc_13 h2 rfl d_Arc_isAlike_22 ?_
    refine gx_icmp_ne K d_Arc_isAlike_25 rfl (fun h25 => ?_) (fun h25 => ?_)
    · skip
      refine gx_iconst (v := b2i false) K d_Arc_isAlike_65 rfl ?_
      exact gx_zret K hr hlk d_Arc_isAlike_66 ⟨gRb (by simp [h14, h25]), rfl⟩
    · skip
      refine gx_aload_n K d_Arc_isAlike_28 rfl rfl ?_
      refine gx_get K f_Arc_16 h1 rfl d_Arc_isAlike_29 ?_
      refine gx_aload_n K d_Arc_isAlike_32 rfl rfl ?_
      refine gx_get K f_Arc_16 h2 rfl d_Arc_isAlike_33 ?_
      refine gx_icmp_ne K d_Arc_isAlike_36 rfl (fun h36 => ?_) (fun h36 => ?_)
      · skip
        refine gx_iconst (v := b2i false) K d_Arc_isAlike_65 rfl ?_
        exact gx_zret K hr hlk d_Arc_isAlike_66 ⟨gRb (by simp [h14, h25, h36]), rfl⟩
      · skip
        refine gx_aload_n K d_Arc_isAlike_39 rfl rfl ?_
        refine gx_get K f_Arc_19 h1 rfl d_Arc_isAlike_40 ?_
        refine gx_aload_n K d_Arc_isAlike_43 rfl rfl ?_
        refine gx_get K f_Arc_19 h2 rfl d_Arc_isAlike_44 ?_
        refine gx_icmp_ne K d_Arc_isAlike_47 rfl (fun h47 => ?_) (fun h47 => ?_)
        · skip
          refine gx_iconst (v := b2i false) K d_Arc_isAlike_65 rfl ?_
          exact gx_zret K hr hlk d_Arc_isAlike_66 ⟨gRb (by simp [h14, h25, h36, h47]), rfl⟩
        · skip
          refine gx_aload_n K d_Arc_isAlike_50 rfl rfl ?_
          refine gx_get K f_Arc_22 h1 rfl d_Arc_isAlike_51 ?_
          refine gx_aload_n K d_Arc_isAlike_54 rfl rfl ?_
          refine gx_get K f_Arc_22 h2 rfl d_Arc_isAlike_55 ?_
          refine gx_icmp_ne K d_Arc_isAlike_58 rfl (fun h58 => ?_) (fun h58 => ?_)
          · skip
            refine gx_iconst (v := b2i false) K d_Arc_isAlike_65 rfl ?_
            exact gx_zret K hr hlk d_Arc_isAlike_66 ⟨gRb (by simp [h14, h25, h36, h47, h58]), rfl⟩
          · skip
            refine gx_iconst (v := b2i true) K d_Arc_isAlike_61 rfl ?_
            refine gx_goto K d_Arc_isAlike_62 rfl ?_
            exact gx_zret K hr hlk d_Arc_isAlike_66 ⟨gRb (by simp [h14, h25, h36, h47, h58]), rfl⟩

set_option maxRecDepth 100000 in
set_option maxHeartbeats 1000000 in
theorem z_Arc_isIn {l : Launch} {D : va_G} {ty : Nat → ClassId} {tt : Nat} {ws : va_W} {d1 o1 f1 t1 n1 r1 p1 : Int32} {x1 : Bool} {z1 : Nat} (r s : Int32) {i1 q1 : Nat} (h1 : ws[i1]? = some (q1, .inr (8, [.int d1, .int o1, .int f1, .int t1, .int n1, .ref z1]))) {j1 : Nat} (g1 : ws[j1]? = some (z1, .inr (7, [.int r1, .int p1, .int (b2i x1)]))) : Cd l y_Arc_isIn c_Arc_isIn 3 (some .boolean) 0 D ty tt [.ref q1, .int r, .int s] ws (some (.int (b2i (decide (r1 = r) && decide (o1 = s))))) ws := by
  refine Ct_of (by decide) (gle rfl) (fun p e s m args below meth c K hr hlk hin => ?_)
  refine gx_aload_n K d_Arc_isIn_0 rfl rfl ?_
  refine gx_get K f_Arc_25 h1 rfl d_Arc_isIn_1 ?_
  refine gx_getN K f_Arc_29 g1 rfl d_Arc_isIn_4 ?_
  refine gx_iload_n K d_Arc_isIn_7 rfl rfl ?_
  refine gx_icmp_ne K d_Arc_isIn_8 rfl (fun h8 => ?_) (fun h8 => ?_)
  · skip
    refine gx_iconst (v := b2i false) K d_Arc_isIn_23 rfl ?_
    exact gx_zret K hr hlk d_Arc_isIn_24 ⟨gRb (by simp [h8]), rfl⟩
  · skip
    refine gx_aload_n K d_Arc_isIn_11 rfl rfl ?_
    refine gx_get K f_Arc_13 h1 rfl d_Arc_isIn_12 ?_
    refine gx_iload_n K d_Arc_isIn_15 rfl rfl ?_
    refine gx_icmp_ne K d_Arc_isIn_16 rfl (fun h16 => ?_) (fun h16 => ?_)
    · skip
      refine gx_iconst (v := b2i false) K d_Arc_isIn_23 rfl ?_
      exact gx_zret K hr hlk d_Arc_isIn_24 ⟨gRb (by simp [h8, h16]), rfl⟩
    · skip
      refine gx_iconst (v := b2i true) K d_Arc_isIn_19 rfl ?_
      refine gx_goto K d_Arc_isIn_20 rfl ?_
      exact gx_zret K hr hlk d_Arc_isIn_24 ⟨gRb (by simp [h8, h16]), rfl⟩

set_option maxRecDepth 100000 in
set_option maxHeartbeats 1000000 in
theorem z_Uni_areSame {l : Launch} {D : va_G} {ty : Nat → ClassId} {tt : Nat} {ws : va_W} {a1 b1 c1 a2 b2 c2 : Int32} {i1 q1 : Nat} (h1 : ws[i1]? = some (q1, .inr (10, [.int a1, .int b1, .int c1]))) {i2 q2 : Nat} (h2 : ws[i2]? = some (q2, .inr (10, [.int a2, .int b2, .int c2]))) : Cd l y_Uni_areSame c_Uni_areSame 4 (some .boolean) 0 D ty tt [.ref q1, .ref q2] ws (some (.int (b2i (((decide (a1 = a2) && decide (b1 = b2)) || (decide (a1 = b2) && decide (b1 = a2))) && decide (c1 = c2))))) ws := by
  refine Ct_of (by decide) (gle rfl) (fun p e s m args below meth c K hr hlk hin => ?_)
  refine gx_aload_n K d_Uni_areSame_0 rfl rfl ?_
  refine gx_ifnull K d_Uni_areSame_1 ?_
  refine gx_aload_n K d_Uni_areSame_4 rfl rfl ?_
  refine gx_ifnonnull K d_Uni_areSame_5 rfl ?_
  refine gx_cut (X := decide (a1 = a2) && decide (b1 = b2)) 49 ?_ (fun j49 => ?_)
  · skip
    refine gx_istore_n K d_Uni_areSame_49 rfl (gle rfl) rfl ?_
    refine gx_cut (X := decide (a1 = b2) && decide (b1 = a2)) 77 ?_ (fun j77 => ?_)
    · skip
      refine gx_istore_n K d_Uni_areSame_77 rfl (gle rfl) rfl ?_
      refine gx_iload_n K d_Uni_areSame_78 rfl rfl ?_
      refine gx_if_neB K d_Uni_areSame_79 rfl (fun h79 => ?_) (fun h79 => ?_)
      · skip
        refine gx_aload_n K d_Uni_areSame_86 rfl rfl ?_
        refine gx_get K f_Uni_18 h1 rfl d_Uni_areSame_87 ?_
        refine gx_aload_n K d_Uni_areSame_90 rfl rfl ?_
        refine gx_get K f_Uni_18 h2 rfl d_Uni_areSame_91 ?_
        refine gx_icmp_ne K d_Uni_areSame_94 rfl (fun h94 => ?_) (fun h94 => ?_)
        · skip
          refine gx_iconst (v := b2i false) K d_Uni_areSame_101 rfl ?_
          exact gx_zret K hr hlk d_Uni_areSame_102 ⟨gRb (by simp [h79, h94]), rfl⟩
        · skip
          refine gx_iconst (v := b2i true) K d_Uni_areSame_97 rfl ?_
          refine gx_goto K d_Uni_areSame_98 rfl ?_
          exact gx_zret K hr hlk d_Uni_areSame_102 ⟨gRb (by simp [h79, h94]), rfl⟩
      · skip
        refine gx_iload_n K d_Uni_areSame_82 rfl rfl ?_
        refine gx_if_eqB K d_Uni_areSame_83 rfl (fun h83 => ?_) (fun h83 => ?_)
        · skip
          refine gx_iconst (v := b2i false) K d_Uni_areSame_101 rfl ?_
          exact gx_zret K hr hlk d_Uni_areSame_102 ⟨gRb (by simp [h79, h83]), rfl⟩
        · skip
          refine gx_aload_n K d_Uni_areSame_86 rfl rfl ?_
          refine gx_get K f_Uni_18 h1 rfl d_Uni_areSame_87 ?_
          refine gx_aload_n K d_Uni_areSame_90 rfl rfl ?_
          refine gx_get K f_Uni_18 h2 rfl d_Uni_areSame_91 ?_
          refine gx_icmp_ne K d_Uni_areSame_94 rfl (fun h94 => ?_) (fun h94 => ?_)
          · skip
            refine gx_iconst (v := b2i false) K d_Uni_areSame_101 rfl ?_
            exact gx_zret K hr hlk d_Uni_areSame_102 ⟨gRb (by simp [h79, h83, h94]), rfl⟩
          · skip
            refine gx_iconst (v := b2i true) K d_Uni_areSame_97 rfl ?_
            refine gx_goto K d_Uni_areSame_98 rfl ?_
            exact gx_zret K hr hlk d_Uni_areSame_102 ⟨gRb (by simp [h79, h83, h94]), rfl⟩
    · skip
      refine gx_aload_n K d_Uni_areSame_50 rfl rfl ?_
      refine gx_get K f_Uni_9 h1 rfl d_Uni_areSame_51 ?_
      refine gx_aload_n K d_Uni_areSame_54 rfl rfl ?_
      refine gx_get K f_Uni_15 h2 rfl d_Uni_areSame_55 ?_
      refine gx_icmp_ne K d_Uni_areSame_58 rfl (fun h58 => ?_) (fun h58 => ?_)
      · skip
        refine gx_iconst (v := b2i false) K d_Uni_areSame_76 rfl ?_
        exact j77 _ (by simp [h58])
      · skip
        refine gx_aload_n K d_Uni_areSame_61 rfl rfl ?_
        refine gx_get K f_Uni_15 h1 rfl d_Uni_areSame_62 ?_
        refine gx_aload_n K d_Uni_areSame_65 rfl rfl ?_
        refine gx_get K f_Uni_9 h2 rfl d_Uni_areSame_66 ?_
        refine gx_icmp_ne K d_Uni_areSame_69 rfl (fun h69 => ?_) (fun h69 => ?_)
        · skip
          refine gx_iconst (v := b2i false) K d_Uni_areSame_76 rfl ?_
          exact j77 _ (by simp [h58, h69])
        · skip
          refine gx_iconst (v := b2i true) K d_Uni_areSame_72 rfl ?_
          refine gx_goto K d_Uni_areSame_73 rfl ?_
          exact j77 _ (by simp [h58, h69])
  · skip
    refine gx_aload_n K d_Uni_areSame_22 rfl rfl ?_
    refine gx_get K f_Uni_9 h1 rfl d_Uni_areSame_23 ?_
    refine gx_aload_n K d_Uni_areSame_26 rfl rfl ?_
    refine gx_get K f_Uni_9 h2 rfl d_Uni_areSame_27 ?_
    refine gx_icmp_ne K d_Uni_areSame_30 rfl (fun h30 => ?_) (fun h30 => ?_)
    · skip
      refine gx_iconst (v := b2i false) K d_Uni_areSame_48 rfl ?_
      exact j49 _ (by simp [h30])
    · skip
      refine gx_aload_n K d_Uni_areSame_33 rfl rfl ?_
      refine gx_get K f_Uni_15 h1 rfl d_Uni_areSame_34 ?_
      refine gx_aload_n K d_Uni_areSame_37 rfl rfl ?_
      refine gx_get K f_Uni_15 h2 rfl d_Uni_areSame_38 ?_
      refine gx_icmp_ne K d_Uni_areSame_41 rfl (fun h41 => ?_) (fun h41 => ?_)
      · skip
        refine gx_iconst (v := b2i false) K d_Uni_areSame_48 rfl ?_
        exact j49 _ (by simp [h30, h41])
      · skip
        refine gx_iconst (v := b2i true) K d_Uni_areSame_44 rfl ?_
        refine gx_goto K d_Uni_areSame_45 rfl ?_
        exact j49 _ (by simp [h30, h41])

set_option maxRecDepth 100000 in
set_option maxHeartbeats 1000000 in
theorem z_Uni_areSame_nn {l : Launch} {D : va_G} {ty : Nat → ClassId} {tt : Nat} {ws : va_W}  : Cd l y_Uni_areSame c_Uni_areSame 4 (some .boolean) 0 D ty tt [.null, .null] ws (some (.int (b2i (true)))) ws := by
  refine Ct_of (by decide) (gle rfl) (fun p e s m args below meth c K hr hlk hin => ?_)
  refine gx_aload_nN K d_Uni_areSame_0 rfl rfl ?_
  refine gx_ifnullN K d_Uni_areSame_1 rfl ?_
  refine gx_aload_nN K d_Uni_areSame_8 rfl rfl ?_
  refine gx_ifnonnullN K d_Uni_areSame_9 ?_
  refine gx_aload_nN K d_Uni_areSame_12 rfl rfl ?_
  refine gx_ifnonnullN K d_Uni_areSame_13 ?_
  refine gx_iconst (v := b2i true) K d_Uni_areSame_16 rfl ?_
  refine gx_goto K d_Uni_areSame_17 rfl ?_
  exact gx_zret K hr hlk d_Uni_areSame_21 ⟨gRb (by rfl), rfl⟩

set_option maxRecDepth 100000 in
set_option maxHeartbeats 1000000 in
theorem z_Uni_areSame_rn {l : Launch} {D : va_G} {ty : Nat → ClassId} {tt : Nat} {ws : va_W} (q : Nat) : Cd l y_Uni_areSame c_Uni_areSame 4 (some .boolean) 0 D ty tt [.ref q, .null] ws (some (.int (b2i (false)))) ws := by
  refine Ct_of (by decide) (gle rfl) (fun p e s m args below meth c K hr hlk hin => ?_)
  refine gx_aload_n K d_Uni_areSame_0 rfl rfl ?_
  refine gx_ifnull K d_Uni_areSame_1 ?_
  refine gx_aload_nN K d_Uni_areSame_4 rfl rfl ?_
  refine gx_ifnonnullN K d_Uni_areSame_5 ?_
  refine gx_aload_n K d_Uni_areSame_8 rfl rfl ?_
  refine gx_ifnonnull K d_Uni_areSame_9 rfl ?_
  refine gx_iconst (v := b2i false) K d_Uni_areSame_20 rfl ?_
  exact gx_zret K hr hlk d_Uni_areSame_21 ⟨gRb (by rfl), rfl⟩

set_option maxRecDepth 100000 in
set_option maxHeartbeats 1000000 in
theorem z_Uni_areSame_nr {l : Launch} {D : va_G} {ty : Nat → ClassId} {tt : Nat} {ws : va_W} (q : Nat) : Cd l y_Uni_areSame c_Uni_areSame 4 (some .boolean) 0 D ty tt [.null, .ref q] ws (some (.int (b2i (false)))) ws := by
  refine Ct_of (by decide) (gle rfl) (fun p e s m args below meth c K hr hlk hin => ?_)
  refine gx_aload_nN K d_Uni_areSame_0 rfl rfl ?_
  refine gx_ifnullN K d_Uni_areSame_1 rfl ?_
  refine gx_aload_nN K d_Uni_areSame_8 rfl rfl ?_
  refine gx_ifnonnullN K d_Uni_areSame_9 ?_
  refine gx_aload_n K d_Uni_areSame_12 rfl rfl ?_
  refine gx_ifnonnull K d_Uni_areSame_13 rfl ?_
  refine gx_iconst (v := b2i false) K d_Uni_areSame_20 rfl ?_
  exact gx_zret K hr hlk d_Uni_areSame_21 ⟨gRb (by rfl), rfl⟩

set_option maxRecDepth 100000 in
set_option maxHeartbeats 1000000 in
theorem z_Uni_isCurrency {l : Launch} {D : va_G} {ty : Nat → ClassId} {tt : Nat} {ws : va_W} {a1 b1 c1 : Int32} {i1 q1 : Nat} (h1 : ws[i1]? = some (q1, .inr (10, [.int a1, .int b1, .int c1]))) : Cd l y_Uni_isCurrency c_Uni_isCurrency 1 (some .boolean) 0 D ty tt [.ref q1] ws (some (.int (b2i (decide (6 ≤ a1) && (decide (b1 = 0) && decide (c1 = 0)))))) ws := by
  refine Ct_of (by decide) (gle rfl) (fun p e s m args below meth c K hr hlk hin => ?_)
  refine gx_aload_n K d_Uni_isCurrency_0 rfl rfl ?_
  refine gx_get K f_Uni_9 h1 rfl d_Uni_isCurrency_1 ?_
  refine gx_bipush (v := 6) K d_Uni_isCurrency_4 rfl ?_
  refine gx_icmp_lt K d_Uni_isCurrency_6 rfl (fun h6 => ?_) (fun h6 => ?_)
  · skip
    refine gx_iconst (v := b2i false) K d_Uni_isCurrency_27 rfl ?_
    exact gx_zret K hr hlk d_Uni_isCurrency_28 ⟨gRb (by simp [h6, Int32.not_le.mpr h6]), rfl⟩
  · skip
    refine gx_aload_n K d_Uni_isCurrency_9 rfl rfl ?_
    refine gx_get K f_Uni_15 h1 rfl d_Uni_isCurrency_10 ?_
    refine gx_if_ne K d_Uni_isCurrency_13 rfl (fun h13 => ?_) (fun h13 => ?_)
    · skip
      refine gx_iconst (v := b2i false) K d_Uni_isCurrency_27 rfl ?_
      exact gx_zret K hr hlk d_Uni_isCurrency_28 ⟨gRb (by simp [h6, Int32.not_lt.mp h6, h13]), rfl⟩
    · skip
      refine gx_aload_n K d_Uni_isCurrency_16 rfl rfl ?_
      refine gx_get K f_Uni_18 h1 rfl d_Uni_isCurrency_17 ?_
      refine gx_if_ne K d_Uni_isCurrency_20 rfl (fun h20 => ?_) (fun h20 => ?_)
      · skip
        refine gx_iconst (v := b2i false) K d_Uni_isCurrency_27 rfl ?_
        exact gx_zret K hr hlk d_Uni_isCurrency_28 ⟨gRb (by simp [h6, Int32.not_lt.mp h6, h13, h20]), rfl⟩
      · skip
        refine gx_iconst (v := b2i true) K d_Uni_isCurrency_23 rfl ?_
        refine gx_goto K d_Uni_isCurrency_24 rfl ?_
        exact gx_zret K hr hlk d_Uni_isCurrency_28 ⟨gRb (by simp [h6, Int32.not_lt.mp h6, h13, h20]), rfl⟩

set_option maxRecDepth 100000 in
set_option maxHeartbeats 1000000 in
theorem z_Fac_isVague {l : Launch} {D : va_G} {ty : Nat → ClassId} {tt : Nat} {ws : va_W} {c1 m1 k1 p1 : Int32} {v1 r1 : Int64} {x1 : Nat} {u1 : Value} {i1 q1 : Nat} (h1 : ws[i1]? = some (q1, .inr (11, [.int c1, .ref x1, u1, .int m1, .int k1, .long v1, .int p1, .long r1]))) : Cd l y_Fac_isVague c_Fac_isVague 1 (some .boolean) 0 D ty tt [.ref q1] ws (some (.int (b2i (decide (m1 = 2) && decide (k1 = 0))))) ws := by
  refine Ct_of (by decide) (gle rfl) (fun p e s m args below meth c K hr hlk hin => ?_)
  refine gx_aload_n K d_Fac_isVague_0 rfl rfl ?_
  refine gx_get K f_Fac_23 h1 rfl d_Fac_isVague_1 ?_
  refine gx_iconst (v := 2) K d_Fac_isVague_4 rfl ?_
  refine gx_icmp_ne K d_Fac_isVague_5 rfl (fun h5 => ?_) (fun h5 => ?_)
  · skip
    refine gx_iconst (v := b2i false) K d_Fac_isVague_19 rfl ?_
    exact gx_zret K hr hlk d_Fac_isVague_20 ⟨gRb (by simp [h5]), rfl⟩
  · skip
    refine gx_aload_n K d_Fac_isVague_8 rfl rfl ?_
    refine gx_get K f_Fac_26 h1 rfl d_Fac_isVague_9 ?_
    refine gx_if_ne K d_Fac_isVague_12 rfl (fun h12 => ?_) (fun h12 => ?_)
    · skip
      refine gx_iconst (v := b2i false) K d_Fac_isVague_19 rfl ?_
      exact gx_zret K hr hlk d_Fac_isVague_20 ⟨gRb (by simp [h5, h12]), rfl⟩
    · skip
      refine gx_iconst (v := b2i true) K d_Fac_isVague_15 rfl ?_
      refine gx_goto K d_Fac_isVague_16 rfl ?_
      exact gx_zret K hr hlk d_Fac_isVague_20 ⟨gRb (by simp [h5, h12]), rfl⟩

set_option maxRecDepth 100000 in
set_option maxHeartbeats 1000000 in
theorem z_Fac_isAccuracy {l : Launch} {D : va_G} {ty : Nat → ClassId} {tt : Nat} {ws : va_W} (m k : Int32) : Cd l y_Fac_isAccuracy c_Fac_isAccuracy 2 (some .boolean) 1 D ty tt [.int m, .int k] ws (some (.int (b2i (decide (m = 0) || (decide (m = 3) || ((decide (m = 1) && m_in k (-9) 6) || (decide (m = 2) && m_in k 0 15))))))) ws := by
  refine Ct_of (by decide) (gle rfl) (fun p e s m args below meth c K hr hlk hin => ?_)
  refine gx_iload_n K d_Fac_isAccuracy_0 rfl rfl ?_
  refine gx_iconst (v := 1) K d_Fac_isAccuracy_1 rfl ?_
  refine gx_icmp_ne K d_Fac_isAccuracy_2 rfl (fun h2 => ?_) (fun h2 => ?_)
  · skip
    refine gx_iload_n K d_Fac_isAccuracy_14 rfl rfl ?_
    refine gx_iconst (v := 2) K d_Fac_isAccuracy_15 rfl ?_
    refine gx_icmp_ne K d_Fac_isAccuracy_16 rfl (fun h16 => ?_) (fun h16 => ?_)
    · skip
      refine gx_iload_n K d_Fac_isAccuracy_27 rfl rfl ?_
      refine gx_if_eq K d_Fac_isAccuracy_28 rfl (fun h28 => ?_) (fun h28 => ?_)
      · skip
        refine gx_iconst (v := b2i true) K d_Fac_isAccuracy_36 rfl ?_
        refine gx_goto K d_Fac_isAccuracy_37 rfl ?_
        exact gx_zret K hr hlk d_Fac_isAccuracy_41 ⟨gRb (by simp [h2, h16, h28] <;> simp_all), rfl⟩
      · skip
        refine gx_iload_n K d_Fac_isAccuracy_31 rfl rfl ?_
        refine gx_iconst (v := 3) K d_Fac_isAccuracy_32 rfl ?_
        refine gx_icmp_ne K d_Fac_isAccuracy_33 rfl (fun h33 => ?_) (fun h33 => ?_)
        · skip
          refine gx_iconst (v := b2i false) K d_Fac_isAccuracy_40 rfl ?_
          exact gx_zret K hr hlk d_Fac_isAccuracy_41 ⟨gRb (by simp [h2, h16, h28, h33] <;> simp_all), rfl⟩
        · skip
          refine gx_iconst (v := b2i true) K d_Fac_isAccuracy_36 rfl ?_
          refine gx_goto K d_Fac_isAccuracy_37 rfl ?_
          exact gx_zret K hr hlk d_Fac_isAccuracy_41 ⟨gRb (by simp [h2, h16, h28, h33] <;> simp_all), rfl⟩
    · skip
      refine gx_iload_n K d_Fac_isAccuracy_19 rfl rfl ?_
      refine gx_iconst (v := 0) K d_Fac_isAccuracy_20 rfl ?_
      refine gx_bipush (v := 15) K d_Fac_isAccuracy_21 rfl ?_
      refine gx_SNd K (z_FB_within _ _ _ _) Y_FB_within k226 k417 rfl ⟨gle rfl, gle rfl⟩ ⟨gle rfl, gle rfl⟩ (gle rfl) d_Fac_isAccuracy_23 ?_
      exact gx_zret K hr hlk d_Fac_isAccuracy_26 ⟨gRb (by simp [h2, h16] <;> simp_all), rfl⟩
  · skip
    refine gx_iload_n K d_Fac_isAccuracy_5 rfl rfl ?_
    refine gx_bipush (v := -9) K d_Fac_isAccuracy_6 rfl ?_
    refine gx_bipush (v := 6) K d_Fac_isAccuracy_8 rfl ?_
    refine gx_SNd K (z_FB_within _ _ _ _) Y_FB_within k226 k417 rfl ⟨gle rfl, gle rfl⟩ ⟨gle rfl, gle rfl⟩ (gle rfl) d_Fac_isAccuracy_10 ?_
    exact gx_zret K hr hlk d_Fac_isAccuracy_13 ⟨gRb (by simp [h2] <;> simp_all), rfl⟩

set_option maxRecDepth 100000 in
set_option maxHeartbeats 1000000 in
theorem z_Math_floorDiv {l : Launch} {D : va_G} {ty : Nat → ClassId} {tt : Nat} {ws : va_W} (x u : Int64) (hu0 : ¬ u = 0) : Cd l y_Math_floorDiv c_Math_floorDiv 6 (some .long) 0 D ty tt [.long x, .long u] ws (some (.long (r_fd x u))) ws := by
  refine Ct_ofF (by decide +kernel) (gle rfl) (fun p e s m args below meth c K hr hlk hin => ?_)
  refine gx_lload_n K d_Math_floorDiv_0 rfl rfl ?_
  refine gx_lload_n K d_Math_floorDiv_1 rfl rfl ?_
  refine gx_ldiv K d_Math_floorDiv_2 (hu0) ?_
  refine gx_lstore K d_Math_floorDiv_3 (gle rfl) rfl ?_
  refine gx_lload_n K d_Math_floorDiv_5 rfl rfl ?_
  refine gx_lload_n K d_Math_floorDiv_6 rfl rfl ?_
  refine gx_lxor K d_Math_floorDiv_7 ?_
  refine gx_lconst (v := 0) K d_Math_floorDiv_8 rfl ?_
  refine gx_lcmp K d_Math_floorDiv_9 ?_
  refine gx_ifl_ge K d_Math_floorDiv_10 rfl (fun h10 => ?_) (fun h10 => ?_)
  · skip
    refine gx_lload K d_Math_floorDiv_27 rfl ?_
    exact gx_lret K hr hlk d_Math_floorDiv_29 ⟨gRl (by unfold r_fd; rw [if_neg (fun q => Int64.not_lt.mpr h10 q.1)]), rfl⟩
  · skip
    refine gx_lload K d_Math_floorDiv_13 rfl ?_
    refine gx_lload_n K d_Math_floorDiv_15 rfl rfl ?_
    refine gx_lmul K d_Math_floorDiv_16 ?_
    refine gx_lload_n K d_Math_floorDiv_17 rfl rfl ?_
    refine gx_lcmp K d_Math_floorDiv_18 ?_
    refine gx_ifl_eq K d_Math_floorDiv_19 rfl (fun h19 => ?_) (fun h19 => ?_)
    · skip
      refine gx_lload K d_Math_floorDiv_27 rfl ?_
      exact gx_lret K hr hlk d_Math_floorDiv_29 ⟨gRl (by unfold r_fd; rw [if_neg (fun q => q.2 h19)]), rfl⟩
    · skip
      refine gx_lload K d_Math_floorDiv_22 rfl ?_
      refine gx_lconst (v := 1) K d_Math_floorDiv_24 rfl ?_
      refine gx_lsub K d_Math_floorDiv_25 ?_
      exact gx_lret K hr hlk d_Math_floorDiv_26 ⟨gRl (by unfold r_fd; rw [if_pos ⟨Int64.not_le.mp h10, h19⟩]), rfl⟩

set_option maxRecDepth 100000 in
set_option maxHeartbeats 1000000 in
theorem z_Math_max {l : Launch} {D : va_G} {ty : Nat → ClassId} {tt : Nat} {ws : va_W} (x y : Int32) : Cd l y_Math_max c_Math_max 2 (some .int) 0 D ty tt [.int x, .int y] ws (some (.int (if x < y then y else x))) ws := by
  refine Ct_ofF (by decide +kernel) (gle rfl) (fun p e s m args below meth c K hr hlk hin => ?_)
  refine gx_iload_n K d_Math_max_0 rfl rfl ?_
  refine gx_iload_n K d_Math_max_1 rfl rfl ?_
  refine gx_icmp_lt K d_Math_max_2 rfl (fun h2 => ?_) (fun h2 => ?_)
  · skip
    refine gx_iload_n K d_Math_max_9 rfl rfl ?_
    exact gx_iret K hr hlk d_Math_max_10 ⟨gRi (by simp [h2]), rfl⟩
  · skip
    refine gx_iload_n K d_Math_max_5 rfl rfl ?_
    refine gx_goto K d_Math_max_6 rfl ?_
    exact gx_iret K hr hlk d_Math_max_10 ⟨gRi (by simp [h2]), rfl⟩

set_option maxRecDepth 100000 in
set_option maxHeartbeats 1000000 in
theorem z_Math_min {l : Launch} {D : va_G} {ty : Nat → ClassId} {tt : Nat} {ws : va_W} (x y : Int32) : Cd l y_Math_min c_Math_min 2 (some .int) 0 D ty tt [.int x, .int y] ws (some (.int (if y < x then y else x))) ws := by
  refine Ct_ofF (by decide +kernel) (gle rfl) (fun p e s m args below meth c K hr hlk hin => ?_)
  refine gx_iload_n K d_Math_min_0 rfl rfl ?_
  refine gx_iload_n K d_Math_min_1 rfl rfl ?_
  refine gx_icmp_gt K d_Math_min_2 rfl (fun h2 => ?_) (fun h2 => ?_)
  · skip
    refine gx_iload_n K d_Math_min_9 rfl rfl ?_
    exact gx_iret K hr hlk d_Math_min_10 ⟨gRi (by simp [h2]), rfl⟩
  · skip
    refine gx_iload_n K d_Math_min_5 rfl rfl ?_
    refine gx_goto K d_Math_min_6 rfl ?_
    exact gx_iret K hr hlk d_Math_min_10 ⟨gRi (by simp [h2]), rfl⟩


