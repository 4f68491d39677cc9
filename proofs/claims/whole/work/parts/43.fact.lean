def c_cur (E : Nat → Nat → Int32) (u : Nat) : Bool := decide (6 ≤ E 15 u) && (decide (E 16 u = 0) && decide (E 17 u = 0))
def c_huf (E : Nat → Nat → Int32) (x t : Int32) : Bool := if x = -1 then decide (t = 0) else (!decide (t = 0) && (!decide (t = 2) || c_cur E (ix x)))
def c_fault (E : Nat → Nat → Int32) (f c0 : Nat) (kn : Bool) : Int32 := if kn = false then 1 else if c_huf E (E 21 f) (E 1 c0) = false then 2 else if ¬ (if E 12 (ix (E 20 f)) = -1 then (0 : Int32) else 1) = E 3 c0 then 3 else if (!decide (E 1 c0 = 0)) = (!decide (E 22 f = 0)) then 0 else 4
theorem eqm {x : Int32} (h : ¬ x < 0) : ¬ (-1 : Int32) = x := fun q => h (by rw [← q]; decide)
theorem eqm2 {x : Int32} (h : ¬ x < 0) : ¬ x = -1 := fun q => h (by rw [q]; decide)
set_option maxRecDepth 100000 in
set_option maxHeartbeats 1000000 in
theorem z_Fac_standsWith {l : Launch} {D : va_G} {ty : Nat → ClassId} {tt : Nat} {a : Nat → Nat} {N : Nat → Nat} {r : Nat → Int32} {en re : Int32} {O : Nat → Nat → Option Nat} {z : Nat} {tx : Nat → Int32} {X : Nat → Nat → Bool} {Y : Nat → Nat → Int32} {fc : Nat} {sl : Bool} {pt : Int32} {tot : Int64} {hv : Bool} {rest : va_W} (hN : mN N)  {E : Nat → Nat → Int32} {V : Nat → Int64} {q1 k1 x1 i1 f1 : Nat} {u1 : Value} (hk1 : rest[k1]? = some (q1, .inr (11, [.int (E 19 f1), .ref x1, u1, .int (E 22 f1), .int (E 23 f1), .long (V f1), .int (m_places (E 22 f1) (E 23 f1) (V f1)), .long (m_rounded E V f1)]))) (gk1 : rest[i1]? = some (x1, .inr (9, [.int (E 11 (ix (E 20 f1))), .int (E 12 (ix (E 20 f1))), .int (E 13 (ix (E 20 f1))), .int (E 14 (ix (E 20 f1)))]))) (uk1 : pUn E rest u1 (E 21 f1)) {q2 k2 x2 i2 f2 : Nat} {u2 : Value} (hk2 : rest[k2]? = some (q2, .inr (11, [.int (E 19 f2), .ref x2, u2, .int (E 22 f2), .int (E 23 f2), .long (V f2), .int (m_places (E 22 f2) (E 23 f2) (V f2)), .long (m_rounded E V f2)]))) (gk2 : rest[i2]? = some (x2, .inr (9, [.int (E 11 (ix (E 20 f2))), .int (E 12 (ix (E 20 f2))), .int (E 13 (ix (E 20 f2))), .int (E 14 (ix (E 20 f2)))]))) (uk2 : pUn E rest u2 (E 21 f2)) : Cd l y_Fac_standsWith c_Fac_standsWith 2 (some .boolean) 1 D ty tt [.ref q1, .ref q2] (fbW a ty N r en re O z tx X Y fc sl pt tot hv rest) (some (.int (b2i (m_eqX E (ix (E 20 f1)) (ix (E 20 f2)) && m_eqU E (E 21 f1) (E 21 f2))))) (fbW a ty N r en re O z tx X Y fc sl pt tot hv rest) := by
  obtain ⟨n0, n1, n2, n3, n4, n5⟩ := id hN
  rcases uk1 with ⟨hu1, rfl⟩ | ⟨y1, l1, hu1, rfl, hy1⟩
  · rcases uk2 with ⟨hu2, rfl⟩ | ⟨y2, l2, hu2, rfl, hy2⟩
    · refine Ct_of (by decide) (gle rfl) (fun p e s m args below meth c K hr hlk hin => ?_)
      refine gx_aload_n K d_Fac_standsWith_0 rfl rfl ?_
      refine gx_get K f_Fac_15 (fb_pl hk1) rfl d_Fac_standsWith_1 ?_
      refine gx_aload_n K d_Fac_standsWith_4 rfl rfl ?_
      refine gx_get K f_Fac_15 (fb_pl hk2) rfl d_Fac_standsWith_5 ?_
      refine gx_VNd K (z_Ctx_matches (fb_pl gk1) (fb_pl gk2)) Y_Ctx_matches (ci := 9) rfl (fb_pl gk1) k575 ks33 k573 rfl ⟨gle rfl, gle rfl⟩ ⟨gle rfl, gle rfl⟩ (gle rfl) d_Fac_standsWith_8 ?_
      refine gx_if_eqB K d_Fac_standsWith_11 rfl (fun h11 => ?_) (fun h11 => ?_)
      · skip
        refine gx_iconst (v := b2i false) K d_Fac_standsWith_32 rfl ?_
        exact gx_zret K hr hlk d_Fac_standsWith_33 ⟨gRb (by simp [m_eqX, m_eqU, hu1, hu2, h11]), rfl⟩
      · skip
        refine gx_aload_n K d_Fac_standsWith_14 rfl rfl ?_
        refine gx_get K f_Fac_19 (fb_pl hk1) rfl d_Fac_standsWith_15 ?_
        refine gx_aload_n K d_Fac_standsWith_18 rfl rfl ?_
        refine gx_get K f_Fac_19 (fb_pl hk2) rfl d_Fac_standsWith_19 ?_
        refine gx_SNd K (z_Uni_areSame_nn) Y_Uni_areSame k578 k577 rfl ⟨gle rfl, gle rfl⟩ ⟨gle rfl, gle rfl⟩ (gle rfl) d_Fac_standsWith_22 ?_
        refine gx_if_eqB K d_Fac_standsWith_25 rfl (fun h25 => ?_) (fun h25 => ?_)
        · skip
          refine gx_iconst (v := b2i false) K d_Fac_standsWith_32 rfl ?_
          exact gx_zret K hr hlk d_Fac_standsWith_33 ⟨gRb (by simp [m_eqX, m_eqU, hu1, hu2, h11, h25]), rfl⟩
        · skip
          refine gx_iconst (v := b2i true) K d_Fac_standsWith_28 rfl ?_
          refine gx_goto K d_Fac_standsWith_29 rfl ?_
          exact gx_zret K hr hlk d_Fac_standsWith_33 ⟨gRb (by simp [m_eqX, m_eqU, hu1, hu2, h11, h25]), rfl⟩
    · refine Ct_of (by decide) (gle rfl) (fun p e s m args below meth c K hr hlk hin => ?_)
      refine gx_aload_n K d_Fac_standsWith_0 rfl rfl ?_
      refine gx_get K f_Fac_15 (fb_pl hk1) rfl d_Fac_standsWith_1 ?_
      refine gx_aload_n K d_Fac_standsWith_4 rfl rfl ?_
      refine gx_get K f_Fac_15 (fb_pl hk2) rfl d_Fac_standsWith_5 ?_
      refine gx_VNd K (z_Ctx_matches (fb_pl gk1) (fb_pl gk2)) Y_Ctx_matches (ci := 9) rfl (fb_pl gk1) k575 ks33 k573 rfl ⟨gle rfl, gle rfl⟩ ⟨gle rfl, gle rfl⟩ (gle rfl) d_Fac_standsWith_8 ?_
      refine gx_if_eqB K d_Fac_standsWith_11 rfl (fun h11 => ?_) (fun h11 => ?_)
      · skip
        refine gx_iconst (v := b2i false) K d_Fac_standsWith_32 rfl ?_
        exact gx_zret K hr hlk d_Fac_standsWith_33 ⟨gRb (by simp [m_eqX, m_eqU, hu1, eqm hu2, h11]), rfl⟩
      · skip
        refine gx_aload_n K d_Fac_standsWith_14 rfl rfl ?_
        refine gx_get K f_Fac_19 (fb_pl hk1) rfl d_Fac_standsWith_15 ?_
        refine gx_aload_n K d_Fac_standsWith_18 rfl rfl ?_
        refine gx_get K f_Fac_19 (fb_pl hk2) rfl d_Fac_standsWith_19 ?_
        refine gx_SNd K (z_Uni_areSame_nr _) Y_Uni_areSame k578 k577 rfl ⟨gle rfl, gle rfl⟩ ⟨gle rfl, gle rfl⟩ (gle rfl) d_Fac_standsWith_22 ?_
        refine gx_if_eqB K d_Fac_standsWith_25 rfl (fun h25 => ?_) (fun h25 => ?_)
        · skip
          refine gx_iconst (v := b2i false) K d_Fac_standsWith_32 rfl ?_
          exact gx_zret K hr hlk d_Fac_standsWith_33 ⟨gRb (by simp [m_eqX, m_eqU, hu1, eqm hu2, h11, h25]), rfl⟩
        · skip
          refine gx_iconst (v := b2i true) K d_Fac_standsWith_28 rfl ?_
          refine gx_goto K d_Fac_standsWith_29 rfl ?_
          exact gx_zret K hr hlk d_Fac_standsWith_33 ⟨gRb (by simp [m_eqX, m_eqU, hu1, eqm hu2, h11, h25]), rfl⟩
  · rcases uk2 with ⟨hu2, rfl⟩ | ⟨y2, l2, hu2, rfl, hy2⟩
    · refine Ct_of (by decide) (gle rfl) (fun p e s m args below meth c K hr hlk hin => ?_)
      refine gx_aload_n K d_Fac_standsWith_0 rfl rfl ?_
      refine gx_get K f_Fac_15 (fb_pl hk1) rfl d_Fac_standsWith_1 ?_
      refine gx_aload_n K d_Fac_standsWith_4 rfl rfl ?_
      refine gx_get K f_Fac_15 (fb_pl hk2) rfl d_Fac_standsWith_5 ?_
      refine gx_VNd K (z_Ctx_matches (fb_pl gk1) (fb_pl gk2)) Y_Ctx_matches (ci := 9) rfl (fb_pl gk1) k575 ks33 k573 rfl ⟨gle rfl, gle rfl⟩ ⟨gle rfl, gle rfl⟩ (gle rfl) d_Fac_standsWith_8 ?_
      refine gx_if_eqB K d_Fac_standsWith_11 rfl (fun h11 => ?_) (fun h11 => ?_)
      · skip
        refine gx_iconst (v := b2i false) K d_Fac_standsWith_32 rfl ?_
        exact gx_zret K hr hlk d_Fac_standsWith_33 ⟨gRb (by simp [m_eqX, m_eqU, hu2, eqm2 hu1, h11]), rfl⟩
      · skip
        refine gx_aload_n K d_Fac_standsWith_14 rfl rfl ?_
        refine gx_get K f_Fac_19 (fb_pl hk1) rfl d_Fac_standsWith_15 ?_
        refine gx_aload_n K d_Fac_standsWith_18 rfl rfl ?_
        refine gx_get K f_Fac_19 (fb_pl hk2) rfl d_Fac_standsWith_19 ?_
        refine gx_SNd K (z_Uni_areSame_rn _) Y_Uni_areSame k578 k577 rfl ⟨gle rfl, gle rfl⟩ ⟨gle rfl, gle rfl⟩ (gle rfl) d_Fac_standsWith_22 ?_
        refine gx_if_eqB K d_Fac_standsWith_25 rfl (fun h25 => ?_) (fun h25 => ?_)
        · skip
          refine gx_iconst (v := b2i false) K d_Fac_standsWith_32 rfl ?_
          exact gx_zret K hr hlk d_Fac_standsWith_33 ⟨gRb (by simp [m_eqX, m_eqU, hu2, eqm2 hu1, h11, h25]), rfl⟩
        · skip
          refine gx_iconst (v := b2i true) K d_Fac_standsWith_28 rfl ?_
          refine gx_goto K d_Fac_standsWith_29 rfl ?_
          exact gx_zret K hr hlk d_Fac_standsWith_33 ⟨gRb (by simp [m_eqX, m_eqU, hu2, eqm2 hu1, h11, h25]), rfl⟩
    · refine Ct_of (by decide) (gle rfl) (fun p e s m args below meth c K hr hlk hin => ?_)
      refine gx_aload_n K d_Fac_standsWith_0 rfl rfl ?_
      refine gx_get K f_Fac_15 (fb_pl hk1) rfl d_Fac_standsWith_1 ?_
      refine gx_aload_n K d_Fac_standsWith_4 rfl rfl ?_
      refine gx_get K f_Fac_15 (fb_pl hk2) rfl d_Fac_standsWith_5 ?_
      refine gx_VNd K (z_Ctx_matches (fb_pl gk1) (fb_pl gk2)) Y_Ctx_matches (ci := 9) rfl (fb_pl gk1) k575 ks33 k573 rfl ⟨gle rfl, gle rfl⟩ ⟨gle rfl, gle rfl⟩ (gle rfl) d_Fac_standsWith_8 ?_
      refine gx_if_eqB K d_Fac_standsWith_11 rfl (fun h11 => ?_) (fun h11 => ?_)
      · skip
        refine gx_iconst (v := b2i false) K d_Fac_standsWith_32 rfl ?_
        exact gx_zret K hr hlk d_Fac_standsWith_33 ⟨gRb (by simp [m_eqX, m_eqU, hu1, hu2, Int32.not_lt.mp hu1, Int32.not_lt.mp hu2, h11] <;> simp_all), rfl⟩
      · skip
        refine gx_aload_n K d_Fac_standsWith_14 rfl rfl ?_
        refine gx_get K f_Fac_19 (fb_pl hk1) rfl d_Fac_standsWith_15 ?_
        refine gx_aload_n K d_Fac_standsWith_18 rfl rfl ?_
        refine gx_get K f_Fac_19 (fb_pl hk2) rfl d_Fac_standsWith_19 ?_
        refine gx_SNd K (z_Uni_areSame (fb_pl hy1) (fb_pl hy2)) Y_Uni_areSame k578 k577 rfl ⟨gle rfl, gle rfl⟩ ⟨gle rfl, gle rfl⟩ (gle rfl) d_Fac_standsWith_22 ?_
        refine gx_if_eqB K d_Fac_standsWith_25 rfl (fun h25 => ?_) (fun h25 => ?_)
        · skip
          refine gx_iconst (v := b2i false) K d_Fac_standsWith_32 rfl ?_
          exact gx_zret K hr hlk d_Fac_standsWith_33 ⟨gRb (by simp [m_eqX, m_eqU, hu1, hu2, Int32.not_lt.mp hu1, Int32.not_lt.mp hu2, h11, h25] <;> simp_all), rfl⟩
        · skip
          refine gx_iconst (v := b2i true) K d_Fac_standsWith_28 rfl ?_
          refine gx_goto K d_Fac_standsWith_29 rfl ?_
          exact gx_zret K hr hlk d_Fac_standsWith_33 ⟨gRb (by simp [m_eqX, m_eqU, hu1, hu2, Int32.not_lt.mp hu1, Int32.not_lt.mp hu2, h11, h25] <;> simp_all), rfl⟩

set_option maxRecDepth 100000 in
set_option maxHeartbeats 1000000 in
theorem z_Fac_hasUnitFor {l : Launch} {D : va_G} {ty : Nat → ClassId} {tt : Nat} {a : Nat → Nat} {N : Nat → Nat} {r : Nat → Int32} {en re : Int32} {O : Nat → Nat → Option Nat} {z : Nat} {tx : Nat → Int32} {X : Nat → Nat → Bool} {Y : Nat → Nat → Int32} {fc : Nat} {sl : Bool} {pt : Int32} {tot : Int64} {hv : Bool} {rest : va_W} (hN : mN N)  {E : Nat → Nat → Int32} {V : Nat → Int64} (t0 : Int32) {q1 k1 x1 i1 f1 : Nat} {u1 : Value} (hk1 : rest[k1]? = some (q1, .inr (11, [.int (E 19 f1), .ref x1, u1, .int (E 22 f1), .int (E 23 f1), .long (V f1), .int (m_places (E 22 f1) (E 23 f1) (V f1)), .long (m_rounded E V f1)]))) (gk1 : rest[i1]? = some (x1, .inr (9, [.int (E 11 (ix (E 20 f1))), .int (E 12 (ix (E 20 f1))), .int (E 13 (ix (E 20 f1))), .int (E 14 (ix (E 20 f1)))]))) (uk1 : pUn E rest u1 (E 21 f1)) : Cd l y_Fac_hasUnitFor c_Fac_hasUnitFor 2 (some .boolean) 1 D ty tt [.ref q1, .int t0] (fbW a ty N r en re O z tx X Y fc sl pt tot hv rest) (some (.int (b2i (c_huf E (E 21 f1) t0)))) (fbW a ty N r en re O z tx X Y fc sl pt tot hv rest) := by
  obtain ⟨n0, n1, n2, n3, n4, n5⟩ := id hN
  rcases uk1 with ⟨hu1, rfl⟩ | ⟨y1, l1, hu1, rfl, hy1⟩
  · refine Ct_of (by decide) (gle rfl) (fun p e s m args below meth c K hr hlk hin => ?_)
    refine gx_aload_n K d_Fac_hasUnitFor_0 rfl rfl ?_
    refine gx_get K f_Fac_19 (fb_pl hk1) rfl d_Fac_hasUnitFor_1 ?_
    refine gx_ifnullN K d_Fac_hasUnitFor_4 rfl ?_
    refine gx_aload_n K d_Fac_hasUnitFor_11 rfl rfl ?_
    refine gx_get K f_Fac_19 (fb_pl hk1) rfl d_Fac_hasUnitFor_12 ?_
    refine gx_ifnonnullN K d_Fac_hasUnitFor_15 ?_
    refine gx_iload_n K d_Fac_hasUnitFor_18 rfl rfl ?_
    refine gx_if_ne K d_Fac_hasUnitFor_19 rfl (fun h19 => ?_) (fun h19 => ?_)
    · skip
      refine gx_iconst (v := b2i false) K d_Fac_hasUnitFor_26 rfl ?_
      exact gx_zret K hr hlk d_Fac_hasUnitFor_27 ⟨gRb (by simp [c_huf, hu1, h19]), rfl⟩
    · skip
      refine gx_iconst (v := b2i true) K d_Fac_hasUnitFor_22 rfl ?_
      refine gx_goto K d_Fac_hasUnitFor_23 rfl ?_
      exact gx_zret K hr hlk d_Fac_hasUnitFor_27 ⟨gRb (by simp [c_huf, hu1, h19]), rfl⟩
  · refine Ct_of (by decide) (gle rfl) (fun p e s m args below meth c K hr hlk hin => ?_)
    refine gx_aload_n K d_Fac_hasUnitFor_0 rfl rfl ?_
    refine gx_get K f_Fac_19 (fb_pl hk1) rfl d_Fac_hasUnitFor_1 ?_
    refine gx_ifnull K d_Fac_hasUnitFor_4 ?_
    refine gx_iload_n K d_Fac_hasUnitFor_7 rfl rfl ?_
    refine gx_if_ne K d_Fac_hasUnitFor_8 rfl (fun h8 => ?_) (fun h8 => ?_)
    · skip
      refine gx_iload_n K d_Fac_hasUnitFor_28 rfl rfl ?_
      refine gx_iconst (v := 2) K d_Fac_hasUnitFor_29 rfl ?_
      refine gx_icmp_ne K d_Fac_hasUnitFor_30 rfl (fun h30 => ?_) (fun h30 => ?_)
      · skip
        refine gx_iconst (v := b2i true) K d_Fac_hasUnitFor_43 rfl ?_
        refine gx_goto K d_Fac_hasUnitFor_44 rfl ?_
        exact gx_zret K hr hlk d_Fac_hasUnitFor_48 ⟨gRb (by simp [c_huf, c_cur, eqm2 hu1, h8, h30] <;> simp_all), rfl⟩
      · skip
        refine gx_aload_n K d_Fac_hasUnitFor_33 rfl rfl ?_
        refine gx_get K f_Fac_19 (fb_pl hk1) rfl d_Fac_hasUnitFor_34 ?_
        refine gx_VNd K (z_Uni_isCurrency (fb_pl hy1)) Y_Uni_isCurrency (ci := 10) rfl (fb_pl hy1) k555 ks28 k553 rfl ⟨gle rfl, gle rfl⟩ ⟨gle rfl, gle rfl⟩ (gle rfl) d_Fac_hasUnitFor_37 ?_
        refine gx_if_eqB K d_Fac_hasUnitFor_40 rfl (fun h40 => ?_) (fun h40 => ?_)
        · skip
          refine gx_iconst (v := b2i false) K d_Fac_hasUnitFor_47 rfl ?_
          exact gx_zret K hr hlk d_Fac_hasUnitFor_48 ⟨gRb (by simp [c_huf, c_cur, eqm2 hu1, h8, h30, h40] <;> simp_all), rfl⟩
        · skip
          refine gx_iconst (v := b2i true) K d_Fac_hasUnitFor_43 rfl ?_
          refine gx_goto K d_Fac_hasUnitFor_44 rfl ?_
          exact gx_zret K hr hlk d_Fac_hasUnitFor_48 ⟨gRb (by simp [c_huf, c_cur, eqm2 hu1, h8, h30, h40] <;> simp_all), rfl⟩
    · skip
      refine gx_aload_n K d_Fac_hasUnitFor_11 rfl rfl ?_
      refine gx_get K f_Fac_19 (fb_pl hk1) rfl d_Fac_hasUnitFor_12 ?_
      refine gx_ifnonnull K d_Fac_hasUnitFor_15 rfl ?_
      refine gx_iconst (v := b2i false) K d_Fac_hasUnitFor_26 rfl ?_
      exact gx_zret K hr hlk d_Fac_hasUnitFor_27 ⟨gRb (by simp [c_huf, c_cur, eqm2 hu1, h8] <;> simp_all), rfl⟩

set_option maxRecDepth 100000 in
set_option maxHeartbeats 1000000 in
theorem z_Fac_findFault {l : Launch} {D : va_G} {ty : Nat → ClassId} {tt : Nat} {a : Nat → Nat} {N : Nat → Nat} {r : Nat → Int32} {en re : Int32} {O : Nat → Nat → Option Nat} {z : Nat} {tx : Nat → Int32} {X : Nat → Nat → Bool} {Y : Nat → Nat → Int32} {fc : Nat} {sl : Bool} {pt : Int32} {tot : Int64} {hv : Bool} {rest : va_W} (hN : mN N)  {E : Nat → Nat → Int32} {V : Nat → Int64} (kn : Bool) {q1 k1 x1 i1 f1 : Nat} {u1 : Value} (hk1 : rest[k1]? = some (q1, .inr (11, [.int (E 19 f1), .ref x1, u1, .int (E 22 f1), .int (E 23 f1), .long (V f1), .int (m_places (E 22 f1) (E 23 f1) (V f1)), .long (m_rounded E V f1)]))) (gk1 : rest[i1]? = some (x1, .inr (9, [.int (E 11 (ix (E 20 f1))), .int (E 12 (ix (E 20 f1))), .int (E 13 (ix (E 20 f1))), .int (E 14 (ix (E 20 f1)))]))) (uk1 : pUn E rest u1 (E 21 f1)) {qc kc c0 : Nat} (hc : rest[kc]? = some (qc, .inr (6, [.int (E 0 c0), .int (E 1 c0), .int (E 2 c0), .int (E 3 c0)]))) : Cd l y_Fac_findFault c_Fac_findFault 5 (some .int) 2 D ty tt [.ref q1, .ref qc, .int (b2i kn)] (fbW a ty N r en re O z tx X Y fc sl pt tot hv rest) (some (.int (c_fault E f1 c0 kn))) (fbW a ty N r en re O z tx X Y fc sl pt tot hv rest) := by
  obtain ⟨n0, n1, n2, n3, n4, n5⟩ := id hN
  refine Ct_of (by decide) (gle rfl) (fun p e s m args below meth c K hr hlk hin => ?_)
  refine gx_iload_n K d_Fac_findFault_0 rfl rfl ?_
  refine gx_if_neB K d_Fac_findFault_1 rfl (fun h1 => ?_) (fun h1 => ?_)
  · skip
    refine gx_aload_n K d_Fac_findFault_6 rfl rfl ?_
    refine gx_aload_n K d_Fac_findFault_7 rfl rfl ?_
    refine gx_getN K f_Fac_86 (fb_pl hc) rfl d_Fac_findFault_8 ?_
    refine gx_Vd K (z_Fac_hasUnitFor hN _ hk1 gk1 uk1) Y_Fac_hasUnitFor (ci := 11) rfl (fb_pl hk1) k551 ks27 k549 rfl ⟨gle rfl, gle rfl⟩ ⟨gle rfl, gle rfl⟩ (gle rfl) d_Fac_findFault_11 ?_
    refine gx_if_neB K d_Fac_findFault_14 rfl (fun h14 => ?_) (fun h14 => ?_)
    · skip
      refine gx_aload_n K d_Fac_findFault_19 rfl rfl ?_
      refine gx_get K f_Fac_15 (fb_pl hk1) rfl d_Fac_findFault_20 ?_
      refine gx_VNd K (z_Ctx_periodKind (fb_pl gk1)) Y_Ctx_periodKind (ci := 9) rfl (fb_pl gk1) k559 ks29 k557 rfl ⟨gle rfl, gle rfl⟩ ⟨gle rfl, gle rfl⟩ (gle rfl) d_Fac_findFault_23 ?_
      refine gx_aload_n K d_Fac_findFault_26 rfl rfl ?_
      refine gx_getN K f_Fac_99 (fb_pl hc) rfl d_Fac_findFault_27 ?_
      refine gx_icmp_eq K d_Fac_findFault_30 rfl (fun h30 => ?_) (fun h30 => ?_)
      · skip
        refine gx_cut (X := !decide (E 1 c0 = 0)) 47 ?_ (fun j47 => ?_)
        · skip
          refine gx_istore_n K d_Fac_findFault_47 rfl (gle rfl) rfl ?_
          refine gx_cut (X := !decide (E 22 f1 = 0)) 60 ?_ (fun j60 => ?_)
          · skip
            refine gx_istore K d_Fac_findFault_60 (gle rfl) rfl ?_
            refine gx_iload_n K d_Fac_findFault_62 rfl rfl ?_
            refine gx_iload K d_Fac_findFault_63 rfl ?_
            refine gx_icmp_eqB K d_Fac_findFault_65 rfl (fun h65 => ?_) (fun h65 => ?_)
            · skip
              refine gx_iconst (v := 0) K d_Fac_findFault_72 rfl ?_
              exact gx_iret K hr hlk d_Fac_findFault_73 ⟨gRi (by simp [c_fault, h1, h14, h30, h65] <;> simp_all), rfl⟩
            · skip
              refine gx_iconst (v := 4) K d_Fac_findFault_68 rfl ?_
              refine gx_goto K d_Fac_findFault_69 rfl ?_
              exact gx_iret K hr hlk d_Fac_findFault_73 ⟨gRi (by simp [c_fault, h1, h14, h30, h65] <;> simp_all), rfl⟩
          · skip
            refine gx_aload_n K d_Fac_findFault_48 rfl rfl ?_
            refine gx_get K f_Fac_23 (fb_pl hk1) rfl d_Fac_findFault_49 ?_
            refine gx_if_eq K d_Fac_findFault_52 rfl (fun h52 => ?_) (fun h52 => ?_)
            · skip
              refine gx_iconst (v := b2i false) K d_Fac_findFault_59 rfl ?_
              exact j60 _ (by simp [h1, h14, h30, h52])
            · skip
              refine gx_iconst (v := b2i true) K d_Fac_findFault_55 rfl ?_
              refine gx_goto K d_Fac_findFault_56 rfl ?_
              exact j60 _ (by simp [h1, h14, h30, h52])
        · skip
          refine gx_aload_n K d_Fac_findFault_35 rfl rfl ?_
          refine gx_getN K f_Fac_86 (fb_pl hc) rfl d_Fac_findFault_36 ?_
          refine gx_if_eq K d_Fac_findFault_39 rfl (fun h39 => ?_) (fun h39 => ?_)
          · skip
            refine gx_iconst (v := b2i false) K d_Fac_findFault_46 rfl ?_
            exact j47 _ (by simp [h1, h14, h30, h39])
          · skip
            refine gx_iconst (v := b2i true) K d_Fac_findFault_42 rfl ?_
            refine gx_goto K d_Fac_findFault_43 rfl ?_
            exact j47 _ (by simp [h1, h14, h30, h39])
      · skip
        refine gx_iconst (v := 3) K d_Fac_findFault_33 rfl ?_
        exact gx_iret K hr hlk d_Fac_findFault_34 ⟨gRi (by simp [c_fault, h1, h14, h30] <;> simp_all), rfl⟩
    · skip
      refine gx_iconst (v := 2) K d_Fac_findFault_17 rfl ?_
      exact gx_iret K hr hlk d_Fac_findFault_18 ⟨gRi (by simp [c_fault, h1, h14] <;> simp_all), rfl⟩
  · skip
    refine gx_iconst (v := 1) K d_Fac_findFault_4 rfl ?_
    exact gx_iret K hr hlk d_Fac_findFault_5 ⟨gRi (by simp [c_fault, h1] <;> simp_all), rfl⟩

set_option maxRecDepth 100000 in
set_option maxHeartbeats 1000000 in
theorem z_Rep_areTwins {l : Launch} {D : va_G} {ty : Nat → ClassId} {tt : Nat} {a : Nat → Nat} {N : Nat → Nat} {r : Nat → Int32} {en re : Int32} {O : Nat → Nat → Option Nat} {z : Nat} {tx : Nat → Int32} {X : Nat → Nat → Bool} {Y : Nat → Nat → Int32} {fc : Nat} {sl : Bool} {pt : Int32} {tot : Int64} {hv : Bool} {rest : va_W} (hN : mN N) {x y : Int32} {f0 g0 : Nat} (hx : x = nI f0) (hf : f0 < N 5) (hy : y = nI g0) (hg : g0 < N 5) {B : Nat → Nat → Bool} {E : Nat → Nat → Int32} {V : Nat → Int64} (G : cI B N E V O rest re) : Cd l y_Rep_areTwins c_Rep_areTwins 3 (some .boolean) 2 D ty tt [.ref (a 6), .int x, .int y] (fbW a ty N r en re O z tx X Y fc sl pt tot hv rest) (some (.int (b2i (m_twins E f0 g0)))) (fbW a ty N r en re O z tx X Y fc sl pt tot hv rest) := by
  obtain ⟨n0, n1, n2, n3, n4, n5⟩ := id hN
  subst hx
  subst hy
  obtain ⟨pC, pA, pX, pU, pF, I, hA, hF, hre, hV⟩ := id G
  refine Ct_of (by decide) (gle rfl) (fun p e s m args below meth c K hr hlk hin => ?_)
  refine gx_iload_n K d_Rep_areTwins_0 rfl rfl ?_
  refine gx_iload_n K d_Rep_areTwins_1 rfl rfl ?_
  refine gx_icmp_eq K d_Rep_areTwins_2 rfl (fun h2 => ?_) (fun h2 => ?_)
  · skip
    have h2n : f0 = g0 := (nI_eq (a := f0) (b := g0) (by omega) (by omega)).mp h2
    refine gx_iconst (v := b2i false) K d_Rep_areTwins_48 rfl ?_
    exact gx_zret K hr hlk d_Rep_areTwins_49 ⟨gRb (by simp [m_twins, h2, h2n]), rfl⟩
  · skip
    have h2n : ¬ f0 = g0 := fun q => h2 ((nI_eq (a := f0) (b := g0) (by omega) (by omega)).mpr q)
    refine gx_aload_n K d_Rep_areTwins_5 rfl rfl ?_
    refine gx_get K f_Rep_25 (q0 := 6) rfl rfl d_Rep_areTwins_6 ?_
    refine gx_iload_n K d_Rep_areTwins_9 rfl rfl ?_
    refine gx_aald K (t := 8) rfl (q0 := 9) rfl rfl (by omega) (by decide) d_Rep_areTwins_10 ?_
    obtain ⟨q10, k10, x10, i10, u10, hO10, hk10, gk10, uk10⟩ := pF (f0) (by omega)
    rw [hO10]
    refine gx_getN K f_Rep_84 (fb_pl hk10) rfl d_Rep_areTwins_11 ?_
    refine gx_aload_n K d_Rep_areTwins_14 rfl rfl ?_
    refine gx_get K f_Rep_25 (q0 := 6) rfl rfl d_Rep_areTwins_15 ?_
    refine gx_iload_n K d_Rep_areTwins_18 rfl rfl ?_
    refine gx_aald K (t := 8) rfl (q0 := 9) rfl rfl (by omega) (by decide) d_Rep_areTwins_19 ?_
    obtain ⟨q19, k19, x19, i19, u19, hO19, hk19, gk19, uk19⟩ := pF (g0) (by omega)
    rw [hO19]
    refine gx_getN K f_Rep_84 (fb_pl hk19) rfl d_Rep_areTwins_20 ?_
    refine gx_icmp_ne K d_Rep_areTwins_23 rfl (fun h23 => ?_) (fun h23 => ?_)
    · skip
      refine gx_iconst (v := b2i false) K d_Rep_areTwins_48 rfl ?_
      exact gx_zret K hr hlk d_Rep_areTwins_49 ⟨gRb (by simp [m_twins, h2, h2n, h23]), rfl⟩
    · skip
      refine gx_aload_n K d_Rep_areTwins_26 rfl rfl ?_
      refine gx_get K f_Rep_25 (q0 := 6) rfl rfl d_Rep_areTwins_27 ?_
      refine gx_iload_n K d_Rep_areTwins_30 rfl rfl ?_
      refine gx_aald K (t := 8) rfl (q0 := 9) rfl rfl (by omega) (by decide) d_Rep_areTwins_31 ?_
      obtain ⟨q31, k31, x31, i31, u31, hO31, hk31, gk31, uk31⟩ := pF (f0) (by omega)
      rw [hO31]
      refine gx_aload_n K d_Rep_areTwins_32 rfl rfl ?_
      refine gx_get K f_Rep_25 (q0 := 6) rfl rfl d_Rep_areTwins_33 ?_
      refine gx_iload_n K d_Rep_areTwins_36 rfl rfl ?_
      refine gx_aald K (t := 8) rfl (q0 := 9) rfl rfl (by omega) (by decide) d_Rep_areTwins_37 ?_
      obtain ⟨q37, k37, x37, i37, u37, hO37, hk37, gk37, uk37⟩ := pF (g0) (by omega)
      rw [hO37]
      refine gx_VNd K (z_Fac_standsWith hN hk31 gk31 uk31 hk37 gk37 uk37) Y_Fac_standsWith (ci := 11) rfl (fb_pl hk31) k571 ks32 k569 rfl ⟨gle rfl, gle rfl⟩ ⟨gle rfl, gle rfl⟩ (gle rfl) d_Rep_areTwins_38 ?_
      refine gx_if_eqB K d_Rep_areTwins_41 rfl (fun h41 => ?_) (fun h41 => ?_)
      · skip
        refine gx_iconst (v := b2i false) K d_Rep_areTwins_48 rfl ?_
        exact gx_zret K hr hlk d_Rep_areTwins_49 ⟨gRb (by simp [m_twins, h2, h2n, h23, h41]), rfl⟩
      · skip
        refine gx_iconst (v := b2i true) K d_Rep_areTwins_44 rfl ?_
        refine gx_goto K d_Rep_areTwins_45 rfl ?_
        exact gx_zret K hr hlk d_Rep_areTwins_49 ⟨gRb (by simp [m_twins, h2, h2n, h23, h41]), rfl⟩

set_option maxRecDepth 100000 in
set_option maxHeartbeats 1000000 in
theorem z_Rep_lowestTwin {l : Launch} {D : va_G} {ty : Nat → ClassId} {tt : Nat} {a : Nat → Nat} {N : Nat → Nat} {r : Nat → Int32} {en re : Int32} {O : Nat → Nat → Option Nat} {z : Nat} {tx : Nat → Int32} {X : Nat → Nat → Bool} {Y : Nat → Nat → Int32} {fc : Nat} {sl : Bool} {pt : Int32} {tot : Int64} {hv : Bool} {rest : va_W} (hN : mN N) {x : Int32} {f0 : Nat} (hx : x = nI f0) (hf : f0 < N 5) {B : Nat → Nat → Bool} {E : Nat → Nat → Int32} {V : Nat → Int64} (G : cI B N E V O rest re) : Cd l y_Rep_lowestTwin c_Rep_lowestTwin 3 (some .int) 3 D ty tt [.ref (a 6), .int x] (fbW a ty N r en re O z tx X Y fc sl pt tot hv rest) (some (.int (m_twin N E f0))) (fbW a ty N r en re O z tx X Y fc sl pt tot hv rest) := by
  obtain ⟨n0, n1, n2, n3, n4, n5⟩ := id hN
  subst hx
  refine Ct_of (by decide) (gle rfl) (fun p e s m args below meth c K hr hlk hin => ?_)
  refine gx_iconst (v := 0) K d_Rep_lowestTwin_0 rfl ?_
  refine gx_istore_n K d_Rep_lowestTwin_1 rfl (gle rfl) rfl ?_
  refine gx_loopP [true, true, true] (N 5) (fun i => ∀ j, j < i → (fun g => m_twins E f0 g) j = false) (fun i => (fbW a ty N r en re O z tx X Y fc sl pt tot hv rest)) (fun i => [some (.ref (a 6)), some (.int (nI f0)), some (.int (nI i))]) (fun j hj => absurd hj (Nat.not_lt_zero j)) rfl rfl (fun i hi hP ihi => ?_) (fun hP => ?_)
  · skip
    refine gx_iload_n K d_Rep_lowestTwin_2 rfl rfl ?_
    refine gx_aload_n K d_Rep_lowestTwin_3 rfl rfl ?_
    refine gx_get K f_Rep_47 (q0 := 6) rfl rfl d_Rep_lowestTwin_4 ?_
    refine gx_icmp_geF K d_Rep_lowestTwin_7 rfl (nI_ge hi (by omega)) ?_
    refine gx_aload_n K d_Rep_lowestTwin_10 rfl rfl ?_
    refine gx_iload_n K d_Rep_lowestTwin_11 rfl rfl ?_
    refine gx_iload_n K d_Rep_lowestTwin_12 rfl rfl ?_
    refine gx_Vd K (z_Rep_areTwins hN rfl hf rfl (by omega) G) Y_Rep_areTwins (ci := 3) rfl (q0 := 6) rfl k567 ks31 k565 rfl ⟨gle rfl, gle rfl⟩ ⟨gle rfl, gle rfl⟩ (gle rfl) d_Rep_lowestTwin_13 ?_
    refine gx_if_eqB K d_Rep_lowestTwin_16 rfl (fun h16 => ?_) (fun h16 => ?_)
    · skip
      refine gx_iinc (v := nI (i + 1)) K d_Rep_lowestTwin_21 rfl (nI_add _ _) (gle rfl) rfl ?_
      refine gx_goto K d_Rep_lowestTwin_24 rfl ?_
      exact gx_back [true, true, true] rfl rfl (ihi (fun j hj => by
        rcases Nat.lt_succ_iff_lt_or_eq.mp hj with q | q
        · exact hP j q
        · rw [q]; exact h16))
    · skip
      refine gx_iload_n K d_Rep_lowestTwin_19 rfl rfl ?_
      exact gx_iret K hr hlk d_Rep_lowestTwin_20 ⟨gRi (loN_at h16 hP (N 5) hi (by omega)).symm, rfl⟩
  · skip
    refine gx_iload_n K d_Rep_lowestTwin_2 rfl rfl ?_
    refine gx_aload_n K d_Rep_lowestTwin_3 rfl rfl ?_
    refine gx_get K f_Rep_47 (q0 := 6) rfl rfl d_Rep_lowestTwin_4 ?_
    refine gx_icmp_geT K d_Rep_lowestTwin_7 rfl (Int32.le_refl _) ?_
    refine gx_iconst (v := -1) K d_Rep_lowestTwin_27 rfl ?_
    exact gx_iret K hr hlk d_Rep_lowestTwin_28 ⟨gRi (loN_no (N 5) hP).symm, rfl⟩

