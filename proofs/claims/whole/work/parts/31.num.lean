set_option maxRecDepth 100000 in
set_option maxHeartbeats 1000000 in
theorem z_FB_tenTo {l : Launch} {D : va_G} {ty : Nat → ClassId} {tt : Nat} {ws : va_W} (x : Int32) : Cd l y_FB_tenTo c_FB_tenTo 1 (some .long) 1 D ty tt [.int x] ws (some (.long (k_ten x))) ws := by
  refine Ct_of (by decide) (gle rfl) (fun p e s m args below meth c K hr hlk hin => ?_)
  refine gx_iload_n K d_FB_tenTo_0 rfl rfl ?_
  refine gx_iconst (v := 0) K d_FB_tenTo_1 rfl ?_
  refine gx_tens K (Or.inr k438) d_FB_tenTo_2 ?_
  refine gx_tenlen K d_FB_tenTo_5 ?_
  refine gx_iconst (v := 1) K d_FB_tenTo_6 rfl ?_
  refine gx_isub K d_FB_tenTo_7 ?_
  refine gx_Sd K (z_FB_within _ _ _ _) Y_FB_within k226 k282 rfl ⟨gle rfl, gle rfl⟩ ⟨gle rfl, gle rfl⟩ (gle rfl) d_FB_tenTo_8 ?_
  refine gx_if_eqB K d_FB_tenTo_11 rfl (fun h11 => ?_) (fun h11 => ?_)
  · skip
    refine gx_lconst (v := 1) K d_FB_tenTo_22 rfl ?_
    exact gx_lret K hr hlk d_FB_tenTo_23 ⟨gRl (if_neg (fun q => Bool.false_ne_true (h11.symm.trans q))).symm, rfl⟩
  · skip
    have rx : rg x 17 := in_rg h11 (n := 17) rfl (by decide)
    refine gx_tens K (Or.inr k438) d_FB_tenTo_14 ?_
    refine gx_iload_n K d_FB_tenTo_17 rfl rfl ?_
    refine gx_tenld K rx.1 rx.2 d_FB_tenTo_18 ?_
    refine gx_goto K d_FB_tenTo_19 rfl ?_
    exact gx_lret K hr hlk d_FB_tenTo_23 ⟨gRl (if_pos h11).symm, rfl⟩

theorem dg_17 {n : Nat} (h : n < 10 ^ 17) : dg 20 n ≤ 17 := by
  rcases Nat.lt_or_ge 17 (dg 20 n) with h1 | h1
  · have := dg_ge h1
    omega
  · exact h1
set_option maxRecDepth 100000 in
set_option maxHeartbeats 1000000 in
theorem z_FB_countDigits {l : Launch} {D : va_G} {ty : Nat → ClassId} {tt : Nat} {ws : va_W} {x : Int64} {n : Nat} (hx : x = lN n) (hn : n < 10 ^ 17) : Cd l y_FB_countDigits c_FB_countDigits 3 (some .int) 0 D ty tt [.long x] ws (some (.int (nI (dg 20 n)))) ws := by
  subst hx
  have h17n := dg_17 hn
  refine Ct_of (by decide) (gle rfl) (fun p e s m args below meth c K hr hlk hin => ?_)
  refine gx_iconst (v := 0) K d_FB_countDigits_0 rfl ?_
  refine gx_istore_n K d_FB_countDigits_1 rfl (gle rfl) rfl ?_
  refine gx_loop [true, false, true] (dg 20 n) (fun i => ws) (fun i => [some (.long (lN n)), none, some (.int (nI i))]) rfl rfl (fun i hi ihi => ?_) ?_
  · skip
    have hq := dg_ge hi
    refine gx_iload_n K d_FB_countDigits_2 rfl rfl ?_
    refine gx_tens K (Or.inr k438) d_FB_countDigits_3 ?_
    refine gx_tenlen K d_FB_countDigits_6 ?_
    refine gx_icmp_geF K d_FB_countDigits_7 rfl (nI_ge (b := 17) (show i < 17 by omega) (by decide)) ?_
    refine gx_tens K (Or.inr k438) d_FB_countDigits_10 ?_
    refine gx_iload_n K d_FB_countDigits_13 rfl rfl ?_
    refine gx_tenld K rfl (by omega) d_FB_countDigits_14 ?_
    refine gx_lload_n K d_FB_countDigits_15 rfl rfl ?_
    refine gx_lcmp K d_FB_countDigits_16 ?_
    refine gx_ifl_gt K d_FB_countDigits_17 rfl (fun q => absurd q (fun q => absurd ((pk_lLT (a := n) (b := 10 ^ i) (by omega) (by omega)).mp q) (by omega))) (fun _ => ?_)
    refine gx_iinc (v := nI (i + 1)) K d_FB_countDigits_20 rfl (nI_add _ _) (gle rfl) rfl ?_
    refine gx_goto K d_FB_countDigits_23 rfl ?_
    exact gx_back [true, false, true] rfl rfl ihi
  · skip
    rcases Nat.lt_or_ge (dg 20 n) 17 with h17 | h17
    · skip
      have hq := dg_lt (n := n) (by omega)
      have hq2 : 10 ^ dg 20 n ≤ 10 ^ 16 := Nat.pow_le_pow_right (by decide) (by omega)
      refine gx_iload_n K d_FB_countDigits_2 rfl rfl ?_
      refine gx_tens K (Or.inr k438) d_FB_countDigits_3 ?_
      refine gx_tenlen K d_FB_countDigits_6 ?_
      refine gx_icmp_geF K d_FB_countDigits_7 rfl (nI_ge (b := 17) h17 (by decide)) ?_
      refine gx_tens K (Or.inr k438) d_FB_countDigits_10 ?_
      refine gx_iload_n K d_FB_countDigits_13 rfl rfl ?_
      refine gx_tenld K rfl (by omega) d_FB_countDigits_14 ?_
      refine gx_lload_n K d_FB_countDigits_15 rfl rfl ?_
      refine gx_lcmp K d_FB_countDigits_16 ?_
      refine gx_ifl_gt K d_FB_countDigits_17 rfl (fun _ => ?_) (fun q => absurd ((pk_lLT (a := n) (b := 10 ^ dg 20 n) (by omega) (by omega)).mpr hq) q)
      refine gx_iload_n K d_FB_countDigits_26 rfl rfl ?_
      exact gx_iret K hr hlk d_FB_countDigits_27 ⟨rfl, rfl⟩
    · skip
      have e17 : dg 20 n = 17 := by omega
      refine gx_iload_n K d_FB_countDigits_2 rfl rfl ?_
      refine gx_tens K (Or.inr k438) d_FB_countDigits_3 ?_
      refine gx_tenlen K d_FB_countDigits_6 ?_
      refine gx_icmp_geT K d_FB_countDigits_7 rfl (by rw [e17]; exact Int32.le_refl _) ?_
      refine gx_iload_n K d_FB_countDigits_26 rfl rfl ?_
      exact gx_iret K hr hlk d_FB_countDigits_27 ⟨rfl, rfl⟩

theorem gOd {q : Int64} (h : (!decide ((q &&& 1) = 0)) = false) : (q &&& 1) = 0 := by simpa using h
theorem gOd2 {q : Int64} (h : (!decide ((q &&& 1) = 0)) = true) : ¬ (q &&& 1) = 0 := by simpa using h
set_option maxRecDepth 100000 in
set_option maxHeartbeats 1000000 in
theorem z_FB_roundTo {l : Launch} {D : va_G} {ty : Nat → ClassId} {tt : Nat} {ws : va_W} (x u : Int64) : Cd l y_FB_roundTo c_FB_roundTo 9 (some .long) 1 D ty tt [.long x, .long u] ws (some (.long (r_c x u))) ws := by
  refine Ct_of (by decide) (gle rfl) (fun p e s m args below meth c K hr hlk hin => ?_)
  refine gx_lload_n K d_FB_roundTo_0 rfl rfl ?_
  refine gx_lconst (v := 0) K d_FB_roundTo_1 rfl ?_
  refine gx_lcmp K d_FB_roundTo_2 ?_
  refine gx_ifl_gt K d_FB_roundTo_3 rfl (fun h3 => ?_) (fun h3 => ?_)
  · skip
    refine gx_lload_n K d_FB_roundTo_8 rfl rfl ?_
    refine gx_lload_n K d_FB_roundTo_9 rfl rfl ?_
    refine gx_Sd K (z_Math_floorDiv x u (fun q => absurd h3 (by rw [q]; decide))) Y_Math_floorDiv k463 k462 rfl ⟨gle rfl, gle rfl⟩ ⟨gle rfl, gle rfl⟩ (gle rfl) d_FB_roundTo_10 ?_
    refine gx_lstore K d_FB_roundTo_13 (gle rfl) rfl ?_
    refine gx_ldc2 K d_FB_roundTo_15 k465 ?_
    refine gx_lload_n K d_FB_roundTo_18 rfl rfl ?_
    refine gx_lload K d_FB_roundTo_19 rfl ?_
    refine gx_lload_n K d_FB_roundTo_21 rfl rfl ?_
    refine gx_lmul K d_FB_roundTo_22 ?_
    refine gx_lsub K d_FB_roundTo_23 ?_
    refine gx_lmul K d_FB_roundTo_24 ?_
    refine gx_lstore K d_FB_roundTo_25 (gle rfl) rfl ?_
    refine gx_cut (X := !decide ((r_fd x u &&& 1) = 0)) 41 ?_ (fun j41 => ?_)
    · skip
      refine gx_istore K d_FB_roundTo_41 (gle rfl) rfl ?_
      refine gx_lload K d_FB_roundTo_43 rfl ?_
      refine gx_lload_n K d_FB_roundTo_45 rfl rfl ?_
      refine gx_lcmp K d_FB_roundTo_46 ?_
      refine gx_ifl_gt K d_FB_roundTo_47 rfl (fun h47 => ?_) (fun h47 => ?_)
      · skip
        refine gx_lload K d_FB_roundTo_62 rfl ?_
        refine gx_lconst (v := 1) K d_FB_roundTo_64 rfl ?_
        refine gx_ladd K d_FB_roundTo_65 ?_
        refine gx_lstore K d_FB_roundTo_66 (gle rfl) rfl ?_
        refine gx_lload K d_FB_roundTo_68 rfl ?_
        refine gx_lload_n K d_FB_roundTo_70 rfl rfl ?_
        refine gx_lmul K d_FB_roundTo_71 ?_
        exact gx_lret K hr hlk d_FB_roundTo_72 ⟨gRl (by unfold r_c; rw [if_neg (Int64.not_le.mpr h3), if_pos (Or.inl h47)]), rfl⟩
      · skip
        refine gx_lload K d_FB_roundTo_50 rfl ?_
        refine gx_lload_n K d_FB_roundTo_52 rfl rfl ?_
        refine gx_lcmp K d_FB_roundTo_53 ?_
        refine gx_ifl_ne K d_FB_roundTo_54 rfl (fun h54 => ?_) (fun h54 => ?_)
        · skip
          refine gx_lload K d_FB_roundTo_68 rfl ?_
          refine gx_lload_n K d_FB_roundTo_70 rfl rfl ?_
          refine gx_lmul K d_FB_roundTo_71 ?_
          exact gx_lret K hr hlk d_FB_roundTo_72 ⟨gRl (by unfold r_c; rw [if_neg (Int64.not_le.mpr h3), if_neg (fun q => q.elim (fun r => h47 r) (fun r => h54 r.1))]), rfl⟩
        · skip
          refine gx_iload K d_FB_roundTo_57 rfl ?_
          refine gx_if_eqB K d_FB_roundTo_59 rfl (fun h59 => ?_) (fun h59 => ?_)
          · skip
            refine gx_lload K d_FB_roundTo_68 rfl ?_
            refine gx_lload_n K d_FB_roundTo_70 rfl rfl ?_
            refine gx_lmul K d_FB_roundTo_71 ?_
            exact gx_lret K hr hlk d_FB_roundTo_72 ⟨gRl (by unfold r_c; rw [if_neg (Int64.not_le.mpr h3), if_neg (fun q => q.elim (fun r => h47 r) (fun r => r.2 (gOd h59)))]), rfl⟩
          · skip
            refine gx_lload K d_FB_roundTo_62 rfl ?_
            refine gx_lconst (v := 1) K d_FB_roundTo_64 rfl ?_
            refine gx_ladd K d_FB_roundTo_65 ?_
            refine gx_lstore K d_FB_roundTo_66 (gle rfl) rfl ?_
            refine gx_lload K d_FB_roundTo_68 rfl ?_
            refine gx_lload_n K d_FB_roundTo_70 rfl rfl ?_
            refine gx_lmul K d_FB_roundTo_71 ?_
            exact gx_lret K hr hlk d_FB_roundTo_72 ⟨gRl (by unfold r_c; rw [if_neg (Int64.not_le.mpr h3), if_pos (Or.inr ⟨h54, gOd2 h59⟩)]), rfl⟩
    · skip
      refine gx_lload K d_FB_roundTo_27 rfl ?_
      refine gx_lconst (v := 1) K d_FB_roundTo_29 rfl ?_
      refine gx_land K d_FB_roundTo_30 ?_
      refine gx_lconst (v := 0) K d_FB_roundTo_31 rfl ?_
      refine gx_lcmp K d_FB_roundTo_32 ?_
      refine gx_ifl_eq K d_FB_roundTo_33 rfl (fun h33 => ?_) (fun h33 => ?_)
      · skip
        refine gx_iconst (v := b2i false) K d_FB_roundTo_40 rfl ?_
        exact j41 _ (by simp [h3, Int64.not_le.mpr h3, h33])
      · skip
        refine gx_iconst (v := b2i true) K d_FB_roundTo_36 rfl ?_
        refine gx_goto K d_FB_roundTo_37 rfl ?_
        exact j41 _ (by simp [h3, Int64.not_le.mpr h3, h33])
  · skip
    refine gx_lload_n K d_FB_roundTo_6 rfl rfl ?_
    exact gx_lret K hr hlk d_FB_roundTo_7 ⟨gRl (by unfold r_c; rw [if_pos (Int64.not_lt.mp h3)]), rfl⟩

theorem clampE (d : Int32) : (if -9 < (if d < 6 then d else 6) then (if d < 6 then d else 6) else -9) = m_clamp d := by
  have e6 : (6 : Int32).toInt = 6 := rfl
  have e9 : (-9 : Int32).toInt = -9 := rfl
  unfold m_clamp
  by_cases h1 : d < 6
  · have g1 := Int32.lt_iff_toInt_lt.mp h1
    have h2 : ¬ 6 < d := fun q => by have := Int32.lt_iff_toInt_lt.mp q; omega
    rw [if_pos h1, if_neg h2]
    by_cases h3 : -9 < d
    · have g3 := Int32.lt_iff_toInt_lt.mp h3
      rw [if_pos h3, if_neg (fun q => by have := Int32.lt_iff_toInt_lt.mp q; omega)]
    · rw [if_neg h3]
      by_cases h4 : d < -9
      · rw [if_pos h4]
      · rw [if_neg h4]
        have g3 := Int32.le_iff_toInt_le.mp (Int32.not_lt.mp h3)
        have g4 := Int32.le_iff_toInt_le.mp (Int32.not_lt.mp h4)
        exact Int32.toInt_inj.mp (by omega)
  · have g1 := Int32.le_iff_toInt_le.mp (Int32.not_lt.mp h1)
    rw [if_neg h1, if_pos (by decide : (-9 : Int32) < 6)]
    by_cases h2 : 6 < d
    · rw [if_pos h2]
    · have g2 := Int32.le_iff_toInt_le.mp (Int32.not_lt.mp h2)
      rw [if_neg h2, if_neg (fun q => by have := Int32.lt_iff_toInt_lt.mp q; omega)]
      exact Int32.toInt_inj.mp (by omega)
theorem fp_eq {m k : Int32} {v : Int64} (h2 : ¬ m = 1) (h9 : m = 2) (h15 : ¬ v = 0) : (if -9 < (if k + (if 1000000 ≤ m_abs v then -nI (dg 20 (m_abs v / 1000000)) else nI (6 - dg 20 (m_abs v))) < 6 then k + (if 1000000 ≤ m_abs v then -nI (dg 20 (m_abs v / 1000000)) else nI (6 - dg 20 (m_abs v))) else 6) then (if k + (if 1000000 ≤ m_abs v then -nI (dg 20 (m_abs v / 1000000)) else nI (6 - dg 20 (m_abs v))) < 6 then k + (if 1000000 ≤ m_abs v then -nI (dg 20 (m_abs v / 1000000)) else nI (6 - dg 20 (m_abs v))) else 6) else -9) = m_places m k v := by
  have em : m_places m k v = m_clamp (if 1000000 ≤ m_abs v then k - nI (dg 20 (m_abs v / 1000000)) else k + nI (6 - dg 20 (m_abs v))) := by
    unfold m_places
    rw [if_neg h2, if_neg (by simp [h9, h15])]
  have e : (k + (if 1000000 ≤ m_abs v then -nI (dg 20 (m_abs v / 1000000)) else nI (6 - dg 20 (m_abs v)))) = (if 1000000 ≤ m_abs v then k - nI (dg 20 (m_abs v / 1000000)) else k + nI (6 - dg 20 (m_abs v))) := by
    split
    · rw [Int32.sub_eq_add_neg]
    · rfl
  rw [em, e]
  generalize (if 1000000 ≤ m_abs v then k - nI (dg 20 (m_abs v / 1000000)) else k + nI (6 - dg 20 (m_abs v))) = d
  exact clampE d
theorem fp_a {n : Nat} (h : ¬ lN (n / 1000000) = 0) (hn : n < 10 ^ 15) : -nI (dg 20 (n / 1000000)) = if 1000000 ≤ n then -nI (dg 20 (n / 1000000)) else nI (6 - dg 20 n) := by
  rw [if_pos]
  rcases Nat.lt_or_ge n 1000000 with h1 | h1
  · exact absurd (by rw [Nat.div_eq_of_lt h1]; rfl) h
  · exact h1
theorem fp_b {n : Nat} (h : lN (n / 1000000) = 0) (hn : n < 10 ^ 15) (h0 : 0 < n) : 6 - nI (dg 20 n) = if 1000000 ≤ n then -nI (dg 20 (n / 1000000)) else nI (6 - dg 20 n) := by
  have h1 : n < 1000000 := by
    have h2 := (pk_lEQ (a := n / 1000000) (b := 0) (by omega) (by decide)).mp h
    omega
  have h3 := dg_6 h0 h1
  rw [if_neg (by omega), show (6 : Int32) = nI 6 from rfl, pk_sub h3.2]
set_option maxRecDepth 100000 in
set_option maxHeartbeats 1000000 in
theorem z_Fac_findPlaces {l : Launch} {D : va_G} {ty : Nat → ClassId} {tt : Nat} {ws : va_W} (m k : Int32) (v : Int64) (hv : -(10 ^ 15 : Int) < v.toInt ∧ v.toInt < 10 ^ 15) : Cd l y_Fac_findPlaces c_Fac_findPlaces 9 (some .int) 1 D ty tt [.int m, .int k, .long v] ws (some (.int (m_places m k v))) ws := by
  refine Ct_of (by decide) (gle rfl) (fun p e s m args below meth c K hr hlk hin => ?_)
  refine gx_iload_n K d_Fac_findPlaces_0 rfl rfl ?_
  refine gx_iconst (v := 1) K d_Fac_findPlaces_1 rfl ?_
  refine gx_icmp_ne K d_Fac_findPlaces_2 rfl (fun h2 => ?_) (fun h2 => ?_)
  · skip
    refine gx_iload_n K d_Fac_findPlaces_7 rfl rfl ?_
    refine gx_iconst (v := 2) K d_Fac_findPlaces_8 rfl ?_
    refine gx_icmp_ne K d_Fac_findPlaces_9 rfl (fun h9 => ?_) (fun h9 => ?_)
    · skip
      refine gx_bipush (v := 6) K d_Fac_findPlaces_18 rfl ?_
      exact gx_iret K hr hlk d_Fac_findPlaces_20 ⟨gRi (by simp [m_places, h2, h9]), rfl⟩
    · skip
      refine gx_lload_n K d_Fac_findPlaces_12 rfl rfl ?_
      refine gx_lconst (v := 0) K d_Fac_findPlaces_13 rfl ?_
      refine gx_lcmp K d_Fac_findPlaces_14 ?_
      refine gx_ifl_ne K d_Fac_findPlaces_15 rfl (fun h15 => ?_) (fun h15 => ?_)
      · skip
        have hab := abs_lt hv
        refine gx_cutL (X := lN (m_abs v)) 33 ?_ (fun j33 => ?_)
        · skip
          refine gx_lstore K d_Fac_findPlaces_33 (gle rfl) rfl ?_
          refine gx_lload K d_Fac_findPlaces_35 rfl ?_
          refine gx_ldc2 K d_Fac_findPlaces_37 k448 ?_
          refine gx_ldiv K d_Fac_findPlaces_40 (by decide) ?_
          refine gx_st (s1 := [.long (lN (m_abs v / 1000000))]) (by rw [show lN (m_abs v) / 1000000 = lN (m_abs v / 1000000) from pk_lDiv (a := m_abs v) (b := 1000000) (by omega) (by decide) (by decide)]) ?_
          refine gx_lstore K d_Fac_findPlaces_41 (gle rfl) rfl ?_
          refine gx_cutI (X := if 1000000 ≤ m_abs v then -nI (dg 20 (m_abs v / 1000000)) else nI (6 - dg 20 (m_abs v))) 67 ?_ (fun j67 => ?_)
          · skip
            refine gx_istore K d_Fac_findPlaces_67 (gle rfl) rfl ?_
            refine gx_bipush (v := -9) K d_Fac_findPlaces_69 rfl ?_
            refine gx_bipush (v := 6) K d_Fac_findPlaces_71 rfl ?_
            refine gx_iload_n K d_Fac_findPlaces_73 rfl rfl ?_
            refine gx_iload K d_Fac_findPlaces_74 rfl ?_
            refine gx_iadd K d_Fac_findPlaces_76 ?_
            refine gx_Sd K (z_Math_min _ _) Y_Math_min k453 k452 rfl ⟨gle rfl, gle rfl⟩ ⟨gle rfl, gle rfl⟩ (gle rfl) d_Fac_findPlaces_77 ?_
            refine gx_Sd K (z_Math_max _ _) Y_Math_max k456 k455 rfl ⟨gle rfl, gle rfl⟩ ⟨gle rfl, gle rfl⟩ (gle rfl) d_Fac_findPlaces_80 ?_
            exact gx_iret K hr hlk d_Fac_findPlaces_83 ⟨gRi (fp_eq h2 h9 h15), rfl⟩
          · skip
            refine gx_lload K d_Fac_findPlaces_43 rfl ?_
            refine gx_lconst (v := 0) K d_Fac_findPlaces_45 rfl ?_
            refine gx_lcmp K d_Fac_findPlaces_46 ?_
            refine gx_ifl_eq K d_Fac_findPlaces_47 rfl (fun h47 => ?_) (fun h47 => ?_)
            · skip
              refine gx_bipush (v := 6) K d_Fac_findPlaces_59 rfl ?_
              refine gx_lload K d_Fac_findPlaces_61 rfl ?_
              refine gx_SNd K (z_FB_countDigits rfl (by omega)) Y_FB_countDigits k450 k449 rfl ⟨gle rfl, gle rfl⟩ ⟨gle rfl, gle rfl⟩ (gle rfl) d_Fac_findPlaces_63 ?_
              refine gx_isub K d_Fac_findPlaces_66 ?_
              exact j67 _ (by first | exact fp_a h47 (by omega) | exact fp_b h47 (by omega) (abs_pos h15))
            · skip
              refine gx_lload K d_Fac_findPlaces_50 rfl ?_
              refine gx_SNd K (z_FB_countDigits rfl (by omega)) Y_FB_countDigits k450 k449 rfl ⟨gle rfl, gle rfl⟩ ⟨gle rfl, gle rfl⟩ (gle rfl) d_Fac_findPlaces_52 ?_
              refine gx_ineg K d_Fac_findPlaces_55 ?_
              refine gx_goto K d_Fac_findPlaces_56 rfl ?_
              exact j67 _ (by first | exact fp_a h47 (by omega) | exact fp_b h47 (by omega) (abs_pos h15))
        · skip
          refine gx_lload_n K d_Fac_findPlaces_21 rfl rfl ?_
          refine gx_lconst (v := 0) K d_Fac_findPlaces_22 rfl ?_
          refine gx_lcmp K d_Fac_findPlaces_23 ?_
          refine gx_ifl_ge K d_Fac_findPlaces_24 rfl (fun h24 => ?_) (fun h24 => ?_)
          · skip
            refine gx_lload_n K d_Fac_findPlaces_32 rfl rfl ?_
            exact j33 _ (by first | exact absL_pos h24 | exact absL_neg (Int64.not_le.mp h24) hv.1)
          · skip
            refine gx_lload_n K d_Fac_findPlaces_27 rfl rfl ?_
            refine gx_lneg K d_Fac_findPlaces_28 ?_
            refine gx_goto K d_Fac_findPlaces_29 rfl ?_
            exact j33 _ (by first | exact absL_pos h24 | exact absL_neg (Int64.not_le.mp h24) hv.1)
      · skip
        refine gx_bipush (v := 6) K d_Fac_findPlaces_18 rfl ?_
        exact gx_iret K hr hlk d_Fac_findPlaces_20 ⟨gRi (by simp [m_places, h2, h9, h15]), rfl⟩
  · skip
    refine gx_iload_n K d_Fac_findPlaces_5 rfl rfl ?_
    exact gx_iret K hr hlk d_Fac_findPlaces_6 ⟨gRi (by simp [m_places, h2]), rfl⟩

