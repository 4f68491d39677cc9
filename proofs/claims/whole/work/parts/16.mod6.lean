theorem dg_pos : ∀ q i n, i < dg q n → 0 < n / 10 ^ i
  | 0, i, n, h => absurd h (Nat.not_lt_zero i)
  | q + 1, i, n, h => by
    unfold dg at h
    split at h
    · exact absurd h (Nat.not_lt_zero i)
    · rename_i h0
      cases i with
      | zero => simp; omega
      | succ i =>
        have h1 := dg_pos q i (n / 10) (by omega)
        rw [Nat.pow_succ, Nat.mul_comm, ← Nat.div_div_eq_div_mul]
        exact h1
theorem dg_end : ∀ q n, n < 10 ^ q → n / 10 ^ dg q n = 0
  | 0, n, h => by
    have : n = 0 := by simpa using h
    subst this
    rfl
  | q + 1, n, h => by
    unfold dg
    split
    · rename_i h0
      subst h0
      rfl
    · rw [Nat.pow_succ, Nat.mul_comm, ← Nat.div_div_eq_div_mul]
      exact dg_end q (n / 10) (Nat.div_lt_of_lt_mul (by rw [Nat.pow_succ] at h; omega))
theorem dg_lt {n : Nat} (h : n < 10 ^ 20) : n < 10 ^ dg 20 n := by
  have h1 := dg_end 20 n h
  rcases Nat.lt_or_ge n (10 ^ dg 20 n) with h2 | h2
  · exact h2
  · exact absurd (Nat.div_pos h2 (Nat.pow_pos (by decide))) (by omega)
theorem dg_ge {n i : Nat} (h : i < dg 20 n) : 10 ^ i ≤ n := by
  have h1 := dg_pos 20 i n h
  rcases Nat.lt_or_ge n (10 ^ i) with h2 | h2
  · rw [Nat.div_eq_of_lt h2] at h1; omega
  · exact h2
theorem dg_6 {n : Nat} (h0 : 0 < n) (h : n < 1000000) : 1 ≤ dg 20 n ∧ dg 20 n ≤ 6 := by
  constructor
  · rcases Nat.lt_or_ge 0 (dg 20 n) with h1 | h1
    · exact h1
    · have h2 := dg_lt (n := n) (by omega)
      rw [show dg 20 n = 0 by omega] at h2
      omega
  · rcases Nat.lt_or_ge 6 (dg 20 n) with h1 | h1
    · have := dg_ge h1
      omega
    · exact h1
theorem dg_lo {n i : Nat} (h0 : 0 < n) (h : n < 1000000) (hi : i < 6 - dg 20 n) : n * 10 ^ i < 100000 := by
  obtain ⟨h1, h2⟩ := dg_6 h0 h
  have h3 := dg_lt (n := n) (by omega)
  have h4 : 10 ^ dg 20 n * 10 ^ i ≤ 10 ^ 5 := by
    rw [← Nat.pow_add]
    exact Nat.pow_le_pow_right (by decide) (by omega)
  calc n * 10 ^ i < 10 ^ dg 20 n * 10 ^ i := Nat.mul_lt_mul_of_pos_right h3 (Nat.pow_pos (by decide))
    _ ≤ 100000 := h4
theorem dg_hi {n : Nat} (h0 : 0 < n) (h : n < 1000000) : 100000 ≤ n * 10 ^ (6 - dg 20 n) := by
  obtain ⟨h1, h2⟩ := dg_6 h0 h
  have h3 := dg_ge (n := n) (i := dg 20 n - 1) (by omega)
  have h4 : 10 ^ (dg 20 n - 1) * 10 ^ (6 - dg 20 n) = 100000 := by
    rw [← Nat.pow_add, show dg 20 n - 1 + (6 - dg 20 n) = 5 by omega]
  calc 100000 = 10 ^ (dg 20 n - 1) * 10 ^ (6 - dg 20 n) := h4.symm
    _ ≤ n * 10 ^ (6 - dg 20 n) := Nat.mul_le_mul_right _ h3
/-- amounts and accuracies -/
def mV (E : Nat → Nat → Int32) (V : Nat → Int64) : Prop := (∀ f, E 22 f = 1 → -9 ≤ E 23 f ∧ E 23 f ≤ 6) ∧ ∀ f, -(10 ^ 15 : Int) < (V f).toInt ∧ (V f).toInt < 10 ^ 15
theorem absL_pos {v : Int64} (h : 0 ≤ v) : v = lN (m_abs v) := by
  have h1 := Int64.le_iff_toInt_le.mp h
  have e0 : (0 : Int64).toInt = 0 := rfl
  have h2 := Int64.toInt_lt v
  apply Int64.toInt_inj.mp
  unfold m_abs
  rw [pk_lT (by omega)]
  omega
theorem absL_neg {v : Int64} (h : v < 0) (hb : -(10 ^ 15 : Int) < v.toInt) : -v = lN (m_abs v) := by
  have h1 := Int64.lt_iff_toInt_lt.mp h
  have e0 : (0 : Int64).toInt = 0 := rfl
  apply Int64.toInt_inj.mp
  unfold m_abs
  rw [pk_lT (by omega), Int64.toInt_neg, r_bm (by omega) (by omega)]
  omega
theorem abs_lt {v : Int64} (hb : -(10 ^ 15 : Int) < v.toInt ∧ v.toInt < 10 ^ 15) : m_abs v < 10 ^ 15 := by
  unfold m_abs
  omega
theorem abs_pos {v : Int64} (h : ¬ v = 0) : 0 < m_abs v := by
  unfold m_abs
  rcases Nat.eq_zero_or_pos v.toInt.natAbs with h1 | h1
  · exact absurd (Int64.toInt_inj.mp (by rw [show (0 : Int64).toInt = 0 from rfl]; omega)) h
  · exact h1
theorem gSub1 (k : Int32) (i : Nat) : k - nI i - 1 = k - nI (i + 1) := by
  rw [nI_succ, Int32.sub_eq_add_neg, Int32.sub_eq_add_neg, Int32.sub_eq_add_neg, Int32.neg_add, Int32.add_assoc, Int32.sub_eq_add_neg]
theorem gAdd1 (k : Int32) (i : Nat) : k + nI i + 1 = k + nI (i + 1) := by
  rw [nI_succ, Int32.add_assoc]
theorem gDiv10 {n i : Nat} (h : n < 2 ^ 62) : lN (n / 10 ^ i) / 10 = lN (n / 10 ^ (i + 1)) := by
  have h1 : n / 10 ^ i ≤ n := Nat.div_le_self _ _
  rw [show (10 : Int64) = lN 10 from rfl, pk_lDiv (by omega) (by decide) (by decide), Nat.div_div_eq_div_mul, Nat.pow_succ]
theorem gMul10 (n i : Nat) : lN (n * 10 ^ i) * 10 = lN (n * 10 ^ (i + 1)) := by
  rw [show (10 : Int64) = lN 10 from rfl, lN_mul, Nat.mul_assoc, ← Nat.pow_succ]
theorem cl_in9 (d : Int32) : -9 ≤ m_clamp d ∧ m_clamp d ≤ 6 := by
  unfold m_clamp
  split
  · exact ⟨by decide, by decide⟩
  · rename_i h1
    split
    · exact ⟨by decide, by decide⟩
    · rename_i h2
      exact ⟨Int32.not_lt.mp h2, Int32.not_lt.mp h1⟩
theorem pl_in {md k : Int32} {v : Int64} (h : md = 1 → -9 ≤ k ∧ k ≤ 6) : -9 ≤ m_places md k v ∧ m_places md k v ≤ 6 := by
  unfold m_places
  split
  · rename_i h1; exact h h1
  · split
    · exact ⟨by decide, by decide⟩
    · exact cl_in9 _
theorem pl_rg {d : Int32} (h : -9 ≤ d ∧ d ≤ 6) (c : Nat) (hc : c = 6 ∨ c = 7) : rg (nI c - d) 17 := by
  have h1 := Int32.le_iff_toInt_le.mp h.1
  have h2 := Int32.le_iff_toInt_le.mp h.2
  have e1 : (-9 : Int32).toInt = -9 := rfl
  have e2 : (6 : Int32).toInt = 6 := rfl
  have e3 : (nI c - d).toInt = c - d.toInt := by
    rw [Int32.toInt_sub, nI_toInt (by omega)]
    exact Int.bmod_eq_of_le (by omega) (by omega)
  apply rg_of
  · rw [Int32.le_iff_toInt_le, e3, show (0 : Int32).toInt = 0 from rfl]; omega
  · rw [Int32.lt_iff_toInt_lt, e3, nI_toInt (by decide)]; omega
  · decide
set_option maxRecDepth 100000 in
set_option maxHeartbeats 4000000 in
theorem z_Mod_placesOf {l : Launch} {D : va_G} {ty : Nat → ClassId} {tt : Nat} {b : Nat → Nat} {B : Nat → Nat → Bool} {N : Nat → Nat} {E : Nat → Nat → Int32} {J : Nat → Int32} {ph : Bool} {V : Nat → Int64} {rd : Int64} {rest : va_W} (I : mI E) (hN : mN N) {x : Int32} {a : Nat} (hx : x = nI a) (ha : a < 20) (hV : mV E V) : Cd l y_Mod_placesOf c_Mod_placesOf 7 (some .int) 0 D ty tt [.ref (b 0), .int x] (mdW b ty B N E J ph V rd rest) (some (.int (m_places (E 22 a) (E 23 a) (V a)))) (mdW b ty B N E J ph V rd rest) := by
  obtain ⟨n0, n1, n2, n3, n4, n5⟩ := id hN
  subst hx
  refine Ct_of (by decide) (gle rfl) (fun p e s m args below meth c K hr hlk hin => ?_)
  refine gx_aload_n K d_Mod_placesOf_0 rfl rfl ?_
  refine gx_get K f_Mod_89 (q0 := 0) rfl rfl d_Mod_placesOf_1 ?_
  refine gx_iload_n K d_Mod_placesOf_4 rfl rfl ?_
  refine gx_iald K (q0 := 27) rfl rfl (by omega) (by decide) d_Mod_placesOf_5 ?_
  refine gx_iconst (v := 1) K d_Mod_placesOf_6 rfl ?_
  refine gx_icmp_ne K d_Mod_placesOf_7 rfl (fun h7 => ?_) (fun h7 => ?_)
  · skip
    refine gx_aload_n K d_Mod_placesOf_17 rfl rfl ?_
    refine gx_get K f_Mod_89 (q0 := 0) rfl rfl d_Mod_placesOf_18 ?_
    refine gx_iload_n K d_Mod_placesOf_21 rfl rfl ?_
    refine gx_iald K (q0 := 27) rfl rfl (by omega) (by decide) d_Mod_placesOf_22 ?_
    refine gx_iconst (v := 2) K d_Mod_placesOf_23 rfl ?_
    refine gx_icmp_ne K d_Mod_placesOf_24 rfl (fun h24 => ?_) (fun h24 => ?_)
    · skip
      refine gx_bipush (v := 6) K d_Mod_placesOf_38 rfl ?_
      exact gx_iret K hr hlk d_Mod_placesOf_40 ⟨gRi (by simp [m_places, h7, h24]), rfl⟩
    · skip
      refine gx_aload_n K d_Mod_placesOf_27 rfl rfl ?_
      refine gx_get K f_Mod_95 (q0 := 0) rfl rfl d_Mod_placesOf_28 ?_
      refine gx_iload_n K d_Mod_placesOf_31 rfl rfl ?_
      refine gx_lald K (q0 := 29) rfl rfl (by omega) (by decide) d_Mod_placesOf_32 ?_
      refine gx_lconst (v := 0) K d_Mod_placesOf_33 rfl ?_
      refine gx_lcmp K d_Mod_placesOf_34 ?_
      refine gx_ifl_ne K d_Mod_placesOf_35 rfl (fun h35 => ?_) (fun h35 => ?_)
      · skip
        have habs := abs_lt (hV.2 a)
        have hpos := abs_pos h35
        refine gx_cutL (X := lN (m_abs (V a))) 68 ?_ (fun j68 => ?_)
        · skip
          refine gx_lstore_n K d_Mod_placesOf_68 rfl (gle rfl) rfl ?_
          refine gx_aload_n K d_Mod_placesOf_69 rfl rfl ?_
          refine gx_get K f_Mod_92 (q0 := 0) rfl rfl d_Mod_placesOf_70 ?_
          refine gx_iload_n K d_Mod_placesOf_73 rfl rfl ?_
          refine gx_iald K (q0 := 28) rfl rfl (by omega) (by decide) d_Mod_placesOf_74 ?_
          refine gx_istore K d_Mod_placesOf_75 (gle rfl) rfl ?_
          refine gx_lload_n K d_Mod_placesOf_77 rfl rfl ?_
          refine gx_ldc2 K d_Mod_placesOf_78 k932 ?_
          refine gx_lcmp K d_Mod_placesOf_81 ?_
          refine gx_ifl_lt K d_Mod_placesOf_82 rfl (fun h82 => ?_) (fun h82 => ?_)
          · skip
            have hlt : m_abs (V a) < 1000000 := (pk_lLT (a := m_abs (V a)) (b := 1000000) (by omega) (by decide)).mp h82
            have hb : ¬ 1000000 ≤ m_abs (V a) := by omega
            refine gx_lload_n K d_Mod_placesOf_119 rfl rfl ?_
            refine gx_lstore K d_Mod_placesOf_120 (gle rfl) rfl ?_
            refine gx_loop [true, true, true, false, true, true, false] (6 - dg 20 (m_abs (V a))) (fun i => (mdW b ty B N E J ph V rd rest)) (fun i => [some (.ref (b 0)), some (.int (nI a)), some (.long (lN (m_abs (V a)))), none, some (.int (E 23 a + nI i)), some (.long (lN (m_abs (V a) * 10 ^ i))), none]) rfl (by rw [Nat.pow_zero, Nat.mul_one, nI_0, Int32.add_zero]; rfl) (fun i hi ihi => ?_) ?_
            · skip
              have hq := dg_lo hpos hlt hi
              refine gx_lload K d_Mod_placesOf_122 rfl ?_
              refine gx_ldc2 K d_Mod_placesOf_124 k933 ?_
              refine gx_lcmp K d_Mod_placesOf_127 ?_
              refine gx_ifl_ge K d_Mod_placesOf_128 rfl (fun q => absurd q (fun q => absurd ((pk_lLE (a := 100000) (by decide) (by omega)).mp q) (by omega))) (fun _ => ?_)
              refine gx_iload K d_Mod_placesOf_131 rfl ?_
              refine gx_iconst (v := 1) K d_Mod_placesOf_133 rfl ?_
              refine gx_iadd K d_Mod_placesOf_134 ?_
              refine gx_istore K d_Mod_placesOf_135 (gle rfl) rfl ?_
              refine gx_lload K d_Mod_placesOf_137 rfl ?_
              refine gx_ldc2 K d_Mod_placesOf_139 k914 ?_
              refine gx_lmul K d_Mod_placesOf_142 ?_
              refine gx_lstore K d_Mod_placesOf_143 (gle rfl) rfl ?_
              refine gx_goto K d_Mod_placesOf_145 rfl ?_
              exact gx_back [true, true, true, false, true, true, false] (by rw [gAdd1, gMul10]; rfl) rfl ihi
            · skip
              have hq := dg_hi hpos hlt
              have hq2 : m_abs (V a) * 10 ^ (6 - dg 20 (m_abs (V a))) ≤ 1000000 * 10 ^ 6 := Nat.mul_le_mul (by omega) (Nat.pow_le_pow_right (by decide) (by omega))
              refine gx_lload K d_Mod_placesOf_122 rfl ?_
              refine gx_ldc2 K d_Mod_placesOf_124 k933 ?_
              refine gx_lcmp K d_Mod_placesOf_127 ?_
              refine gx_ifl_ge K d_Mod_placesOf_128 rfl (fun _ => ?_) (fun q => absurd ((pk_lLE (a := 100000) (by decide) (by omega)).mpr hq) q)
              refine gx_iload K d_Mod_placesOf_148 rfl ?_
              refine gx_bipush (v := 6) K d_Mod_placesOf_150 rfl ?_
              refine gx_icmp_le K d_Mod_placesOf_152 rfl (fun h152 => ?_) (fun h152 => ?_)
              · skip
                refine gx_iload K d_Mod_placesOf_160 rfl ?_
                refine gx_bipush (v := -9) K d_Mod_placesOf_162 rfl ?_
                refine gx_icmp_ge K d_Mod_placesOf_164 rfl (fun h164 => ?_) (fun h164 => ?_)
                · skip
                  refine gx_iload K d_Mod_placesOf_172 rfl ?_
                  exact gx_iret K hr hlk d_Mod_placesOf_174 ⟨gRi (by simp [m_places, m_clamp, hb, h7, h24, h35, h82, Int64.not_le.mpr h82, h152, Int32.not_lt.mpr h152, h164, Int32.not_lt.mpr h164]), rfl⟩
                · skip
                  refine gx_bipush (v := -9) K d_Mod_placesOf_167 rfl ?_
                  refine gx_goto K d_Mod_placesOf_169 rfl ?_
                  exact gx_iret K hr hlk d_Mod_placesOf_174 ⟨gRi (by simp [m_places, m_clamp, hb, h7, h24, h35, h82, Int64.not_le.mpr h82, h152, Int32.not_lt.mpr h152, h164, Int32.not_le.mp h164]), rfl⟩
              · skip
                refine gx_bipush (v := 6) K d_Mod_placesOf_155 rfl ?_
                refine gx_goto K d_Mod_placesOf_157 rfl ?_
                exact gx_iret K hr hlk d_Mod_placesOf_174 ⟨gRi (by simp [m_places, m_clamp, hb, h7, h24, h35, h82, Int64.not_le.mpr h82, h152, Int32.not_le.mp h152]), rfl⟩
          · skip
            have hb : 1000000 ≤ m_abs (V a) := Nat.le_of_not_lt (fun q => h82 ((pk_lLT (a := m_abs (V a)) (b := 1000000) (by omega) (by decide)).mpr q))
            refine gx_lload_n K d_Mod_placesOf_85 rfl rfl ?_
            refine gx_ldc2 K d_Mod_placesOf_86 k932 ?_
            refine gx_ldiv K d_Mod_placesOf_89 (by decide) ?_
            refine gx_lstore K d_Mod_placesOf_90 (gle rfl) rfl ?_
            refine gx_loop [true, true, true, false, true, true, false] (dg 20 (m_abs (V a) / 1000000)) (fun i => (mdW b ty B N E J ph V rd rest)) (fun i => [some (.ref (b 0)), some (.int (nI a)), some (.long (lN (m_abs (V a)))), none, some (.int (E 23 a - nI i)), some (.long (lN (m_abs (V a) / 1000000 / 10 ^ i))), none]) rfl (by rw [Nat.pow_zero, Nat.div_one, nI_0, Int32.sub_zero, show lN (m_abs (V a)) / 1000000 = lN (m_abs (V a) / 1000000) from pk_lDiv (a := m_abs (V a)) (b := 1000000) (by omega) (by decide) (by decide)]; rfl) (fun i hi ihi => ?_) ?_
            · skip
              have hq := dg_pos 20 i _ hi
              refine gx_lload K d_Mod_placesOf_92 rfl ?_
              refine gx_lconst (v := 0) K d_Mod_placesOf_94 rfl ?_
              refine gx_lcmp K d_Mod_placesOf_95 ?_
              refine gx_ifl_le K d_Mod_placesOf_96 rfl (fun q => absurd q (fun q => absurd ((pk_lLE (b := 0) (Nat.lt_of_le_of_lt (Nat.div_le_self _ _) (by omega)) (by decide)).mp q) (by omega))) (fun _ => ?_)
              refine gx_iload K d_Mod_placesOf_99 rfl ?_
              refine gx_iconst (v := 1) K d_Mod_placesOf_101 rfl ?_
              refine gx_isub K d_Mod_placesOf_102 ?_
              refine gx_istore K d_Mod_placesOf_103 (gle rfl) rfl ?_
              refine gx_lload K d_Mod_placesOf_105 rfl ?_
              refine gx_ldc2 K d_Mod_placesOf_107 k914 ?_
              refine gx_ldiv K d_Mod_placesOf_110 (by decide) ?_
              refine gx_lstore K d_Mod_placesOf_111 (gle rfl) rfl ?_
              refine gx_goto K d_Mod_placesOf_113 rfl ?_
              exact gx_back [true, true, true, false, true, true, false] (by rw [gSub1, gDiv10 (by omega)]; rfl) rfl ihi
            · skip
              have hq := dg_end 20 (m_abs (V a) / 1000000) (by omega)
              refine gx_lload K d_Mod_placesOf_92 rfl ?_
              refine gx_lconst (v := 0) K d_Mod_placesOf_94 rfl ?_
              refine gx_lcmp K d_Mod_placesOf_95 ?_
              refine gx_ifl_le K d_Mod_placesOf_96 rfl (fun _ => ?_) (fun q => absurd (by rw [hq]; exact Int64.le_refl _) q)
              refine gx_goto K d_Mod_placesOf_116 rfl ?_
              refine gx_iload K d_Mod_placesOf_148 rfl ?_
              refine gx_bipush (v := 6) K d_Mod_placesOf_150 rfl ?_
              refine gx_icmp_le K d_Mod_placesOf_152 rfl (fun h152 => ?_) (fun h152 => ?_)
              · skip
                refine gx_iload K d_Mod_placesOf_160 rfl ?_
                refine gx_bipush (v := -9) K d_Mod_placesOf_162 rfl ?_
                refine gx_icmp_ge K d_Mod_placesOf_164 rfl (fun h164 => ?_) (fun h164 => ?_)
                · skip
                  refine gx_iload K d_Mod_placesOf_172 rfl ?_
                  exact gx_iret K hr hlk d_Mod_placesOf_174 ⟨gRi (by simp [m_places, m_clamp, hb, h7, h24, h35, h82, Int64.not_lt.mp h82, h152, Int32.not_lt.mpr h152, h164, Int32.not_lt.mpr h164]), rfl⟩
                · skip
                  refine gx_bipush (v := -9) K d_Mod_placesOf_167 rfl ?_
                  refine gx_goto K d_Mod_placesOf_169 rfl ?_
                  exact gx_iret K hr hlk d_Mod_placesOf_174 ⟨gRi (by simp [m_places, m_clamp, hb, h7, h24, h35, h82, Int64.not_lt.mp h82, h152, Int32.not_lt.mpr h152, h164, Int32.not_le.mp h164]), rfl⟩
              · skip
                refine gx_bipush (v := 6) K d_Mod_placesOf_155 rfl ?_
                refine gx_goto K d_Mod_placesOf_157 rfl ?_
                exact gx_iret K hr hlk d_Mod_placesOf_174 ⟨gRi (by simp [m_places, m_clamp, hb, h7, h24, h35, h82, Int64.not_lt.mp h82, h152, Int32.not_le.mp h152]), rfl⟩
        · skip
          refine gx_aload_n K d_Mod_placesOf_41 rfl rfl ?_
          refine gx_get K f_Mod_95 (q0 := 0) rfl rfl d_Mod_placesOf_42 ?_
          refine gx_iload_n K d_Mod_placesOf_45 rfl rfl ?_
          refine gx_lald K (q0 := 29) rfl rfl (by omega) (by decide) d_Mod_placesOf_46 ?_
          refine gx_lconst (v := 0) K d_Mod_placesOf_47 rfl ?_
          refine gx_lcmp K d_Mod_placesOf_48 ?_
          refine gx_ifl_ge K d_Mod_placesOf_49 rfl (fun h49 => ?_) (fun h49 => ?_)
          · skip
            refine gx_aload_n K d_Mod_placesOf_62 rfl rfl ?_
            refine gx_get K f_Mod_95 (q0 := 0) rfl rfl d_Mod_placesOf_63 ?_
            refine gx_iload_n K d_Mod_placesOf_66 rfl rfl ?_
            refine gx_lald K (q0 := 29) rfl rfl (by omega) (by decide) d_Mod_placesOf_67 ?_
            exact j68 _ (by first | exact absL_pos h49 | exact absL_neg (Int64.not_le.mp h49) (hV.2 a).1)
          · skip
            refine gx_aload_n K d_Mod_placesOf_52 rfl rfl ?_
            refine gx_get K f_Mod_95 (q0 := 0) rfl rfl d_Mod_placesOf_53 ?_
            refine gx_iload_n K d_Mod_placesOf_56 rfl rfl ?_
            refine gx_lald K (q0 := 29) rfl rfl (by omega) (by decide) d_Mod_placesOf_57 ?_
            refine gx_lneg K d_Mod_placesOf_58 ?_
            refine gx_goto K d_Mod_placesOf_59 rfl ?_
            exact j68 _ (by first | exact absL_pos h49 | exact absL_neg (Int64.not_le.mp h49) (hV.2 a).1)
      · skip
        refine gx_bipush (v := 6) K d_Mod_placesOf_38 rfl ?_
        exact gx_iret K hr hlk d_Mod_placesOf_40 ⟨gRi (by simp [m_places, h7, h24, h35]), rfl⟩
  · skip
    refine gx_aload_n K d_Mod_placesOf_10 rfl rfl ?_
    refine gx_get K f_Mod_92 (q0 := 0) rfl rfl d_Mod_placesOf_11 ?_
    refine gx_iload_n K d_Mod_placesOf_14 rfl rfl ?_
    refine gx_iald K (q0 := 28) rfl rfl (by omega) (by decide) d_Mod_placesOf_15 ?_
    exact gx_iret K hr hlk d_Mod_placesOf_16 ⟨gRi (by simp [m_places, h7]), rfl⟩

theorem ten_ne {q : Nat} (h : q ≤ 16) : ¬ Int64.ofNat (10 ^ q) = 0 := (by decide +kernel : ∀ q, q < 17 → ¬ Int64.ofNat (10 ^ q) = 0) q (by omega)
set_option maxRecDepth 100000 in
set_option maxHeartbeats 4000000 in
theorem z_Mod_roundedOf {l : Launch} {D : va_G} {ty : Nat → ClassId} {tt : Nat} {b : Nat → Nat} {B : Nat → Nat → Bool} {N : Nat → Nat} {E : Nat → Nat → Int32} {J : Nat → Int32} {ph : Bool} {V : Nat → Int64} {rd : Int64} {rest : va_W} (I : mI E) (hN : mN N) {x : Int32} {a : Nat} (hx : x = nI a) (ha : a < 20) (hV : mV E V) : Cd l y_Mod_roundedOf c_Mod_roundedOf 5 (some .long) 1 D ty tt [.ref (b 0), .int x] (mdW b ty B N E J ph V rd rest) (some (.long (m_rounded E V a))) (mdW b ty B N E J ph V rd rest) := by
  obtain ⟨n0, n1, n2, n3, n4, n5⟩ := id hN
  subst hx
  refine Ct_of (by decide) (gle rfl) (fun p e s m args below meth c K hr hlk hin => ?_)
  refine gx_aload_n K d_Mod_roundedOf_0 rfl rfl ?_
  refine gx_iload_n K d_Mod_roundedOf_1 rfl rfl ?_
  refine gx_Vd K (z_Mod_placesOf I hN rfl (by omega) hV) Y_Mod_placesOf (ci := 12) rfl (q0 := 0) rfl k930 ks60 k928 rfl ⟨gle rfl, gle rfl⟩ ⟨gle rfl, gle rfl⟩ (gle rfl) d_Mod_roundedOf_2 ?_
  refine gx_istore_n K d_Mod_roundedOf_5 rfl (gle rfl) rfl ?_
  refine gx_bipush (v := 6) K d_Mod_roundedOf_6 rfl ?_
  refine gx_iload_n K d_Mod_roundedOf_8 rfl rfl ?_
  refine gx_isub K d_Mod_roundedOf_9 ?_
  refine gx_Sd K (z_Mod_ten _ (pl_rg (pl_in (hV.1 a)) 6 (Or.inl rfl)).1 (by have := (pl_rg (pl_in (md := E 22 a) (k := E 23 a) (v := V a) (hV.1 a)) 6 (Or.inl rfl)).2; omega)) Y_Mod_ten k943 k942 rfl ⟨gle rfl, gle rfl⟩ ⟨gle rfl, gle rfl⟩ (gle rfl) d_Mod_roundedOf_10 ?_
  refine gx_lstore_n K d_Mod_roundedOf_13 rfl (gle rfl) rfl ?_
  refine gx_aload_n K d_Mod_roundedOf_14 rfl rfl ?_
  refine gx_get K f_Mod_95 (q0 := 0) rfl rfl d_Mod_roundedOf_15 ?_
  refine gx_iload_n K d_Mod_roundedOf_18 rfl rfl ?_
  refine gx_lald K (q0 := 29) rfl rfl (by omega) (by decide) d_Mod_roundedOf_19 ?_
  refine gx_lload_n K d_Mod_roundedOf_20 rfl rfl ?_
  refine gx_Sd K (z_Mod_round _ _ _ (ten_ne (by have := (pl_rg (pl_in (md := E 22 a) (k := E 23 a) (v := V a) (hV.1 a)) 6 (Or.inl rfl)).2; omega))) Y_Mod_round k946 k945 rfl ⟨gle rfl, gle rfl⟩ ⟨gle rfl, gle rfl⟩ (gle rfl) d_Mod_roundedOf_21 ?_
  exact gx_lret K hr hlk d_Mod_roundedOf_24 ⟨rfl, rfl⟩

