theorem in_rg {x hi : Int32} {n : Nat} (h : m_in x 0 hi = true) (hh : hi.toInt = (n : Int) - 1) (hn : n < 2 ^ 31) : rg x n := by
  simp only [m_in, Bool.and_eq_true, decide_eq_true_eq] at h
  refine rg_of h.1 ?_ hn
  have h2 := Int32.le_iff_toInt_le.mp h.2
  rw [Int32.lt_iff_toInt_lt, nI_toInt hn]
  omega
theorem in_rgN {x : Int32} {n : Nat} (h : m_in x 0 (nI n - 1) = true) (hn : n < 2 ^ 30) : rg x n :=
  in_rg h (by rw [show (1 : Int32) = nI 1 from rfl, pk_sub_toInt hn (by decide)]; rfl) (by omega)
theorem rg_mono {x : Int32} {n m : Nat} (h : rg x n) (hm : n ≤ m) : rg x m := ⟨h.1, Nat.lt_of_lt_of_le h.2 hm⟩
theorem ix8 {x y : Int32} (hx : rg x 8) (hy : rg y 8) : (8 : Int32) * x + y = nI (8 * ix x + ix y) := by
  have h1 : (8 : Int32) * x + y = nI 8 * nI (ix x) + nI (ix y) := by rw [← hx.1, ← hy.1]; rfl
  rw [h1, pk_mul, nI_add]
section KK
variable (B : Nat → Nat → Bool) (N : Nat → Nat)
def k_ref (x y : Int32) : Bool := m_in x 0 7 && (m_in y 0 7 && !(B 0 (8 * ix x + ix y)))
def k_ent (x : Int32) : Bool := m_in x 0 7 && !(B 1 (ix x))
def k_set (x y : Int32) : Bool := m_in x 0 2 && m_in y 0 9
def k_con (d t b p : Int32) : Bool := m_in d 0 7 && (m_in t 0 2 && ((decide (b = 0) || (decide (t = 2) && m_in b 1 2)) && (m_in p 0 1 && decide (N 0 < 16))))
def k_ctx (e s n c : Int32) : Bool := m_in e 0 9 && (m_in c 0 9 && ((m_in n 0 9999 && (decide (s = -1) || (m_in s 0 9999 && decide (s < n)))) && decide (N 2 < 12)))
def k_uni (a b c : Int32) : Bool := m_in a 1 9 && (m_in b 0 9 && (m_in c 0 9 && ((decide (c = 0) || (!decide (c = a) && !decide (c = b))) && decide (N 3 < 8))))
def k_arc (d s f t n : Int32) : Bool := m_in d 0 7 && (m_in s 0 1 && ((m_in f 0 (nI (N 0) - 1) && m_in t 0 (nI (N 0) - 1)) && (m_in n (-90) 90 && (!decide (n = 0) && decide (N 1 < 32)))))
def k_wri (c : Int32) : Bool := s_fit c && decide (N 4 < 20)
end KK
section KE
variable (E : Nat → Nat → Int32) (n : Nat)
def e_con (d t b p : Int32) : Nat → Nat → Int32 := va_up (va_up (va_up (va_up E 0 (upd (E 0) n d)) 1 (upd (E 1) n t)) 2 (upd (E 2) n b)) 3 (upd (E 3) n p)
def e_ctx (e s x c : Int32) : Nat → Nat → Int32 := va_up (va_up (va_up (va_up E 11 (upd (E 11) n e)) 12 (upd (E 12) n s)) 13 (upd (E 13) n x)) 14 (upd (E 14) n c)
def e_uni (a b c : Int32) : Nat → Nat → Int32 := va_up (va_up (va_up E 15 (upd (E 15) n a)) 16 (upd (E 16) n b)) 17 (upd (E 17) n c)
def e_arc (d r s f t m p : Int32) : Nat → Nat → Int32 := va_up (va_up (va_up (va_up (va_up (va_up (va_up E 4 (upd (E 4) n d)) 5 (upd (E 5) n r)) 6 (upd (E 6) n s)) 7 (upd (E 7) n f)) 8 (upd (E 8) n t)) 9 (upd (E 9) n m)) 10 (upd (E 10) n p)
def e_wri (c : Int32) : Nat → Nat → Int32 := va_up E 18 (upd (E 18) n c)
def e_fac (c x u m k : Int32) : Nat → Nat → Int32 := va_up (va_up (va_up (va_up (va_up E 19 (upd (E 19) n c)) 20 (upd (E 20) n x)) 21 (upd (E 21) n u)) 22 (upd (E 22) n m)) 23 (upd (E 23) n k)
end KE
set_option maxRecDepth 100000 in
set_option maxHeartbeats 1000000 in
theorem z_Mod_refer {l : Launch} {D : va_G} {ty : Nat → ClassId} {tt : Nat} {b : Nat → Nat} {B : Nat → Nat → Bool} {N : Nat → Nat} {E : Nat → Nat → Int32} {J : Nat → Int32} {ph : Bool} {V : Nat → Int64} {rd : Int64} {rest : va_W} (I : mI E) (hN : mN N) (x y : Int32) : Cd l y_Mod_refer c_Mod_refer 3 (some .boolean) 1 D ty tt [.ref (b 0), .int x, .int y] (mdW b ty B N E J ph V rd rest) (some (.int (b2i (k_ref B x y)))) (if k_ref B x y = true then (mdW b ty (va_up B 0 (va_up (B 0) (8 * ix x + ix y) true)) (N) (E) (J) (ph) (V) (rd) rest) else (mdW b ty B N E J ph V rd rest)) := by
  obtain ⟨n0, n1, n2, n3, n4, n5⟩ := id hN
  refine Ct_of (by decide) (gle rfl) (fun p e s m args below meth c K hr hlk hin => ?_)
  refine gx_iload_n K d_Mod_refer_0 rfl rfl ?_
  refine gx_iconst (v := 0) K d_Mod_refer_1 rfl ?_
  refine gx_bipush (v := 7) K d_Mod_refer_2 rfl ?_
  refine gx_Sd K (z_Mod_in _ _ _ _) Y_Mod_in k832 k831 rfl ⟨gle rfl, gle rfl⟩ ⟨gle rfl, gle rfl⟩ (gle rfl) d_Mod_refer_4 ?_
  refine gx_if_eqB K d_Mod_refer_7 rfl (fun h7 => ?_) (fun h7 => ?_)
  · skip
    refine gx_iconst (v := b2i false) K d_Mod_refer_34 rfl ?_
    exact gx_zret K hr hlk d_Mod_refer_35 ⟨gRb (by simp [k_ref, h7] <;> simp_all), (if_neg (by simp [k_ref, h7] <;> simp_all)).symm⟩
  · skip
    refine gx_iload_n K d_Mod_refer_10 rfl rfl ?_
    refine gx_iconst (v := 0) K d_Mod_refer_11 rfl ?_
    refine gx_bipush (v := 7) K d_Mod_refer_12 rfl ?_
    refine gx_Sd K (z_Mod_in _ _ _ _) Y_Mod_in k832 k831 rfl ⟨gle rfl, gle rfl⟩ ⟨gle rfl, gle rfl⟩ (gle rfl) d_Mod_refer_14 ?_
    refine gx_if_eqB K d_Mod_refer_17 rfl (fun h17 => ?_) (fun h17 => ?_)
    · skip
      refine gx_iconst (v := b2i false) K d_Mod_refer_34 rfl ?_
      exact gx_zret K hr hlk d_Mod_refer_35 ⟨gRb (by simp [k_ref, h7, h17] <;> simp_all), (if_neg (by simp [k_ref, h7, h17] <;> simp_all)).symm⟩
    · skip
      have rx : rg x 8 := in_rg h7 (n := 8) rfl (by decide)
      have ry : rg y 8 := in_rg h17 (n := 8) rfl (by decide)
      have rx2 := rx.2
      have ry2 := ry.2
      refine gx_aload_n K d_Mod_refer_20 rfl rfl ?_
      refine gx_get K f_Mod_7 (q0 := 0) rfl rfl d_Mod_refer_21 ?_
      refine gx_bipush (v := 8) K d_Mod_refer_24 rfl ?_
      refine gx_iload_n K d_Mod_refer_26 rfl rfl ?_
      refine gx_imul K d_Mod_refer_27 ?_
      refine gx_iload_n K d_Mod_refer_28 rfl rfl ?_
      refine gx_iadd K d_Mod_refer_29 ?_
      refine gx_zld K (q0 := 1) rfl (ix8 rx ry) (by omega) (by decide) d_Mod_refer_30 ?_
      refine gx_if_eqB K d_Mod_refer_31 rfl (fun h31 => ?_) (fun h31 => ?_)
      · skip
        refine gx_aload_n K d_Mod_refer_36 rfl rfl ?_
        refine gx_get K f_Mod_7 (q0 := 0) rfl rfl d_Mod_refer_37 ?_
        refine gx_bipush (v := 8) K d_Mod_refer_40 rfl ?_
        refine gx_iload_n K d_Mod_refer_42 rfl rfl ?_
        refine gx_imul K d_Mod_refer_43 ?_
        refine gx_iload_n K d_Mod_refer_44 rfl rfl ?_
        refine gx_iadd K d_Mod_refer_45 ?_
        refine gx_iconst (v := b2i true) K d_Mod_refer_46 rfl ?_
        refine gx_zst K (q0 := 1) rfl (ix8 rx ry) (by omega) (by decide) d_Mod_refer_47 ?_
        refine gx_iconst (v := b2i true) K d_Mod_refer_48 rfl ?_
        exact gx_zret K hr hlk d_Mod_refer_49 ⟨gRb (by simp [k_ref, h7, h17, h31] <;> simp_all), (if_pos (by simp [k_ref, h7, h17, h31] <;> simp_all)).symm⟩
      · skip
        refine gx_iconst (v := b2i false) K d_Mod_refer_34 rfl ?_
        exact gx_zret K hr hlk d_Mod_refer_35 ⟨gRb (by simp [k_ref, h7, h17, h31] <;> simp_all), (if_neg (by simp [k_ref, h7, h17, h31] <;> simp_all)).symm⟩

set_option maxRecDepth 100000 in
set_option maxHeartbeats 1000000 in
theorem z_Mod_enter {l : Launch} {D : va_G} {ty : Nat → ClassId} {tt : Nat} {b : Nat → Nat} {B : Nat → Nat → Bool} {N : Nat → Nat} {E : Nat → Nat → Int32} {J : Nat → Int32} {ph : Bool} {V : Nat → Int64} {rd : Int64} {rest : va_W} (I : mI E) (hN : mN N) (x : Int32) : Cd l y_Mod_enter c_Mod_enter 2 (some .boolean) 1 D ty tt [.ref (b 0), .int x] (mdW b ty B N E J ph V rd rest) (some (.int (b2i (k_ent B x)))) (if k_ent B x = true then (mdW b ty (va_up B 1 (va_up (B 1) (ix x) true)) (N) (E) (J) (ph) (V) (rd) rest) else (mdW b ty B N E J ph V rd rest)) := by
  obtain ⟨n0, n1, n2, n3, n4, n5⟩ := id hN
  refine Ct_of (by decide) (gle rfl) (fun p e s m args below meth c K hr hlk hin => ?_)
  refine gx_iload_n K d_Mod_enter_0 rfl rfl ?_
  refine gx_iconst (v := 0) K d_Mod_enter_1 rfl ?_
  refine gx_bipush (v := 7) K d_Mod_enter_2 rfl ?_
  refine gx_Sd K (z_Mod_in _ _ _ _) Y_Mod_in k832 k831 rfl ⟨gle rfl, gle rfl⟩ ⟨gle rfl, gle rfl⟩ (gle rfl) d_Mod_enter_4 ?_
  refine gx_if_eqB K d_Mod_enter_7 rfl (fun h7 => ?_) (fun h7 => ?_)
  · skip
    refine gx_iconst (v := b2i false) K d_Mod_enter_19 rfl ?_
    exact gx_zret K hr hlk d_Mod_enter_20 ⟨gRb (by simp [k_ent, h7] <;> simp_all), (if_neg (by simp [k_ent, h7] <;> simp_all)).symm⟩
  · skip
    have rx : rg x 8 := in_rg h7 (n := 8) rfl (by decide)
    refine gx_aload_n K d_Mod_enter_10 rfl rfl ?_
    refine gx_get K f_Mod_13 (q0 := 0) rfl rfl d_Mod_enter_11 ?_
    refine gx_iload_n K d_Mod_enter_14 rfl rfl ?_
    refine gx_zld K (q0 := 2) rfl rx.1 rx.2 (by decide) d_Mod_enter_15 ?_
    refine gx_if_eqB K d_Mod_enter_16 rfl (fun h16 => ?_) (fun h16 => ?_)
    · skip
      refine gx_aload_n K d_Mod_enter_21 rfl rfl ?_
      refine gx_get K f_Mod_13 (q0 := 0) rfl rfl d_Mod_enter_22 ?_
      refine gx_iload_n K d_Mod_enter_25 rfl rfl ?_
      refine gx_iconst (v := b2i true) K d_Mod_enter_26 rfl ?_
      refine gx_zst K (q0 := 2) rfl rx.1 rx.2 (by decide) d_Mod_enter_27 ?_
      refine gx_iconst (v := b2i true) K d_Mod_enter_28 rfl ?_
      exact gx_zret K hr hlk d_Mod_enter_29 ⟨gRb (by simp [k_ent, h7, h16] <;> simp_all), (if_pos (by simp [k_ent, h7, h16] <;> simp_all)).symm⟩
    · skip
      refine gx_iconst (v := b2i false) K d_Mod_enter_19 rfl ?_
      exact gx_zret K hr hlk d_Mod_enter_20 ⟨gRb (by simp [k_ent, h7, h16] <;> simp_all), (if_neg (by simp [k_ent, h7, h16] <;> simp_all)).symm⟩

set_option maxRecDepth 100000 in
set_option maxHeartbeats 1000000 in
theorem z_Mod_discovered {l : Launch} {D : va_G} {ty : Nat → ClassId} {tt : Nat} {b : Nat → Nat} {B : Nat → Nat → Bool} {N : Nat → Nat} {E : Nat → Nat → Int32} {J : Nat → Int32} {ph : Bool} {V : Nat → Int64} {rd : Int64} {rest : va_W} (I : mI E) (hN : mN N) (x : Int32) : Cd l y_Mod_discovered c_Mod_discovered 2 (some .boolean) 1 D ty tt [.ref (b 0), .int x] (mdW b ty B N E J ph V rd rest) (some (.int (b2i (m_in x 0 7 && d_fo B (ix x))))) (mdW b ty (va_up B 2 (d_fo B)) (N) (E) (J) (ph) (V) (rd) rest) := by
  obtain ⟨n0, n1, n2, n3, n4, n5⟩ := id hN
  refine Ct_of (by decide) (gle rfl) (fun p e s m args below meth c K hr hlk hin => ?_)
  refine gx_aload_n K d_Mod_discovered_0 rfl rfl ?_
  refine gx_Vdv K (z_Mod_discover I hN) Y_Mod_discover (ci := 12) rfl (q0 := 0) rfl k844 ks51 k842 rfl ⟨gle rfl, gle rfl⟩ ⟨gle rfl, gle rfl⟩ (gle rfl) d_Mod_discovered_1 ?_
  refine gx_iload_n K d_Mod_discovered_4 rfl rfl ?_
  refine gx_iconst (v := 0) K d_Mod_discovered_5 rfl ?_
  refine gx_bipush (v := 7) K d_Mod_discovered_6 rfl ?_
  refine gx_Sd K (z_Mod_in _ _ _ _) Y_Mod_in k832 k831 rfl ⟨gle rfl, gle rfl⟩ ⟨gle rfl, gle rfl⟩ (gle rfl) d_Mod_discovered_8 ?_
  refine gx_if_eqB K d_Mod_discovered_11 rfl (fun h11 => ?_) (fun h11 => ?_)
  · skip
    refine gx_iconst (v := b2i false) K d_Mod_discovered_27 rfl ?_
    exact gx_zret K hr hlk d_Mod_discovered_28 ⟨gRb (by simp [h11]), rfl⟩
  · skip
    have rx : rg x 8 := in_rg h11 (n := 8) rfl (by decide)
    refine gx_aload_n K d_Mod_discovered_14 rfl rfl ?_
    refine gx_get K f_Mod_16 (q0 := 0) rfl rfl d_Mod_discovered_15 ?_
    refine gx_iload_n K d_Mod_discovered_18 rfl rfl ?_
    refine gx_zld K (q0 := 3) rfl rx.1 rx.2 (by decide) d_Mod_discovered_19 ?_
    refine gx_if_eqB K d_Mod_discovered_20 rfl (fun h20 => ?_) (fun h20 => ?_)
    · skip
      refine gx_iconst (v := b2i false) K d_Mod_discovered_27 rfl ?_
      exact gx_zret K hr hlk d_Mod_discovered_28 ⟨gRb (by rw [show d_fo B (ix x) = _ from h20]; simp [h11]), rfl⟩
    · skip
      refine gx_iconst (v := b2i true) K d_Mod_discovered_23 rfl ?_
      refine gx_goto K d_Mod_discovered_24 rfl ?_
      exact gx_zret K hr hlk d_Mod_discovered_28 ⟨gRb (by rw [show d_fo B (ix x) = _ from h20]; simp [h11]), rfl⟩

set_option maxRecDepth 100000 in
set_option maxHeartbeats 1000000 in
theorem z_Mod_sameContext {l : Launch} {D : va_G} {ty : Nat → ClassId} {tt : Nat} {b : Nat → Nat} {B : Nat → Nat → Bool} {N : Nat → Nat} {E : Nat → Nat → Int32} {J : Nat → Int32} {ph : Bool} {V : Nat → Int64} {rd : Int64} {rest : va_W} (I : mI E) (hN : mN N) (x y : Int32) : Cd l y_Mod_sameContext c_Mod_sameContext 3 (some .boolean) 1 D ty tt [.ref (b 0), .int x, .int y] (mdW b ty B N E J ph V rd rest) (some (.int (b2i (m_in x 0 (nI (N 2) - 1) && (m_in y 0 (nI (N 2) - 1) && m_eqX E (ix x) (ix y)))))) (mdW b ty B N E J ph V rd rest) := by
  obtain ⟨n0, n1, n2, n3, n4, n5⟩ := id hN
  refine Ct_of (by decide) (gle rfl) (fun p e s m args below meth c K hr hlk hin => ?_)
  refine gx_iload_n K d_Mod_sameContext_0 rfl rfl ?_
  refine gx_iconst (v := 0) K d_Mod_sameContext_1 rfl ?_
  refine gx_aload_n K d_Mod_sameContext_2 rfl rfl ?_
  refine gx_get K f_Mod_113 (q0 := 0) rfl rfl d_Mod_sameContext_3 ?_
  refine gx_iconst (v := 1) K d_Mod_sameContext_6 rfl ?_
  refine gx_isub K d_Mod_sameContext_7 ?_
  refine gx_Sd K (z_Mod_in _ _ _ _) Y_Mod_in k832 k831 rfl ⟨gle rfl, gle rfl⟩ ⟨gle rfl, gle rfl⟩ (gle rfl) d_Mod_sameContext_8 ?_
  refine gx_if_eqB K d_Mod_sameContext_11 rfl (fun h11 => ?_) (fun h11 => ?_)
  · skip
    refine gx_iconst (v := b2i false) K d_Mod_sameContext_41 rfl ?_
    exact gx_zret K hr hlk d_Mod_sameContext_42 ⟨gRb (by simp [h11]), rfl⟩
  · skip
    refine gx_iload_n K d_Mod_sameContext_14 rfl rfl ?_
    refine gx_iconst (v := 0) K d_Mod_sameContext_15 rfl ?_
    refine gx_aload_n K d_Mod_sameContext_16 rfl rfl ?_
    refine gx_get K f_Mod_113 (q0 := 0) rfl rfl d_Mod_sameContext_17 ?_
    refine gx_iconst (v := 1) K d_Mod_sameContext_20 rfl ?_
    refine gx_isub K d_Mod_sameContext_21 ?_
    refine gx_Sd K (z_Mod_in _ _ _ _) Y_Mod_in k832 k831 rfl ⟨gle rfl, gle rfl⟩ ⟨gle rfl, gle rfl⟩ (gle rfl) d_Mod_sameContext_22 ?_
    refine gx_if_eqB K d_Mod_sameContext_25 rfl (fun h25 => ?_) (fun h25 => ?_)
    · skip
      refine gx_iconst (v := b2i false) K d_Mod_sameContext_41 rfl ?_
      exact gx_zret K hr hlk d_Mod_sameContext_42 ⟨gRb (by simp [h11, h25]), rfl⟩
    · skip
      have rx : rg x 12 := rg_mono (in_rgN h11 (by omega)) n2
      have ry : rg y 12 := rg_mono (in_rgN h25 (by omega)) n2
      refine gx_aload_n K d_Mod_sameContext_28 rfl rfl ?_
      refine gx_iload_n K d_Mod_sameContext_29 rfl rfl ?_
      refine gx_iload_n K d_Mod_sameContext_30 rfl rfl ?_
      refine gx_Vd K (z_Mod_equalContexts I hN rx.1 rx.2 ry.1 ry.2) Y_Mod_equalContexts (ci := 12) rfl (q0 := 0) rfl k860 ks52 k858 rfl ⟨gle rfl, gle rfl⟩ ⟨gle rfl, gle rfl⟩ (gle rfl) d_Mod_sameContext_31 ?_
      refine gx_if_eqB K d_Mod_sameContext_34 rfl (fun h34 => ?_) (fun h34 => ?_)
      · skip
        refine gx_iconst (v := b2i false) K d_Mod_sameContext_41 rfl ?_
        exact gx_zret K hr hlk d_Mod_sameContext_42 ⟨gRb (by simp [h11, h25, h34]), rfl⟩
      · skip
        refine gx_iconst (v := b2i true) K d_Mod_sameContext_37 rfl ?_
        refine gx_goto K d_Mod_sameContext_38 rfl ?_
        exact gx_zret K hr hlk d_Mod_sameContext_42 ⟨gRb (by simp [h11, h25, h34]), rfl⟩

set_option maxRecDepth 100000 in
set_option maxHeartbeats 1000000 in
theorem z_Mod_sameUnit {l : Launch} {D : va_G} {ty : Nat → ClassId} {tt : Nat} {b : Nat → Nat} {B : Nat → Nat → Bool} {N : Nat → Nat} {E : Nat → Nat → Int32} {J : Nat → Int32} {ph : Bool} {V : Nat → Int64} {rd : Int64} {rest : va_W} (I : mI E) (hN : mN N) (x y : Int32) : Cd l y_Mod_sameUnit c_Mod_sameUnit 3 (some .boolean) 1 D ty tt [.ref (b 0), .int x, .int y] (mdW b ty B N E J ph V rd rest) (some (.int (b2i (m_in x 0 (nI (N 3) - 1) && (m_in y 0 (nI (N 3) - 1) && m_eqU E x y))))) (mdW b ty B N E J ph V rd rest) := by
  obtain ⟨n0, n1, n2, n3, n4, n5⟩ := id hN
  refine Ct_of (by decide) (gle rfl) (fun p e s m args below meth c K hr hlk hin => ?_)
  refine gx_iload_n K d_Mod_sameUnit_0 rfl rfl ?_
  refine gx_iconst (v := 0) K d_Mod_sameUnit_1 rfl ?_
  refine gx_aload_n K d_Mod_sameUnit_2 rfl rfl ?_
  refine gx_get K f_Mod_120 (q0 := 0) rfl rfl d_Mod_sameUnit_3 ?_
  refine gx_iconst (v := 1) K d_Mod_sameUnit_6 rfl ?_
  refine gx_isub K d_Mod_sameUnit_7 ?_
  refine gx_Sd K (z_Mod_in _ _ _ _) Y_Mod_in k832 k831 rfl ⟨gle rfl, gle rfl⟩ ⟨gle rfl, gle rfl⟩ (gle rfl) d_Mod_sameUnit_8 ?_
  refine gx_if_eqB K d_Mod_sameUnit_11 rfl (fun h11 => ?_) (fun h11 => ?_)
  · skip
    refine gx_iconst (v := b2i false) K d_Mod_sameUnit_41 rfl ?_
    exact gx_zret K hr hlk d_Mod_sameUnit_42 ⟨gRb (by simp [h11]), rfl⟩
  · skip
    refine gx_iload_n K d_Mod_sameUnit_14 rfl rfl ?_
    refine gx_iconst (v := 0) K d_Mod_sameUnit_15 rfl ?_
    refine gx_aload_n K d_Mod_sameUnit_16 rfl rfl ?_
    refine gx_get K f_Mod_120 (q0 := 0) rfl rfl d_Mod_sameUnit_17 ?_
    refine gx_iconst (v := 1) K d_Mod_sameUnit_20 rfl ?_
    refine gx_isub K d_Mod_sameUnit_21 ?_
    refine gx_Sd K (z_Mod_in _ _ _ _) Y_Mod_in k832 k831 rfl ⟨gle rfl, gle rfl⟩ ⟨gle rfl, gle rfl⟩ (gle rfl) d_Mod_sameUnit_22 ?_
    refine gx_if_eqB K d_Mod_sameUnit_25 rfl (fun h25 => ?_) (fun h25 => ?_)
    · skip
      refine gx_iconst (v := b2i false) K d_Mod_sameUnit_41 rfl ?_
      exact gx_zret K hr hlk d_Mod_sameUnit_42 ⟨gRb (by simp [h11, h25]), rfl⟩
    · skip
      have rx : rg x 8 := rg_mono (in_rgN h11 (by omega)) n3
      have ry : rg y 8 := rg_mono (in_rgN h25 (by omega)) n3
      refine gx_aload_n K d_Mod_sameUnit_28 rfl rfl ?_
      refine gx_iload_n K d_Mod_sameUnit_29 rfl rfl ?_
      refine gx_iload_n K d_Mod_sameUnit_30 rfl rfl ?_
      refine gx_Vd K (z_Mod_equalUnits I hN (Or.inr rx) (Or.inr ry)) Y_Mod_equalUnits (ci := 12) rfl (q0 := 0) rfl k872 ks53 k870 rfl ⟨gle rfl, gle rfl⟩ ⟨gle rfl, gle rfl⟩ (gle rfl) d_Mod_sameUnit_31 ?_
      refine gx_if_eqB K d_Mod_sameUnit_34 rfl (fun h34 => ?_) (fun h34 => ?_)
      · skip
        refine gx_iconst (v := b2i false) K d_Mod_sameUnit_41 rfl ?_
        exact gx_zret K hr hlk d_Mod_sameUnit_42 ⟨gRb (by simp [h11, h25, h34]), rfl⟩
      · skip
        refine gx_iconst (v := b2i true) K d_Mod_sameUnit_37 rfl ?_
        refine gx_goto K d_Mod_sameUnit_38 rfl ?_
        exact gx_zret K hr hlk d_Mod_sameUnit_42 ⟨gRb (by simp [h11, h25, h34]), rfl⟩

set_option maxRecDepth 100000 in
set_option maxHeartbeats 1000000 in
theorem z_Mod_left {l : Launch} {D : va_G} {ty : Nat → ClassId} {tt : Nat} {b : Nat → Nat} {B : Nat → Nat → Bool} {N : Nat → Nat} {E : Nat → Nat → Int32} {J : Nat → Int32} {ph : Bool} {V : Nat → Int64} {rd : Int64} {rest : va_W} (I : mI E) (hN : mN N) (x : Int32) : Cd l y_Mod_left c_Mod_left 2 (some .boolean) 3 D ty tt [.ref (b 0), .int x] (mdW b ty B N E J ph V rd rest) (some (.int (b2i (m_in x 0 (nI (N 1) - 1) && m_left (va_up B 2 (d_fo B)) N E (ix x))))) (mdW b ty (va_up B 2 (d_fo B)) (N) (E) (J) (ph) (V) (rd) rest) := by
  obtain ⟨n0, n1, n2, n3, n4, n5⟩ := id hN
  refine Ct_of (by decide) (gle rfl) (fun p e s m args below meth c K hr hlk hin => ?_)
  refine gx_aload_n K d_Mod_left_0 rfl rfl ?_
  refine gx_Vdv K (z_Mod_discover I hN) Y_Mod_discover (ci := 12) rfl (q0 := 0) rfl k844 ks51 k842 rfl ⟨gle rfl, gle rfl⟩ ⟨gle rfl, gle rfl⟩ (gle rfl) d_Mod_left_1 ?_
  refine gx_iload_n K d_Mod_left_4 rfl rfl ?_
  refine gx_iconst (v := 0) K d_Mod_left_5 rfl ?_
  refine gx_aload_n K d_Mod_left_6 rfl rfl ?_
  refine gx_get K f_Mod_136 (q0 := 0) rfl rfl d_Mod_left_7 ?_
  refine gx_iconst (v := 1) K d_Mod_left_10 rfl ?_
  refine gx_isub K d_Mod_left_11 ?_
  refine gx_Sd K (z_Mod_in _ _ _ _) Y_Mod_in k832 k831 rfl ⟨gle rfl, gle rfl⟩ ⟨gle rfl, gle rfl⟩ (gle rfl) d_Mod_left_12 ?_
  refine gx_if_eqB K d_Mod_left_15 rfl (fun h15 => ?_) (fun h15 => ?_)
  · skip
    refine gx_iconst (v := b2i false) K d_Mod_left_30 rfl ?_
    exact gx_zret K hr hlk d_Mod_left_31 ⟨gRb (by simp [h15]), rfl⟩
  · skip
    have rx : rg x 32 := rg_mono (in_rgN h15 (by omega)) n1
    refine gx_aload_n K d_Mod_left_18 rfl rfl ?_
    refine gx_iload_n K d_Mod_left_19 rfl rfl ?_
    refine gx_Vd K (z_Mod_isLeft I hN rx.1 rx.2) Y_Mod_isLeft (ci := 12) rfl (q0 := 0) rfl k888 ks54 k886 rfl ⟨gle rfl, gle rfl⟩ ⟨gle rfl, gle rfl⟩ (gle rfl) d_Mod_left_20 ?_
    refine gx_if_eqB K d_Mod_left_23 rfl (fun h23 => ?_) (fun h23 => ?_)
    · skip
      refine gx_iconst (v := b2i false) K d_Mod_left_30 rfl ?_
      exact gx_zret K hr hlk d_Mod_left_31 ⟨gRb (by simp [h15, h23]), rfl⟩
    · skip
      refine gx_iconst (v := b2i true) K d_Mod_left_26 rfl ?_
      refine gx_goto K d_Mod_left_27 rfl ?_
      exact gx_zret K hr hlk d_Mod_left_31 ⟨gRb (by simp [h15, h23]), rfl⟩

set_option maxRecDepth 100000 in
set_option maxHeartbeats 1000000 in
theorem z_Mod_value {l : Launch} {D : va_G} {ty : Nat → ClassId} {tt : Nat} {b : Nat → Nat} {B : Nat → Nat → Bool} {N : Nat → Nat} {E : Nat → Nat → Int32} {J : Nat → Int32} {ph : Bool} {V : Nat → Int64} {rd : Int64} {rest : va_W} (I : mI E) (hN : mN N) (x : Int32) : Cd l y_Mod_value c_Mod_value 2 (some .long) 2 D ty tt [.ref (b 0), .int x] (mdW b ty B N E J ph V rd rest) (some (.long (if m_in x 0 (nI (N 5) - 1) = true then V (ix x) else 0))) (mdW b ty B N E J ph V rd rest) := by
  obtain ⟨n0, n1, n2, n3, n4, n5⟩ := id hN
  refine Ct_of (by decide) (gle rfl) (fun p e s m args below meth c K hr hlk hin => ?_)
  refine gx_aload_n K d_Mod_value_0 rfl rfl ?_
  refine gx_iload_n K d_Mod_value_1 rfl rfl ?_
  refine gx_Vd K (z_Mod_isFact I hN _) Y_Mod_isFact (ci := 12) rfl (q0 := 0) rfl k922 ks59 k920 rfl ⟨gle rfl, gle rfl⟩ ⟨gle rfl, gle rfl⟩ (gle rfl) d_Mod_value_2 ?_
  refine gx_if_eqB K d_Mod_value_5 rfl (fun h5 => ?_) (fun h5 => ?_)
  · skip
    refine gx_lconst (v := 0) K d_Mod_value_17 rfl ?_
    exact gx_lret K hr hlk d_Mod_value_18 ⟨gRl (by simp [h5]), rfl⟩
  · skip
    have rx : rg x 20 := rg_mono (in_rgN h5 (by omega)) n5
    refine gx_aload_n K d_Mod_value_8 rfl rfl ?_
    refine gx_get K f_Mod_95 (q0 := 0) rfl rfl d_Mod_value_9 ?_
    refine gx_iload_n K d_Mod_value_12 rfl rfl ?_
    refine gx_lald K (q0 := 29) rfl rx.1 rx.2 (by decide) d_Mod_value_13 ?_
    refine gx_goto K d_Mod_value_14 rfl ?_
    exact gx_lret K hr hlk d_Mod_value_18 ⟨gRl (by simp [h5]), rfl⟩

set_option maxRecDepth 100000 in
set_option maxHeartbeats 1000000 in
theorem z_Mod_places {l : Launch} {D : va_G} {ty : Nat → ClassId} {tt : Nat} {b : Nat → Nat} {B : Nat → Nat → Bool} {N : Nat → Nat} {E : Nat → Nat → Int32} {J : Nat → Int32} {ph : Bool} {V : Nat → Int64} {rd : Int64} {rest : va_W} (I : mI E) (hN : mN N) (x : Int32) (hV : mV E V) : Cd l y_Mod_places c_Mod_places 2 (some .int) 2 D ty tt [.ref (b 0), .int x] (mdW b ty B N E J ph V rd rest) (some (.int (if m_in x 0 (nI (N 5) - 1) = true then m_places (E 22 (ix x)) (E 23 (ix x)) (V (ix x)) else 99))) (mdW b ty B N E J ph V rd rest) := by
  obtain ⟨n0, n1, n2, n3, n4, n5⟩ := id hN
  refine Ct_of (by decide) (gle rfl) (fun p e s m args below meth c K hr hlk hin => ?_)
  refine gx_aload_n K d_Mod_places_0 rfl rfl ?_
  refine gx_iload_n K d_Mod_places_1 rfl rfl ?_
  refine gx_Vd K (z_Mod_isFact I hN _) Y_Mod_isFact (ci := 12) rfl (q0 := 0) rfl k922 ks59 k920 rfl ⟨gle rfl, gle rfl⟩ ⟨gle rfl, gle rfl⟩ (gle rfl) d_Mod_places_2 ?_
  refine gx_if_eqB K d_Mod_places_5 rfl (fun h5 => ?_) (fun h5 => ?_)
  · skip
    refine gx_bipush (v := 99) K d_Mod_places_16 rfl ?_
    exact gx_iret K hr hlk d_Mod_places_18 ⟨gRi (by simp [h5]), rfl⟩
  · skip
    have rx : rg x 20 := rg_mono (in_rgN h5 (by omega)) n5
    refine gx_aload_n K d_Mod_places_8 rfl rfl ?_
    refine gx_iload_n K d_Mod_places_9 rfl rfl ?_
    refine gx_Vd K (z_Mod_placesOf I hN rx.1 rx.2 hV) Y_Mod_placesOf (ci := 12) rfl (q0 := 0) rfl k930 ks60 k928 rfl ⟨gle rfl, gle rfl⟩ ⟨gle rfl, gle rfl⟩ (gle rfl) d_Mod_places_10 ?_
    refine gx_goto K d_Mod_places_13 rfl ?_
    exact gx_iret K hr hlk d_Mod_places_18 ⟨gRi (by simp [h5]), rfl⟩

set_option maxRecDepth 100000 in
set_option maxHeartbeats 1000000 in
theorem z_Mod_rounded {l : Launch} {D : va_G} {ty : Nat → ClassId} {tt : Nat} {b : Nat → Nat} {B : Nat → Nat → Bool} {N : Nat → Nat} {E : Nat → Nat → Int32} {J : Nat → Int32} {ph : Bool} {V : Nat → Int64} {rd : Int64} {rest : va_W} (I : mI E) (hN : mN N) (x : Int32) (hV : mV E V) : Cd l y_Mod_rounded c_Mod_rounded 2 (some .long) 2 D ty tt [.ref (b 0), .int x] (mdW b ty B N E J ph V rd rest) (some (.long (if m_in x 0 (nI (N 5) - 1) = true then m_rounded E V (ix x) else 0))) (mdW b ty B N E J ph V rd rest) := by
  obtain ⟨n0, n1, n2, n3, n4, n5⟩ := id hN
  refine Ct_of (by decide) (gle rfl) (fun p e s m args below meth c K hr hlk hin => ?_)
  refine gx_aload_n K d_Mod_rounded_0 rfl rfl ?_
  refine gx_iload_n K d_Mod_rounded_1 rfl rfl ?_
  refine gx_Vd K (z_Mod_isFact I hN _) Y_Mod_isFact (ci := 12) rfl (q0 := 0) rfl k922 ks59 k920 rfl ⟨gle rfl, gle rfl⟩ ⟨gle rfl, gle rfl⟩ (gle rfl) d_Mod_rounded_2 ?_
  refine gx_if_eqB K d_Mod_rounded_5 rfl (fun h5 => ?_) (fun h5 => ?_)
  · skip
    refine gx_lconst (v := 0) K d_Mod_rounded_16 rfl ?_
    exact gx_lret K hr hlk d_Mod_rounded_17 ⟨gRl (by simp [h5]), rfl⟩
  · skip
    have rx : rg x 20 := rg_mono (in_rgN h5 (by omega)) n5
    refine gx_aload_n K d_Mod_rounded_8 rfl rfl ?_
    refine gx_iload_n K d_Mod_rounded_9 rfl rfl ?_
    refine gx_Vd K (z_Mod_roundedOf I hN rx.1 rx.2 hV) Y_Mod_roundedOf (ci := 12) rfl (q0 := 0) rfl k940 ks61 k938 rfl ⟨gle rfl, gle rfl⟩ ⟨gle rfl, gle rfl⟩ (gle rfl) d_Mod_rounded_10 ?_
    refine gx_goto K d_Mod_rounded_13 rfl ?_
    exact gx_lret K hr hlk d_Mod_rounded_17 ⟨gRl (by simp [h5]), rfl⟩

set_option maxRecDepth 100000 in
set_option maxHeartbeats 1000000 in
theorem z_Mod_sum {l : Launch} {D : va_G} {ty : Nat → ClassId} {tt : Nat} {b : Nat → Nat} {B : Nat → Nat → Bool} {N : Nat → Nat} {E : Nat → Nat → Int32} {J : Nat → Int32} {ph : Bool} {V : Nat → Int64} {rd : Int64} {rest : va_W} (I : mI E) (hN : mN N) (x y : Int32) (hV : mV E V) : Cd l y_Mod_sum c_Mod_sum 3 (some .long) 6 D ty tt [.ref (b 0), .int x, .int y] (mdW b ty B N E J ph V rd rest) (some (.long (if (m_in x 0 2 && (m_in y 0 (nI (N 5) - 1) && m_bound (va_up B 2 (d_fo B)) N E x (ix y))) = true then m_sum (va_up B 2 (d_fo B)) N E V x (ix y) else 0))) (mdW b ty (va_up B 2 (d_fo B)) (N) (E) (J) (ph) (V) (rd) rest) := by
  obtain ⟨n0, n1, n2, n3, n4, n5⟩ := id hN
  refine Ct_of (by decide) (gle rfl) (fun p e s m args below meth c K hr hlk hin => ?_)
  refine gx_aload_n K d_Mod_sum_0 rfl rfl ?_
  refine gx_Vdv K (z_Mod_discover I hN) Y_Mod_discover (ci := 12) rfl (q0 := 0) rfl k844 ks51 k842 rfl ⟨gle rfl, gle rfl⟩ ⟨gle rfl, gle rfl⟩ (gle rfl) d_Mod_sum_1 ?_
  refine gx_iload_n K d_Mod_sum_4 rfl rfl ?_
  refine gx_iconst (v := 0) K d_Mod_sum_5 rfl ?_
  refine gx_iconst (v := 2) K d_Mod_sum_6 rfl ?_
  refine gx_Sd K (z_Mod_in _ _ _ _) Y_Mod_in k832 k831 rfl ⟨gle rfl, gle rfl⟩ ⟨gle rfl, gle rfl⟩ (gle rfl) d_Mod_sum_7 ?_
  refine gx_if_eqB K d_Mod_sum_10 rfl (fun h10 => ?_) (fun h10 => ?_)
  · skip
    refine gx_lconst (v := 0) K d_Mod_sum_39 rfl ?_
    exact gx_lret K hr hlk d_Mod_sum_40 ⟨gRl (by simp [h10]), rfl⟩
  · skip
    refine gx_aload_n K d_Mod_sum_13 rfl rfl ?_
    refine gx_iload_n K d_Mod_sum_14 rfl rfl ?_
    refine gx_Vd K (z_Mod_isFact I hN _) Y_Mod_isFact (ci := 12) rfl (q0 := 0) rfl k922 ks59 k920 rfl ⟨gle rfl, gle rfl⟩ ⟨gle rfl, gle rfl⟩ (gle rfl) d_Mod_sum_15 ?_
    refine gx_if_eqB K d_Mod_sum_18 rfl (fun h18 => ?_) (fun h18 => ?_)
    · skip
      refine gx_lconst (v := 0) K d_Mod_sum_39 rfl ?_
      exact gx_lret K hr hlk d_Mod_sum_40 ⟨gRl (by simp [h10, h18]), rfl⟩
    · skip
      have ry : rg y 20 := rg_mono (in_rgN h18 (by omega)) n5
      refine gx_aload_n K d_Mod_sum_21 rfl rfl ?_
      refine gx_iload_n K d_Mod_sum_22 rfl rfl ?_
      refine gx_iload_n K d_Mod_sum_23 rfl rfl ?_
      refine gx_Vd K (z_Mod_bound I hN ry.1 ry.2) Y_Mod_bound (ci := 12) rfl (q0 := 0) rfl k955 ks62 k953 rfl ⟨gle rfl, gle rfl⟩ ⟨gle rfl, gle rfl⟩ (gle rfl) d_Mod_sum_24 ?_
      refine gx_if_eqB K d_Mod_sum_27 rfl (fun h27 => ?_) (fun h27 => ?_)
      · skip
        refine gx_lconst (v := 0) K d_Mod_sum_39 rfl ?_
        exact gx_lret K hr hlk d_Mod_sum_40 ⟨gRl (by simp [h10, h18, h27]), rfl⟩
      · skip
        refine gx_aload_n K d_Mod_sum_30 rfl rfl ?_
        refine gx_iload_n K d_Mod_sum_31 rfl rfl ?_
        refine gx_iload_n K d_Mod_sum_32 rfl rfl ?_
        refine gx_Vd K (z_Mod_sumOf I hN ry.1 ry.2 hV) Y_Mod_sumOf (ci := 12) rfl (q0 := 0) rfl k979 ks68 k977 rfl ⟨gle rfl, gle rfl⟩ ⟨gle rfl, gle rfl⟩ (gle rfl) d_Mod_sum_33 ?_
        refine gx_goto K d_Mod_sum_36 rfl ?_
        exact gx_lret K hr hlk d_Mod_sum_40 ⟨gRl (by simp [h10, h18, h27]), rfl⟩

set_option maxRecDepth 100000 in
set_option maxHeartbeats 1000000 in
theorem z_Mod_problems {l : Launch} {D : va_G} {ty : Nat → ClassId} {tt : Nat} {b : Nat → Nat} {B : Nat → Nat → Bool} {N : Nat → Nat} {E : Nat → Nat → Int32} {J : Nat → Int32} {ph : Bool} {V : Nat → Int64} {rd : Int64} {rest : va_W} (I : mI E) (hN : mN N)  (hV : mV E V) : Cd l y_Mod_problems c_Mod_problems 1 (some .int) 8 D ty tt [.ref (b 0)] (mdW b ty B N E J ph V rd rest) (some (.int (nI (m_probs (va_up B 2 (d_fo B)) N E V).length))) (mdW b ty (va_up (va_up B 2 (d_fo B)) 4 (w_rol (va_up B 2 (d_fo B)) N E 3)) (N) (E) (mJ J (-1) (m_probs (va_up B 2 (d_fo B)) N E V)) (ph) (V) (rd) rest) := by
  obtain ⟨n0, n1, n2, n3, n4, n5⟩ := id hN
  refine Ct_of (by decide) (gle rfl) (fun p e s m args below meth c K hr hlk hin => ?_)
  refine gx_aload_n K d_Mod_problems_0 rfl rfl ?_
  refine gx_iconst (v := -1) K d_Mod_problems_1 rfl ?_
  refine gx_Vd K (z_Mod_all I hN hV) Y_Mod_all (ci := 12) rfl (q0 := 0) rfl k987 ks69 k985 rfl ⟨gle rfl, gle rfl⟩ ⟨gle rfl, gle rfl⟩ (gle rfl) d_Mod_problems_2 ?_
  exact gx_iret K hr hlk d_Mod_problems_5 ⟨rfl, rfl⟩

set_option maxRecDepth 100000 in
set_option maxHeartbeats 1000000 in
theorem z_Mod_problem {l : Launch} {D : va_G} {ty : Nat → ClassId} {tt : Nat} {b : Nat → Nat} {B : Nat → Nat → Bool} {N : Nat → Nat} {E : Nat → Nat → Int32} {J : Nat → Int32} {ph : Bool} {V : Nat → Int64} {rd : Int64} {rest : va_W} (I : mI E) (hN : mN N) (x : Int32) (hV : mV E V) : Cd l y_Mod_problem c_Mod_problem 2 (some .int) 8 D ty tt [.ref (b 0), .int x] (mdW b ty B N E J ph V rd rest) (some (.int (if 0 ≤ x then pa x (m_probs (va_up B 2 (d_fo B)) N E V) else -1))) (if 0 ≤ x then (mdW b ty (va_up (va_up B 2 (d_fo B)) 4 (w_rol (va_up B 2 (d_fo B)) N E 3)) (N) (E) (mJ J (x) (m_probs (va_up B 2 (d_fo B)) N E V)) (ph) (V) (rd) rest) else (mdW b ty B N E J ph V rd rest)) := by
  obtain ⟨n0, n1, n2, n3, n4, n5⟩ := id hN
  refine Ct_of (by decide) (gle rfl) (fun p e s m args below meth c K hr hlk hin => ?_)
  refine gx_iload_n K d_Mod_problem_0 rfl rfl ?_
  refine gx_if_ge K d_Mod_problem_1 rfl (fun h1 => ?_) (fun h1 => ?_)
  · skip
    refine gx_aload_n K d_Mod_problem_6 rfl rfl ?_
    refine gx_iload_n K d_Mod_problem_7 rfl rfl ?_
    refine gx_Vd K (z_Mod_all I hN hV) Y_Mod_all (ci := 12) rfl (q0 := 0) rfl k987 ks69 k985 rfl ⟨gle rfl, gle rfl⟩ ⟨gle rfl, gle rfl⟩ (gle rfl) d_Mod_problem_8 ?_
    refine gx_pop K d_Mod_problem_11 rfl ?_
    refine gx_aload_n K d_Mod_problem_12 rfl rfl ?_
    refine gx_get K f_Mod_226 (q0 := 0) rfl rfl d_Mod_problem_13 ?_
    exact gx_iret K hr hlk d_Mod_problem_16 ⟨gRi (if_pos h1).symm, (if_pos h1).symm⟩
  · skip
    refine gx_iconst (v := -1) K d_Mod_problem_4 rfl ?_
    exact gx_iret K hr hlk d_Mod_problem_5 ⟨gRi (if_neg h1).symm, (if_neg h1).symm⟩

set_option maxRecDepth 100000 in
set_option maxHeartbeats 1000000 in
theorem z_Mod_setting {l : Launch} {D : va_G} {ty : Nat → ClassId} {tt : Nat} {b : Nat → Nat} {B : Nat → Nat → Bool} {N : Nat → Nat} {E : Nat → Nat → Int32} {J : Nat → Int32} {ph : Bool} {V : Nat → Int64} {rd : Int64} {rest : va_W} (I : mI E) (hN : mN N) (x y : Int32) (z : Bool) : Cd l y_Mod_setting c_Mod_setting 4 (some .boolean) 1 D ty tt [.ref (b 0), .int x, .int y, .int (b2i z)] (mdW b ty B N E J ph V rd rest) (some (.int (b2i (k_set x y)))) (if k_set x y = true then (mdW b ty (B) (N) (E) (va_up (va_up J 0 x) 1 y) (z) (V) (rd) rest) else (mdW b ty B N E J ph V rd rest)) := by
  obtain ⟨n0, n1, n2, n3, n4, n5⟩ := id hN
  refine Ct_of (by decide) (gle rfl) (fun p e s m args below meth c K hr hlk hin => ?_)
  refine gx_iload_n K d_Mod_setting_0 rfl rfl ?_
  refine gx_iconst (v := 0) K d_Mod_setting_1 rfl ?_
  refine gx_iconst (v := 2) K d_Mod_setting_2 rfl ?_
  refine gx_Sd K (z_Mod_in _ _ _ _) Y_Mod_in k832 k831 rfl ⟨gle rfl, gle rfl⟩ ⟨gle rfl, gle rfl⟩ (gle rfl) d_Mod_setting_3 ?_
  refine gx_if_eqB K d_Mod_setting_6 rfl (fun h6 => ?_) (fun h6 => ?_)
  · skip
    refine gx_iconst (v := b2i false) K d_Mod_setting_19 rfl ?_
    exact gx_zret K hr hlk d_Mod_setting_20 ⟨gRb (by simp [k_set, h6] <;> simp_all), (if_neg (by simp [k_set, h6] <;> simp_all)).symm⟩
  · skip
    refine gx_iload_n K d_Mod_setting_9 rfl rfl ?_
    refine gx_iconst (v := 0) K d_Mod_setting_10 rfl ?_
    refine gx_bipush (v := 9) K d_Mod_setting_11 rfl ?_
    refine gx_Sd K (z_Mod_in _ _ _ _) Y_Mod_in k832 k831 rfl ⟨gle rfl, gle rfl⟩ ⟨gle rfl, gle rfl⟩ (gle rfl) d_Mod_setting_13 ?_
    refine gx_if_neB K d_Mod_setting_16 rfl (fun h16 => ?_) (fun h16 => ?_)
    · skip
      refine gx_aload_n K d_Mod_setting_21 rfl rfl ?_
      refine gx_iload_n K d_Mod_setting_22 rfl rfl ?_
      refine gx_put K f_Mod_126 ft_Mod rfl (q0 := 0) rfl rfl rfl (gle rfl) d_Mod_setting_23 ?_
      refine gx_aload_n K d_Mod_setting_26 rfl rfl ?_
      refine gx_iload_n K d_Mod_setting_27 rfl rfl ?_
      refine gx_put K f_Mod_129 ft_Mod rfl (q0 := 0) rfl rfl rfl (gle rfl) d_Mod_setting_28 ?_
      refine gx_aload_n K d_Mod_setting_31 rfl rfl ?_
      refine gx_iload_n K d_Mod_setting_32 rfl rfl ?_
      refine gx_put K f_Mod_132 ft_Mod rfl (q0 := 0) rfl (b2i_narrow _) (b2i_fits _) (gle rfl) d_Mod_setting_33 ?_
      refine gx_iconst (v := b2i true) K d_Mod_setting_36 rfl ?_
      exact gx_zret K hr hlk d_Mod_setting_37 ⟨gRb (by simp [k_set, h6, h16] <;> simp_all), (if_pos (by simp [k_set, h6, h16] <;> simp_all)).symm⟩
    · skip
      refine gx_iconst (v := b2i false) K d_Mod_setting_19 rfl ?_
      exact gx_zret K hr hlk d_Mod_setting_20 ⟨gRb (by simp [k_set, h6, h16] <;> simp_all), (if_neg (by simp [k_set, h6, h16] <;> simp_all)).symm⟩

set_option maxRecDepth 100000 in
set_option maxHeartbeats 1000000 in
theorem z_Mod_concept {l : Launch} {D : va_G} {ty : Nat → ClassId} {tt : Nat} {b : Nat → Nat} {B : Nat → Nat → Bool} {N : Nat → Nat} {E : Nat → Nat → Int32} {J : Nat → Int32} {ph : Bool} {V : Nat → Int64} {rd : Int64} {rest : va_W} (I : mI E) (hN : mN N) (x y z v : Int32) : Cd l y_Mod_concept c_Mod_concept 6 (some .int) 1 D ty tt [.ref (b 0), .int x, .int y, .int z, .int v] (mdW b ty B N E J ph V rd rest) (some (.int (if k_con N x y z v = true then nI (N 0) else -1))) (if k_con N x y z v = true then (mdW b ty (B) (va_up N 0 (N 0 + 1)) (e_con E (N 0) x y z v) (J) (ph) (V) (rd) rest) else (mdW b ty B N E J ph V rd rest)) := by
  obtain ⟨n0, n1, n2, n3, n4, n5⟩ := id hN
  refine Ct_of (by decide) (gle rfl) (fun p e s m args below meth c K hr hlk hin => ?_)
  refine gx_cut (X := decide (z = 0) || (decide (y = 2) && m_in z 1 2)) 23 ?_ (fun j23 => ?_)
  · skip
    refine gx_istore K d_Mod_concept_23 (gle rfl) rfl ?_
    refine gx_iload_n K d_Mod_concept_25 rfl rfl ?_
    refine gx_iconst (v := 0) K d_Mod_concept_26 rfl ?_
    refine gx_bipush (v := 7) K d_Mod_concept_27 rfl ?_
    refine gx_Sd K (z_Mod_in _ _ _ _) Y_Mod_in k832 k831 rfl ⟨gle rfl, gle rfl⟩ ⟨gle rfl, gle rfl⟩ (gle rfl) d_Mod_concept_29 ?_
    refine gx_if_eqB K d_Mod_concept_32 rfl (fun h32 => ?_) (fun h32 => ?_)
    · skip
      refine gx_iconst (v := -1) K d_Mod_concept_68 rfl ?_
      exact gx_iret K hr hlk d_Mod_concept_69 ⟨gRi (if_neg (by simp [k_con, h32] <;> simp_all)).symm, (if_neg (by simp [k_con, h32] <;> simp_all)).symm⟩
    · skip
      refine gx_iload_n K d_Mod_concept_35 rfl rfl ?_
      refine gx_iconst (v := 0) K d_Mod_concept_36 rfl ?_
      refine gx_iconst (v := 2) K d_Mod_concept_37 rfl ?_
      refine gx_Sd K (z_Mod_in _ _ _ _) Y_Mod_in k832 k831 rfl ⟨gle rfl, gle rfl⟩ ⟨gle rfl, gle rfl⟩ (gle rfl) d_Mod_concept_38 ?_
      refine gx_if_eqB K d_Mod_concept_41 rfl (fun h41 => ?_) (fun h41 => ?_)
      · skip
        refine gx_iconst (v := -1) K d_Mod_concept_68 rfl ?_
        exact gx_iret K hr hlk d_Mod_concept_69 ⟨gRi (if_neg (by simp [k_con, h32, h41] <;> simp_all)).symm, (if_neg (by simp [k_con, h32, h41] <;> simp_all)).symm⟩
      · skip
        refine gx_iload K d_Mod_concept_44 rfl ?_
        refine gx_if_eqB K d_Mod_concept_46 rfl (fun h46 => ?_) (fun h46 => ?_)
        · skip
          refine gx_iconst (v := -1) K d_Mod_concept_68 rfl ?_
          exact gx_iret K hr hlk d_Mod_concept_69 ⟨gRi (if_neg (by simp [k_con, h32, h41, h46] <;> simp_all)).symm, (if_neg (by simp [k_con, h32, h41, h46] <;> simp_all)).symm⟩
        · skip
          refine gx_iload K d_Mod_concept_49 rfl ?_
          refine gx_iconst (v := 0) K d_Mod_concept_51 rfl ?_
          refine gx_iconst (v := 1) K d_Mod_concept_52 rfl ?_
          refine gx_Sd K (z_Mod_in _ _ _ _) Y_Mod_in k832 k831 rfl ⟨gle rfl, gle rfl⟩ ⟨gle rfl, gle rfl⟩ (gle rfl) d_Mod_concept_53 ?_
          refine gx_if_eqB K d_Mod_concept_56 rfl (fun h56 => ?_) (fun h56 => ?_)
          · skip
            refine gx_iconst (v := -1) K d_Mod_concept_68 rfl ?_
            exact gx_iret K hr hlk d_Mod_concept_69 ⟨gRi (if_neg (by simp [k_con, h32, h41, h46, h56] <;> simp_all)).symm, (if_neg (by simp [k_con, h32, h41, h46, h56] <;> simp_all)).symm⟩
          · skip
            refine gx_aload_n K d_Mod_concept_59 rfl rfl ?_
            refine gx_get K f_Mod_109 (q0 := 0) rfl rfl d_Mod_concept_60 ?_
            refine gx_bipush (v := 16) K d_Mod_concept_63 rfl ?_
            refine gx_icmp_lt K d_Mod_concept_65 rfl (fun h65 => ?_) (fun h65 => ?_)
            · skip
              have h65n : N 0 < 16 := (nI_ltI (a := N 0) (b := 16) (by omega) (by omega)).mp h65
              refine gx_aload_n K d_Mod_concept_70 rfl rfl ?_
              refine gx_get K f_Mod_19 (q0 := 0) rfl rfl d_Mod_concept_71 ?_
              refine gx_aload_n K d_Mod_concept_74 rfl rfl ?_
              refine gx_get K f_Mod_109 (q0 := 0) rfl rfl d_Mod_concept_75 ?_
              refine gx_iload_n K d_Mod_concept_78 rfl rfl ?_
              refine gx_iast K (q0 := 4) rfl rfl (by omega) (by decide) d_Mod_concept_79 ?_
              refine gx_aload_n K d_Mod_concept_80 rfl rfl ?_
              refine gx_get K f_Mod_23 (q0 := 0) rfl rfl d_Mod_concept_81 ?_
              refine gx_aload_n K d_Mod_concept_84 rfl rfl ?_
              refine gx_get K f_Mod_109 (q0 := 0) rfl rfl d_Mod_concept_85 ?_
              refine gx_iload_n K d_Mod_concept_88 rfl rfl ?_
              refine gx_iast K (q0 := 5) rfl rfl (by omega) (by decide) d_Mod_concept_89 ?_
              refine gx_aload_n K d_Mod_concept_90 rfl rfl ?_
              refine gx_get K f_Mod_26 (q0 := 0) rfl rfl d_Mod_concept_91 ?_
              refine gx_aload_n K d_Mod_concept_94 rfl rfl ?_
              refine gx_get K f_Mod_109 (q0 := 0) rfl rfl d_Mod_concept_95 ?_
              refine gx_iload_n K d_Mod_concept_98 rfl rfl ?_
              refine gx_iast K (q0 := 6) rfl rfl (by omega) (by decide) d_Mod_concept_99 ?_
              refine gx_aload_n K d_Mod_concept_100 rfl rfl ?_
              refine gx_get K f_Mod_29 (q0 := 0) rfl rfl d_Mod_concept_101 ?_
              refine gx_aload_n K d_Mod_concept_104 rfl rfl ?_
              refine gx_get K f_Mod_109 (q0 := 0) rfl rfl d_Mod_concept_105 ?_
              refine gx_iload K d_Mod_concept_108 rfl ?_
              refine gx_iast K (q0 := 7) rfl rfl (by omega) (by decide) d_Mod_concept_110 ?_
              refine gx_aload_n K d_Mod_concept_111 rfl rfl ?_
              refine gx_aload_n K d_Mod_concept_112 rfl rfl ?_
              refine gx_get K f_Mod_109 (q0 := 0) rfl rfl d_Mod_concept_113 ?_
              refine gx_iconst (v := 1) K d_Mod_concept_116 rfl ?_
              refine gx_iaddN K (N 0) (1) d_Mod_concept_117 ?_
              refine gx_put K f_Mod_109 ft_Mod rfl (q0 := 0) rfl rfl rfl (gle rfl) d_Mod_concept_118 ?_
              refine gx_aload_n K d_Mod_concept_121 rfl rfl ?_
              refine gx_get K f_Mod_109 (q0 := 0) rfl rfl d_Mod_concept_122 ?_
              refine gx_iconst (v := 1) K d_Mod_concept_125 rfl ?_
              refine gx_isub K d_Mod_concept_126 ?_
              exact gx_iret K hr hlk d_Mod_concept_127 ⟨gRi ((nI_pred _).trans (if_pos (by simp [k_con, h32, h41, h46, h56, h65, h65n, Nat.not_le.mpr h65n, Int32.not_le.mpr h65] <;> simp_all)).symm), (if_pos (by simp [k_con, h32, h41, h46, h56, h65, h65n, Nat.not_le.mpr h65n, Int32.not_le.mpr h65] <;> simp_all)).symm⟩
            · skip
              have h65n : ¬ N 0 < 16 := fun q => h65 ((nI_ltI (a := N 0) (b := 16) (by omega) (by omega)).mpr q)
              refine gx_iconst (v := -1) K d_Mod_concept_68 rfl ?_
              exact gx_iret K hr hlk d_Mod_concept_69 ⟨gRi (if_neg (by simp [k_con, h32, h41, h46, h56, h65, h65n, Nat.not_lt.mp h65n, Int32.not_lt.mp h65] <;> simp_all)).symm, (if_neg (by simp [k_con, h32, h41, h46, h56, h65, h65n, Nat.not_lt.mp h65n, Int32.not_lt.mp h65] <;> simp_all)).symm⟩
  · skip
    refine gx_iload_n K d_Mod_concept_0 rfl rfl ?_
    refine gx_if_eq K d_Mod_concept_1 rfl (fun h1 => ?_) (fun h1 => ?_)
    · skip
      refine gx_iconst (v := b2i true) K d_Mod_concept_18 rfl ?_
      refine gx_goto K d_Mod_concept_19 rfl ?_
      exact j23 _ (by simp [h1])
    · skip
      refine gx_iload_n K d_Mod_concept_4 rfl rfl ?_
      refine gx_iconst (v := 2) K d_Mod_concept_5 rfl ?_
      refine gx_icmp_ne K d_Mod_concept_6 rfl (fun h6 => ?_) (fun h6 => ?_)
      · skip
        refine gx_iconst (v := b2i false) K d_Mod_concept_22 rfl ?_
        exact j23 _ (by simp [h1, h6])
      · skip
        refine gx_iload_n K d_Mod_concept_9 rfl rfl ?_
        refine gx_iconst (v := 1) K d_Mod_concept_10 rfl ?_
        refine gx_iconst (v := 2) K d_Mod_concept_11 rfl ?_
        refine gx_Sd K (z_Mod_in _ _ _ _) Y_Mod_in k832 k831 rfl ⟨gle rfl, gle rfl⟩ ⟨gle rfl, gle rfl⟩ (gle rfl) d_Mod_concept_12 ?_
        refine gx_if_eqB K d_Mod_concept_15 rfl (fun h15 => ?_) (fun h15 => ?_)
        · skip
          refine gx_iconst (v := b2i false) K d_Mod_concept_22 rfl ?_
          exact j23 _ (by simp [h1, h6, h15])
        · skip
          refine gx_iconst (v := b2i true) K d_Mod_concept_18 rfl ?_
          refine gx_goto K d_Mod_concept_19 rfl ?_
          exact j23 _ (by simp [h1, h6, h15])

set_option maxRecDepth 100000 in
set_option maxHeartbeats 1000000 in
theorem z_Mod_context {l : Launch} {D : va_G} {ty : Nat → ClassId} {tt : Nat} {b : Nat → Nat} {B : Nat → Nat → Bool} {N : Nat → Nat} {E : Nat → Nat → Int32} {J : Nat → Int32} {ph : Bool} {V : Nat → Int64} {rd : Int64} {rest : va_W} (I : mI E) (hN : mN N) (x y z v : Int32) : Cd l y_Mod_context c_Mod_context 6 (some .int) 1 D ty tt [.ref (b 0), .int x, .int y, .int z, .int v] (mdW b ty B N E J ph V rd rest) (some (.int (if k_ctx N x y z v = true then nI (N 2) else -1))) (if k_ctx N x y z v = true then (mdW b ty (B) (va_up N 2 (N 2 + 1)) (e_ctx E (N 2) x y z v) (J) (ph) (V) (rd) rest) else (mdW b ty B N E J ph V rd rest)) := by
  obtain ⟨n0, n1, n2, n3, n4, n5⟩ := id hN
  refine Ct_of (by decide) (gle rfl) (fun p e s m args below meth c K hr hlk hin => ?_)
  refine gx_cut (X := m_in z 0 9999 && (decide (y = -1) || (m_in y 0 9999 && decide (y < z)))) 37 ?_ (fun j37 => ?_)
  · skip
    refine gx_istore K d_Mod_context_37 (gle rfl) rfl ?_
    refine gx_iload_n K d_Mod_context_39 rfl rfl ?_
    refine gx_iconst (v := 0) K d_Mod_context_40 rfl ?_
    refine gx_bipush (v := 9) K d_Mod_context_41 rfl ?_
    refine gx_Sd K (z_Mod_in _ _ _ _) Y_Mod_in k832 k831 rfl ⟨gle rfl, gle rfl⟩ ⟨gle rfl, gle rfl⟩ (gle rfl) d_Mod_context_43 ?_
    refine gx_if_eqB K d_Mod_context_46 rfl (fun h46 => ?_) (fun h46 => ?_)
    · skip
      refine gx_iconst (v := -1) K d_Mod_context_74 rfl ?_
      exact gx_iret K hr hlk d_Mod_context_75 ⟨gRi (if_neg (by simp [k_ctx, h46] <;> simp_all)).symm, (if_neg (by simp [k_ctx, h46] <;> simp_all)).symm⟩
    · skip
      refine gx_iload K d_Mod_context_49 rfl ?_
      refine gx_iconst (v := 0) K d_Mod_context_51 rfl ?_
      refine gx_bipush (v := 9) K d_Mod_context_52 rfl ?_
      refine gx_Sd K (z_Mod_in _ _ _ _) Y_Mod_in k832 k831 rfl ⟨gle rfl, gle rfl⟩ ⟨gle rfl, gle rfl⟩ (gle rfl) d_Mod_context_54 ?_
      refine gx_if_eqB K d_Mod_context_57 rfl (fun h57 => ?_) (fun h57 => ?_)
      · skip
        refine gx_iconst (v := -1) K d_Mod_context_74 rfl ?_
        exact gx_iret K hr hlk d_Mod_context_75 ⟨gRi (if_neg (by simp [k_ctx, h46, h57] <;> simp_all)).symm, (if_neg (by simp [k_ctx, h46, h57] <;> simp_all)).symm⟩
      · skip
        refine gx_iload K d_Mod_context_60 rfl ?_
        refine gx_if_eqB K d_Mod_context_62 rfl (fun h62 => ?_) (fun h62 => ?_)
        · skip
          refine gx_iconst (v := -1) K d_Mod_context_74 rfl ?_
          exact gx_iret K hr hlk d_Mod_context_75 ⟨gRi (if_neg (by simp [k_ctx, h46, h57, h62] <;> simp_all)).symm, (if_neg (by simp [k_ctx, h46, h57, h62] <;> simp_all)).symm⟩
        · skip
          refine gx_aload_n K d_Mod_context_65 rfl rfl ?_
          refine gx_get K f_Mod_113 (q0 := 0) rfl rfl d_Mod_context_66 ?_
          refine gx_bipush (v := 12) K d_Mod_context_69 rfl ?_
          refine gx_icmp_lt K d_Mod_context_71 rfl (fun h71 => ?_) (fun h71 => ?_)
          · skip
            have h71n : N 2 < 12 := (nI_ltI (a := N 2) (b := 12) (by omega) (by omega)).mp h71
            refine gx_aload_n K d_Mod_context_76 rfl rfl ?_
            refine gx_get K f_Mod_56 (q0 := 0) rfl rfl d_Mod_context_77 ?_
            refine gx_aload_n K d_Mod_context_80 rfl rfl ?_
            refine gx_get K f_Mod_113 (q0 := 0) rfl rfl d_Mod_context_81 ?_
            refine gx_iload_n K d_Mod_context_84 rfl rfl ?_
            refine gx_iast K (q0 := 16) rfl rfl (by omega) (by decide) d_Mod_context_85 ?_
            refine gx_aload_n K d_Mod_context_86 rfl rfl ?_
            refine gx_get K f_Mod_59 (q0 := 0) rfl rfl d_Mod_context_87 ?_
            refine gx_aload_n K d_Mod_context_90 rfl rfl ?_
            refine gx_get K f_Mod_113 (q0 := 0) rfl rfl d_Mod_context_91 ?_
            refine gx_iload_n K d_Mod_context_94 rfl rfl ?_
            refine gx_iast K (q0 := 17) rfl rfl (by omega) (by decide) d_Mod_context_95 ?_
            refine gx_aload_n K d_Mod_context_96 rfl rfl ?_
            refine gx_get K f_Mod_62 (q0 := 0) rfl rfl d_Mod_context_97 ?_
            refine gx_aload_n K d_Mod_context_100 rfl rfl ?_
            refine gx_get K f_Mod_113 (q0 := 0) rfl rfl d_Mod_context_101 ?_
            refine gx_iload_n K d_Mod_context_104 rfl rfl ?_
            refine gx_iast K (q0 := 18) rfl rfl (by omega) (by decide) d_Mod_context_105 ?_
            refine gx_aload_n K d_Mod_context_106 rfl rfl ?_
            refine gx_get K f_Mod_65 (q0 := 0) rfl rfl d_Mod_context_107 ?_
            refine gx_aload_n K d_Mod_context_110 rfl rfl ?_
            refine gx_get K f_Mod_113 (q0 := 0) rfl rfl d_Mod_context_111 ?_
            refine gx_iload K d_Mod_context_114 rfl ?_
            refine gx_iast K (q0 := 19) rfl rfl (by omega) (by decide) d_Mod_context_116 ?_
            refine gx_aload_n K d_Mod_context_117 rfl rfl ?_
            refine gx_aload_n K d_Mod_context_118 rfl rfl ?_
            refine gx_get K f_Mod_113 (q0 := 0) rfl rfl d_Mod_context_119 ?_
            refine gx_iconst (v := 1) K d_Mod_context_122 rfl ?_
            refine gx_iaddN K (N 2) (1) d_Mod_context_123 ?_
            refine gx_put K f_Mod_113 ft_Mod rfl (q0 := 0) rfl rfl rfl (gle rfl) d_Mod_context_124 ?_
            refine gx_aload_n K d_Mod_context_127 rfl rfl ?_
            refine gx_get K f_Mod_113 (q0 := 0) rfl rfl d_Mod_context_128 ?_
            refine gx_iconst (v := 1) K d_Mod_context_131 rfl ?_
            refine gx_isub K d_Mod_context_132 ?_
            exact gx_iret K hr hlk d_Mod_context_133 ⟨gRi ((nI_pred _).trans (if_pos (by simp [k_ctx, h46, h57, h62, h71, h71n, Nat.not_le.mpr h71n, Int32.not_le.mpr h71] <;> simp_all)).symm), (if_pos (by simp [k_ctx, h46, h57, h62, h71, h71n, Nat.not_le.mpr h71n, Int32.not_le.mpr h71] <;> simp_all)).symm⟩
          · skip
            have h71n : ¬ N 2 < 12 := fun q => h71 ((nI_ltI (a := N 2) (b := 12) (by omega) (by omega)).mpr q)
            refine gx_iconst (v := -1) K d_Mod_context_74 rfl ?_
            exact gx_iret K hr hlk d_Mod_context_75 ⟨gRi (if_neg (by simp [k_ctx, h46, h57, h62, h71, h71n, Nat.not_lt.mp h71n, Int32.not_lt.mp h71] <;> simp_all)).symm, (if_neg (by simp [k_ctx, h46, h57, h62, h71, h71n, Nat.not_lt.mp h71n, Int32.not_lt.mp h71] <;> simp_all)).symm⟩
  · skip
    refine gx_iload_n K d_Mod_context_0 rfl rfl ?_
    refine gx_iconst (v := 0) K d_Mod_context_1 rfl ?_
    refine gx_sipush (v := 9999) K d_Mod_context_2 rfl ?_
    refine gx_Sd K (z_Mod_in _ _ _ _) Y_Mod_in k832 k831 rfl ⟨gle rfl, gle rfl⟩ ⟨gle rfl, gle rfl⟩ (gle rfl) d_Mod_context_5 ?_
    refine gx_if_eqB K d_Mod_context_8 rfl (fun h8 => ?_) (fun h8 => ?_)
    · skip
      refine gx_iconst (v := b2i false) K d_Mod_context_36 rfl ?_
      exact j37 _ (by simp [h8])
    · skip
      refine gx_iload_n K d_Mod_context_11 rfl rfl ?_
      refine gx_iconst (v := -1) K d_Mod_context_12 rfl ?_
      refine gx_icmp_eq K d_Mod_context_13 rfl (fun h13 => ?_) (fun h13 => ?_)
      · skip
        refine gx_iconst (v := b2i true) K d_Mod_context_32 rfl ?_
        refine gx_goto K d_Mod_context_33 rfl ?_
        exact j37 _ (by simp [h8, h13])
      · skip
        refine gx_iload_n K d_Mod_context_16 rfl rfl ?_
        refine gx_iconst (v := 0) K d_Mod_context_17 rfl ?_
        refine gx_sipush (v := 9999) K d_Mod_context_18 rfl ?_
        refine gx_Sd K (z_Mod_in _ _ _ _) Y_Mod_in k832 k831 rfl ⟨gle rfl, gle rfl⟩ ⟨gle rfl, gle rfl⟩ (gle rfl) d_Mod_context_21 ?_
        refine gx_if_eqB K d_Mod_context_24 rfl (fun h24 => ?_) (fun h24 => ?_)
        · skip
          refine gx_iconst (v := b2i false) K d_Mod_context_36 rfl ?_
          exact j37 _ (by simp [h8, h13, h24])
        · skip
          refine gx_iload_n K d_Mod_context_27 rfl rfl ?_
          refine gx_iload_n K d_Mod_context_28 rfl rfl ?_
          refine gx_icmp_ge K d_Mod_context_29 rfl (fun h29 => ?_) (fun h29 => ?_)
          · skip
            refine gx_iconst (v := b2i false) K d_Mod_context_36 rfl ?_
            exact j37 _ (by simp [h8, h13, h24, h29, Int32.not_lt.mpr h29])
          · skip
            refine gx_iconst (v := b2i true) K d_Mod_context_32 rfl ?_
            refine gx_goto K d_Mod_context_33 rfl ?_
            exact j37 _ (by simp [h8, h13, h24, h29, Int32.not_le.mp h29])

set_option maxRecDepth 100000 in
set_option maxHeartbeats 1000000 in
theorem z_Mod_unit {l : Launch} {D : va_G} {ty : Nat → ClassId} {tt : Nat} {b : Nat → Nat} {B : Nat → Nat → Bool} {N : Nat → Nat} {E : Nat → Nat → Int32} {J : Nat → Int32} {ph : Bool} {V : Nat → Int64} {rd : Int64} {rest : va_W} (I : mI E) (hN : mN N) (x y z : Int32) : Cd l y_Mod_unit c_Mod_unit 4 (some .int) 1 D ty tt [.ref (b 0), .int x, .int y, .int z] (mdW b ty B N E J ph V rd rest) (some (.int (if k_uni N x y z = true then nI (N 3) else -1))) (if k_uni N x y z = true then (mdW b ty (B) (va_up N 3 (N 3 + 1)) (e_uni E (N 3) x y z) (J) (ph) (V) (rd) rest) else (mdW b ty B N E J ph V rd rest)) := by
  obtain ⟨n0, n1, n2, n3, n4, n5⟩ := id hN
  refine Ct_of (by decide) (gle rfl) (fun p e s m args below meth c K hr hlk hin => ?_)
  refine gx_iload_n K d_Mod_unit_0 rfl rfl ?_
  refine gx_iconst (v := 1) K d_Mod_unit_1 rfl ?_
  refine gx_bipush (v := 9) K d_Mod_unit_2 rfl ?_
  refine gx_Sd K (z_Mod_in _ _ _ _) Y_Mod_in k832 k831 rfl ⟨gle rfl, gle rfl⟩ ⟨gle rfl, gle rfl⟩ (gle rfl) d_Mod_unit_4 ?_
  refine gx_if_eqB K d_Mod_unit_7 rfl (fun h7 => ?_) (fun h7 => ?_)
  · skip
    refine gx_iconst (v := -1) K d_Mod_unit_53 rfl ?_
    exact gx_iret K hr hlk d_Mod_unit_54 ⟨gRi (if_neg (by simp [k_uni, h7] <;> simp_all)).symm, (if_neg (by simp [k_uni, h7] <;> simp_all)).symm⟩
  · skip
    refine gx_iload_n K d_Mod_unit_10 rfl rfl ?_
    refine gx_iconst (v := 0) K d_Mod_unit_11 rfl ?_
    refine gx_bipush (v := 9) K d_Mod_unit_12 rfl ?_
    refine gx_Sd K (z_Mod_in _ _ _ _) Y_Mod_in k832 k831 rfl ⟨gle rfl, gle rfl⟩ ⟨gle rfl, gle rfl⟩ (gle rfl) d_Mod_unit_14 ?_
    refine gx_if_eqB K d_Mod_unit_17 rfl (fun h17 => ?_) (fun h17 => ?_)
    · skip
      refine gx_iconst (v := -1) K d_Mod_unit_53 rfl ?_
      exact gx_iret K hr hlk d_Mod_unit_54 ⟨gRi (if_neg (by simp [k_uni, h7, h17] <;> simp_all)).symm, (if_neg (by simp [k_uni, h7, h17] <;> simp_all)).symm⟩
    · skip
      refine gx_iload_n K d_Mod_unit_20 rfl rfl ?_
      refine gx_iconst (v := 0) K d_Mod_unit_21 rfl ?_
      refine gx_bipush (v := 9) K d_Mod_unit_22 rfl ?_
      refine gx_Sd K (z_Mod_in _ _ _ _) Y_Mod_in k832 k831 rfl ⟨gle rfl, gle rfl⟩ ⟨gle rfl, gle rfl⟩ (gle rfl) d_Mod_unit_24 ?_
      refine gx_if_eqB K d_Mod_unit_27 rfl (fun h27 => ?_) (fun h27 => ?_)
      · skip
        refine gx_iconst (v := -1) K d_Mod_unit_53 rfl ?_
        exact gx_iret K hr hlk d_Mod_unit_54 ⟨gRi (if_neg (by simp [k_uni, h7, h17, h27] <;> simp_all)).symm, (if_neg (by simp [k_uni, h7, h17, h27] <;> simp_all)).symm⟩
      · skip
        refine gx_iload_n K d_Mod_unit_30 rfl rfl ?_
        refine gx_if_eq K d_Mod_unit_31 rfl (fun h31 => ?_) (fun h31 => ?_)
        · skip
          refine gx_aload_n K d_Mod_unit_44 rfl rfl ?_
          refine gx_get K f_Mod_120 (q0 := 0) rfl rfl d_Mod_unit_45 ?_
          refine gx_bipush (v := 8) K d_Mod_unit_48 rfl ?_
          refine gx_icmp_lt K d_Mod_unit_50 rfl (fun h50 => ?_) (fun h50 => ?_)
          · skip
            have h50n : N 3 < 8 := (nI_ltI (a := N 3) (b := 8) (by omega) (by omega)).mp h50
            refine gx_aload_n K d_Mod_unit_55 rfl rfl ?_
            refine gx_get K f_Mod_68 (q0 := 0) rfl rfl d_Mod_unit_56 ?_
            refine gx_aload_n K d_Mod_unit_59 rfl rfl ?_
            refine gx_get K f_Mod_120 (q0 := 0) rfl rfl d_Mod_unit_60 ?_
            refine gx_iload_n K d_Mod_unit_63 rfl rfl ?_
            refine gx_iast K (q0 := 20) rfl rfl (by omega) (by decide) d_Mod_unit_64 ?_
            refine gx_aload_n K d_Mod_unit_65 rfl rfl ?_
            refine gx_get K f_Mod_71 (q0 := 0) rfl rfl d_Mod_unit_66 ?_
            refine gx_aload_n K d_Mod_unit_69 rfl rfl ?_
            refine gx_get K f_Mod_120 (q0 := 0) rfl rfl d_Mod_unit_70 ?_
            refine gx_iload_n K d_Mod_unit_73 rfl rfl ?_
            refine gx_iast K (q0 := 21) rfl rfl (by omega) (by decide) d_Mod_unit_74 ?_
            refine gx_aload_n K d_Mod_unit_75 rfl rfl ?_
            refine gx_get K f_Mod_74 (q0 := 0) rfl rfl d_Mod_unit_76 ?_
            refine gx_aload_n K d_Mod_unit_79 rfl rfl ?_
            refine gx_get K f_Mod_120 (q0 := 0) rfl rfl d_Mod_unit_80 ?_
            refine gx_iload_n K d_Mod_unit_83 rfl rfl ?_
            refine gx_iast K (q0 := 22) rfl rfl (by omega) (by decide) d_Mod_unit_84 ?_
            refine gx_aload_n K d_Mod_unit_85 rfl rfl ?_
            refine gx_aload_n K d_Mod_unit_86 rfl rfl ?_
            refine gx_get K f_Mod_120 (q0 := 0) rfl rfl d_Mod_unit_87 ?_
            refine gx_iconst (v := 1) K d_Mod_unit_90 rfl ?_
            refine gx_iaddN K (N 3) (1) d_Mod_unit_91 ?_
            refine gx_put K f_Mod_120 ft_Mod rfl (q0 := 0) rfl rfl rfl (gle rfl) d_Mod_unit_92 ?_
            refine gx_aload_n K d_Mod_unit_95 rfl rfl ?_
            refine gx_get K f_Mod_120 (q0 := 0) rfl rfl d_Mod_unit_96 ?_
            refine gx_iconst (v := 1) K d_Mod_unit_99 rfl ?_
            refine gx_isub K d_Mod_unit_100 ?_
            exact gx_iret K hr hlk d_Mod_unit_101 ⟨gRi ((nI_pred _).trans (if_pos (by simp [k_uni, h7, h17, h27, h31, h50, h50n, Nat.not_le.mpr h50n, Int32.not_le.mpr h50] <;> simp_all)).symm), (if_pos (by simp [k_uni, h7, h17, h27, h31, h50, h50n, Nat.not_le.mpr h50n, Int32.not_le.mpr h50] <;> simp_all)).symm⟩
          · skip
            have h50n : ¬ N 3 < 8 := fun q => h50 ((nI_ltI (a := N 3) (b := 8) (by omega) (by omega)).mpr q)
            refine gx_iconst (v := -1) K d_Mod_unit_53 rfl ?_
            exact gx_iret K hr hlk d_Mod_unit_54 ⟨gRi (if_neg (by simp [k_uni, h7, h17, h27, h31, h50, h50n, Nat.not_lt.mp h50n, Int32.not_lt.mp h50] <;> simp_all)).symm, (if_neg (by simp [k_uni, h7, h17, h27, h31, h50, h50n, Nat.not_lt.mp h50n, Int32.not_lt.mp h50] <;> simp_all)).symm⟩
        · skip
          refine gx_iload_n K d_Mod_unit_34 rfl rfl ?_
          refine gx_iload_n K d_Mod_unit_35 rfl rfl ?_
          refine gx_icmp_eq K d_Mod_unit_36 rfl (fun h36 => ?_) (fun h36 => ?_)
          · skip
            refine gx_iconst (v := -1) K d_Mod_unit_53 rfl ?_
            exact gx_iret K hr hlk d_Mod_unit_54 ⟨gRi (if_neg (by simp [k_uni, h7, h17, h27, h31, h36] <;> simp_all)).symm, (if_neg (by simp [k_uni, h7, h17, h27, h31, h36] <;> simp_all)).symm⟩
          · skip
            refine gx_iload_n K d_Mod_unit_39 rfl rfl ?_
            refine gx_iload_n K d_Mod_unit_40 rfl rfl ?_
            refine gx_icmp_eq K d_Mod_unit_41 rfl (fun h41 => ?_) (fun h41 => ?_)
            · skip
              refine gx_iconst (v := -1) K d_Mod_unit_53 rfl ?_
              exact gx_iret K hr hlk d_Mod_unit_54 ⟨gRi (if_neg (by simp [k_uni, h7, h17, h27, h31, h36, h41] <;> simp_all)).symm, (if_neg (by simp [k_uni, h7, h17, h27, h31, h36, h41] <;> simp_all)).symm⟩
            · skip
              refine gx_aload_n K d_Mod_unit_44 rfl rfl ?_
              refine gx_get K f_Mod_120 (q0 := 0) rfl rfl d_Mod_unit_45 ?_
              refine gx_bipush (v := 8) K d_Mod_unit_48 rfl ?_
              refine gx_icmp_lt K d_Mod_unit_50 rfl (fun h50 => ?_) (fun h50 => ?_)
              · skip
                have h50n : N 3 < 8 := (nI_ltI (a := N 3) (b := 8) (by omega) (by omega)).mp h50
                refine gx_aload_n K d_Mod_unit_55 rfl rfl ?_
                refine gx_get K f_Mod_68 (q0 := 0) rfl rfl d_Mod_unit_56 ?_
                refine gx_aload_n K d_Mod_unit_59 rfl rfl ?_
                refine gx_get K f_Mod_120 (q0 := 0) rfl rfl d_Mod_unit_60 ?_
                refine gx_iload_n K d_Mod_unit_63 rfl rfl ?_
                refine gx_iast K (q0 := 20) rfl rfl (by omega) (by decide) d_Mod_unit_64 ?_
                refine gx_aload_n K d_Mod_unit_65 rfl rfl ?_
                refine gx_get K f_Mod_71 (q0 := 0) rfl rfl d_Mod_unit_66 ?_
                refine gx_aload_n K d_Mod_unit_69 rfl rfl ?_
                refine gx_get K f_Mod_120 (q0 := 0) rfl rfl d_Mod_unit_70 ?_
                refine gx_iload_n K d_Mod_unit_73 rfl rfl ?_
                refine gx_iast K (q0 := 21) rfl rfl (by omega) (by decide) d_Mod_unit_74 ?_
                refine gx_aload_n K d_Mod_unit_75 rfl rfl ?_
                refine gx_get K f_Mod_74 (q0 := 0) rfl rfl d_Mod_unit_76 ?_
                refine gx_aload_n K d_Mod_unit_79 rfl rfl ?_
                refine gx_get K f_Mod_120 (q0 := 0) rfl rfl d_Mod_unit_80 ?_
                refine gx_iload_n K d_Mod_unit_83 rfl rfl ?_
                refine gx_iast K (q0 := 22) rfl rfl (by omega) (by decide) d_Mod_unit_84 ?_
                refine gx_aload_n K d_Mod_unit_85 rfl rfl ?_
                refine gx_aload_n K d_Mod_unit_86 rfl rfl ?_
                refine gx_get K f_Mod_120 (q0 := 0) rfl rfl d_Mod_unit_87 ?_
                refine gx_iconst (v := 1) K d_Mod_unit_90 rfl ?_
                refine gx_iaddN K (N 3) (1) d_Mod_unit_91 ?_
                refine gx_put K f_Mod_120 ft_Mod rfl (q0 := 0) rfl rfl rfl (gle rfl) d_Mod_unit_92 ?_
                refine gx_aload_n K d_Mod_unit_95 rfl rfl ?_
                refine gx_get K f_Mod_120 (q0 := 0) rfl rfl d_Mod_unit_96 ?_
                refine gx_iconst (v := 1) K d_Mod_unit_99 rfl ?_
                refine gx_isub K d_Mod_unit_100 ?_
                exact gx_iret K hr hlk d_Mod_unit_101 ⟨gRi ((nI_pred _).trans (if_pos (by simp [k_uni, h7, h17, h27, h31, h36, h41, h50, h50n, Nat.not_le.mpr h50n, Int32.not_le.mpr h50] <;> simp_all)).symm), (if_pos (by simp [k_uni, h7, h17, h27, h31, h36, h41, h50, h50n, Nat.not_le.mpr h50n, Int32.not_le.mpr h50] <;> simp_all)).symm⟩
              · skip
                have h50n : ¬ N 3 < 8 := fun q => h50 ((nI_ltI (a := N 3) (b := 8) (by omega) (by omega)).mpr q)
                refine gx_iconst (v := -1) K d_Mod_unit_53 rfl ?_
                exact gx_iret K hr hlk d_Mod_unit_54 ⟨gRi (if_neg (by simp [k_uni, h7, h17, h27, h31, h36, h41, h50, h50n, Nat.not_lt.mp h50n, Int32.not_lt.mp h50] <;> simp_all)).symm, (if_neg (by simp [k_uni, h7, h17, h27, h31, h36, h41, h50, h50n, Nat.not_lt.mp h50n, Int32.not_lt.mp h50] <;> simp_all)).symm⟩

set_option maxRecDepth 100000 in
set_option maxHeartbeats 1000000 in
theorem z_Mod_arc {l : Launch} {D : va_G} {ty : Nat → ClassId} {tt : Nat} {b : Nat → Nat} {B : Nat → Nat → Bool} {N : Nat → Nat} {E : Nat → Nat → Int32} {J : Nat → Int32} {ph : Bool} {V : Nat → Int64} {rd : Int64} {rest : va_W} (I : mI E) (hN : mN N) (x y z v u : Int32) : Cd l y_Mod_arc c_Mod_arc 7 (some .int) 1 D ty tt [.ref (b 0), .int x, .int y, .int z, .int v, .int u] (mdW b ty B N E J ph V rd rest) (some (.int (if k_arc N x y z v u = true then nI (N 1) else -1))) (if k_arc N x y z v u = true then (mdW b ty (va_up B 3 (va_up (B 3) (N 1) ph)) (va_up N 1 (N 1 + 1)) (e_arc E (N 1) x (J 0) y z v u (J 1)) (J) (ph) (V) (rd) rest) else (mdW b ty B N E J ph V rd rest)) := by
  obtain ⟨n0, n1, n2, n3, n4, n5⟩ := id hN
  refine Ct_of (by decide) (gle rfl) (fun p e s m args below meth c K hr hlk hin => ?_)
  refine gx_cut (X := m_in z 0 (nI (N 0) - 1) && m_in v 0 (nI (N 0) - 1)) 34 ?_ (fun j34 => ?_)
  · skip
    refine gx_istore K d_Mod_arc_34 (gle rfl) rfl ?_
    refine gx_iload_n K d_Mod_arc_36 rfl rfl ?_
    refine gx_iconst (v := 0) K d_Mod_arc_37 rfl ?_
    refine gx_bipush (v := 7) K d_Mod_arc_38 rfl ?_
    refine gx_Sd K (z_Mod_in _ _ _ _) Y_Mod_in k832 k831 rfl ⟨gle rfl, gle rfl⟩ ⟨gle rfl, gle rfl⟩ (gle rfl) d_Mod_arc_40 ?_
    refine gx_if_eqB K d_Mod_arc_43 rfl (fun h43 => ?_) (fun h43 => ?_)
    · skip
      refine gx_iconst (v := -1) K d_Mod_arc_86 rfl ?_
      exact gx_iret K hr hlk d_Mod_arc_87 ⟨gRi (if_neg (by simp [k_arc, h43] <;> simp_all)).symm, (if_neg (by simp [k_arc, h43] <;> simp_all)).symm⟩
    · skip
      refine gx_iload_n K d_Mod_arc_46 rfl rfl ?_
      refine gx_iconst (v := 0) K d_Mod_arc_47 rfl ?_
      refine gx_iconst (v := 1) K d_Mod_arc_48 rfl ?_
      refine gx_Sd K (z_Mod_in _ _ _ _) Y_Mod_in k832 k831 rfl ⟨gle rfl, gle rfl⟩ ⟨gle rfl, gle rfl⟩ (gle rfl) d_Mod_arc_49 ?_
      refine gx_if_eqB K d_Mod_arc_52 rfl (fun h52 => ?_) (fun h52 => ?_)
      · skip
        refine gx_iconst (v := -1) K d_Mod_arc_86 rfl ?_
        exact gx_iret K hr hlk d_Mod_arc_87 ⟨gRi (if_neg (by simp [k_arc, h43, h52] <;> simp_all)).symm, (if_neg (by simp [k_arc, h43, h52] <;> simp_all)).symm⟩
      · skip
        refine gx_iload K d_Mod_arc_55 rfl ?_
        refine gx_if_eqB K d_Mod_arc_57 rfl (fun h57 => ?_) (fun h57 => ?_)
        · skip
          refine gx_iconst (v := -1) K d_Mod_arc_86 rfl ?_
          exact gx_iret K hr hlk d_Mod_arc_87 ⟨gRi (if_neg (by simp [k_arc, h43, h52, h57] <;> simp_all)).symm, (if_neg (by simp [k_arc, h43, h52, h57] <;> simp_all)).symm⟩
        · skip
          refine gx_iload K d_Mod_arc_60 rfl ?_
          refine gx_bipush (v := -90) K d_Mod_arc_62 rfl ?_
          refine gx_bipush (v := 90) K d_Mod_arc_64 rfl ?_
          refine gx_Sd K (z_Mod_in _ _ _ _) Y_Mod_in k832 k831 rfl ⟨gle rfl, gle rfl⟩ ⟨gle rfl, gle rfl⟩ (gle rfl) d_Mod_arc_66 ?_
          refine gx_if_eqB K d_Mod_arc_69 rfl (fun h69 => ?_) (fun h69 => ?_)
          · skip
            refine gx_iconst (v := -1) K d_Mod_arc_86 rfl ?_
            exact gx_iret K hr hlk d_Mod_arc_87 ⟨gRi (if_neg (by simp [k_arc, h43, h52, h57, h69] <;> simp_all)).symm, (if_neg (by simp [k_arc, h43, h52, h57, h69] <;> simp_all)).symm⟩
          · skip
            refine gx_iload K d_Mod_arc_72 rfl ?_
            refine gx_if_eq K d_Mod_arc_74 rfl (fun h74 => ?_) (fun h74 => ?_)
            · skip
              refine gx_iconst (v := -1) K d_Mod_arc_86 rfl ?_
              exact gx_iret K hr hlk d_Mod_arc_87 ⟨gRi (if_neg (by simp [k_arc, h43, h52, h57, h69, h74] <;> simp_all)).symm, (if_neg (by simp [k_arc, h43, h52, h57, h69, h74] <;> simp_all)).symm⟩
            · skip
              refine gx_aload_n K d_Mod_arc_77 rfl rfl ?_
              refine gx_get K f_Mod_136 (q0 := 0) rfl rfl d_Mod_arc_78 ?_
              refine gx_bipush (v := 32) K d_Mod_arc_81 rfl ?_
              refine gx_icmp_lt K d_Mod_arc_83 rfl (fun h83 => ?_) (fun h83 => ?_)
              · skip
                have h83n : N 1 < 32 := (nI_ltI (a := N 1) (b := 32) (by omega) (by omega)).mp h83
                refine gx_aload_n K d_Mod_arc_88 rfl rfl ?_
                refine gx_get K f_Mod_32 (q0 := 0) rfl rfl d_Mod_arc_89 ?_
                refine gx_aload_n K d_Mod_arc_92 rfl rfl ?_
                refine gx_get K f_Mod_136 (q0 := 0) rfl rfl d_Mod_arc_93 ?_
                refine gx_iload_n K d_Mod_arc_96 rfl rfl ?_
                refine gx_iast K (q0 := 8) rfl rfl (by omega) (by decide) d_Mod_arc_97 ?_
                refine gx_aload_n K d_Mod_arc_98 rfl rfl ?_
                refine gx_get K f_Mod_35 (q0 := 0) rfl rfl d_Mod_arc_99 ?_
                refine gx_aload_n K d_Mod_arc_102 rfl rfl ?_
                refine gx_get K f_Mod_136 (q0 := 0) rfl rfl d_Mod_arc_103 ?_
                refine gx_aload_n K d_Mod_arc_106 rfl rfl ?_
                refine gx_get K f_Mod_126 (q0 := 0) rfl rfl d_Mod_arc_107 ?_
                refine gx_iast K (q0 := 9) rfl rfl (by omega) (by decide) d_Mod_arc_110 ?_
                refine gx_aload_n K d_Mod_arc_111 rfl rfl ?_
                refine gx_get K f_Mod_38 (q0 := 0) rfl rfl d_Mod_arc_112 ?_
                refine gx_aload_n K d_Mod_arc_115 rfl rfl ?_
                refine gx_get K f_Mod_136 (q0 := 0) rfl rfl d_Mod_arc_116 ?_
                refine gx_iload_n K d_Mod_arc_119 rfl rfl ?_
                refine gx_iast K (q0 := 10) rfl rfl (by omega) (by decide) d_Mod_arc_120 ?_
                refine gx_aload_n K d_Mod_arc_121 rfl rfl ?_
                refine gx_get K f_Mod_41 (q0 := 0) rfl rfl d_Mod_arc_122 ?_
                refine gx_aload_n K d_Mod_arc_125 rfl rfl ?_
                refine gx_get K f_Mod_136 (q0 := 0) rfl rfl d_Mod_arc_126 ?_
                refine gx_iload_n K d_Mod_arc_129 rfl rfl ?_
                refine gx_iast K (q0 := 11) rfl rfl (by omega) (by decide) d_Mod_arc_130 ?_
                refine gx_aload_n K d_Mod_arc_131 rfl rfl ?_
                refine gx_get K f_Mod_44 (q0 := 0) rfl rfl d_Mod_arc_132 ?_
                refine gx_aload_n K d_Mod_arc_135 rfl rfl ?_
                refine gx_get K f_Mod_136 (q0 := 0) rfl rfl d_Mod_arc_136 ?_
                refine gx_iload K d_Mod_arc_139 rfl ?_
                refine gx_iast K (q0 := 12) rfl rfl (by omega) (by decide) d_Mod_arc_141 ?_
                refine gx_aload_n K d_Mod_arc_142 rfl rfl ?_
                refine gx_get K f_Mod_47 (q0 := 0) rfl rfl d_Mod_arc_143 ?_
                refine gx_aload_n K d_Mod_arc_146 rfl rfl ?_
                refine gx_get K f_Mod_136 (q0 := 0) rfl rfl d_Mod_arc_147 ?_
                refine gx_iload K d_Mod_arc_150 rfl ?_
                refine gx_iast K (q0 := 13) rfl rfl (by omega) (by decide) d_Mod_arc_152 ?_
                refine gx_aload_n K d_Mod_arc_153 rfl rfl ?_
                refine gx_get K f_Mod_50 (q0 := 0) rfl rfl d_Mod_arc_154 ?_
                refine gx_aload_n K d_Mod_arc_157 rfl rfl ?_
                refine gx_get K f_Mod_136 (q0 := 0) rfl rfl d_Mod_arc_158 ?_
                refine gx_aload_n K d_Mod_arc_161 rfl rfl ?_
                refine gx_get K f_Mod_129 (q0 := 0) rfl rfl d_Mod_arc_162 ?_
                refine gx_iast K (q0 := 14) rfl rfl (by omega) (by decide) d_Mod_arc_165 ?_
                refine gx_aload_n K d_Mod_arc_166 rfl rfl ?_
                refine gx_get K f_Mod_53 (q0 := 0) rfl rfl d_Mod_arc_167 ?_
                refine gx_aload_n K d_Mod_arc_170 rfl rfl ?_
                refine gx_get K f_Mod_136 (q0 := 0) rfl rfl d_Mod_arc_171 ?_
                refine gx_aload_n K d_Mod_arc_174 rfl rfl ?_
                refine gx_get K f_Mod_132 (q0 := 0) rfl rfl d_Mod_arc_175 ?_
                refine gx_zst K (q0 := 15) rfl rfl (by omega) (by decide) d_Mod_arc_178 ?_
                refine gx_aload_n K d_Mod_arc_179 rfl rfl ?_
                refine gx_aload_n K d_Mod_arc_180 rfl rfl ?_
                refine gx_get K f_Mod_136 (q0 := 0) rfl rfl d_Mod_arc_181 ?_
                refine gx_iconst (v := 1) K d_Mod_arc_184 rfl ?_
                refine gx_iaddN K (N 1) (1) d_Mod_arc_185 ?_
                refine gx_put K f_Mod_136 ft_Mod rfl (q0 := 0) rfl rfl rfl (gle rfl) d_Mod_arc_186 ?_
                refine gx_aload_n K d_Mod_arc_189 rfl rfl ?_
                refine gx_get K f_Mod_136 (q0 := 0) rfl rfl d_Mod_arc_190 ?_
                refine gx_iconst (v := 1) K d_Mod_arc_193 rfl ?_
                refine gx_isub K d_Mod_arc_194 ?_
                exact gx_iret K hr hlk d_Mod_arc_195 ⟨gRi ((nI_pred _).trans (if_pos (by simp [k_arc, h43, h52, h57, h69, h74, h83, h83n, Nat.not_le.mpr h83n, Int32.not_le.mpr h83] <;> simp_all)).symm), (if_pos (by simp [k_arc, h43, h52, h57, h69, h74, h83, h83n, Nat.not_le.mpr h83n, Int32.not_le.mpr h83] <;> simp_all)).symm⟩
              · skip
                have h83n : ¬ N 1 < 32 := fun q => h83 ((nI_ltI (a := N 1) (b := 32) (by omega) (by omega)).mpr q)
                refine gx_iconst (v := -1) K d_Mod_arc_86 rfl ?_
                exact gx_iret K hr hlk d_Mod_arc_87 ⟨gRi (if_neg (by simp [k_arc, h43, h52, h57, h69, h74, h83, h83n, Nat.not_lt.mp h83n, Int32.not_lt.mp h83] <;> simp_all)).symm, (if_neg (by simp [k_arc, h43, h52, h57, h69, h74, h83, h83n, Nat.not_lt.mp h83n, Int32.not_lt.mp h83] <;> simp_all)).symm⟩
  · skip
    refine gx_iload_n K d_Mod_arc_0 rfl rfl ?_
    refine gx_iconst (v := 0) K d_Mod_arc_1 rfl ?_
    refine gx_aload_n K d_Mod_arc_2 rfl rfl ?_
    refine gx_get K f_Mod_109 (q0 := 0) rfl rfl d_Mod_arc_3 ?_
    refine gx_iconst (v := 1) K d_Mod_arc_6 rfl ?_
    refine gx_isub K d_Mod_arc_7 ?_
    refine gx_Sd K (z_Mod_in _ _ _ _) Y_Mod_in k832 k831 rfl ⟨gle rfl, gle rfl⟩ ⟨gle rfl, gle rfl⟩ (gle rfl) d_Mod_arc_8 ?_
    refine gx_if_eqB K d_Mod_arc_11 rfl (fun h11 => ?_) (fun h11 => ?_)
    · skip
      refine gx_iconst (v := b2i false) K d_Mod_arc_33 rfl ?_
      exact j34 _ (by simp [h11])
    · skip
      refine gx_iload K d_Mod_arc_14 rfl ?_
      refine gx_iconst (v := 0) K d_Mod_arc_16 rfl ?_
      refine gx_aload_n K d_Mod_arc_17 rfl rfl ?_
      refine gx_get K f_Mod_109 (q0 := 0) rfl rfl d_Mod_arc_18 ?_
      refine gx_iconst (v := 1) K d_Mod_arc_21 rfl ?_
      refine gx_isub K d_Mod_arc_22 ?_
      refine gx_Sd K (z_Mod_in _ _ _ _) Y_Mod_in k832 k831 rfl ⟨gle rfl, gle rfl⟩ ⟨gle rfl, gle rfl⟩ (gle rfl) d_Mod_arc_23 ?_
      refine gx_if_eqB K d_Mod_arc_26 rfl (fun h26 => ?_) (fun h26 => ?_)
      · skip
        refine gx_iconst (v := b2i false) K d_Mod_arc_33 rfl ?_
        exact j34 _ (by simp [h11, h26])
      · skip
        refine gx_iconst (v := b2i true) K d_Mod_arc_29 rfl ?_
        refine gx_goto K d_Mod_arc_30 rfl ?_
        exact j34 _ (by simp [h11, h26])

set_option maxRecDepth 100000 in
set_option maxHeartbeats 1000000 in
theorem z_Mod_write {l : Launch} {D : va_G} {ty : Nat → ClassId} {tt : Nat} {b : Nat → Nat} {B : Nat → Nat → Bool} {N : Nat → Nat} {E : Nat → Nat → Int32} {J : Nat → Int32} {ph : Bool} {V : Nat → Int64} {rd : Int64} {rest : va_W} (I : mI E) (hN : mN N) (x : Int32) : Cd l y_Mod_write c_Mod_write 3 (some .boolean) 1 D ty tt [.ref (b 0), .int x] (mdW b ty B N E J ph V rd rest) (some (.int (b2i (k_wri N x)))) (if k_wri N x = true then (mdW b ty (B) (va_up N 4 (N 4 + 1)) (e_wri E (N 4) x) (J) (ph) (V) (rd) rest) else (mdW b ty B N E J ph V rd rest)) := by
  obtain ⟨n0, n1, n2, n3, n4, n5⟩ := id hN
  refine Ct_of (by decide) (gle rfl) (fun p e s m args below meth c K hr hlk hin => ?_)
  refine gx_cut (X := s_fit x) 35 ?_ (fun j35 => ?_)
  · skip
    refine gx_istore_n K d_Mod_write_35 rfl (gle rfl) rfl ?_
    refine gx_iload_n K d_Mod_write_36 rfl rfl ?_
    refine gx_if_eqB K d_Mod_write_37 rfl (fun h37 => ?_) (fun h37 => ?_)
    · skip
      refine gx_iconst (v := b2i false) K d_Mod_write_49 rfl ?_
      exact gx_zret K hr hlk d_Mod_write_50 ⟨gRb (by simp [k_wri, h37] <;> simp_all), (if_neg (by simp [k_wri, h37] <;> simp_all)).symm⟩
    · skip
      refine gx_aload_n K d_Mod_write_40 rfl rfl ?_
      refine gx_get K f_Mod_152 (q0 := 0) rfl rfl d_Mod_write_41 ?_
      refine gx_bipush (v := 20) K d_Mod_write_44 rfl ?_
      refine gx_icmp_lt K d_Mod_write_46 rfl (fun h46 => ?_) (fun h46 => ?_)
      · skip
        have h46n : N 4 < 20 := (nI_ltI (a := N 4) (b := 20) (by omega) (by omega)).mp h46
        refine gx_aload_n K d_Mod_write_51 rfl rfl ?_
        refine gx_get K f_Mod_77 (q0 := 0) rfl rfl d_Mod_write_52 ?_
        refine gx_aload_n K d_Mod_write_55 rfl rfl ?_
        refine gx_get K f_Mod_152 (q0 := 0) rfl rfl d_Mod_write_56 ?_
        refine gx_iload_n K d_Mod_write_59 rfl rfl ?_
        refine gx_iast K (q0 := 23) rfl rfl (by omega) (by decide) d_Mod_write_60 ?_
        refine gx_aload_n K d_Mod_write_61 rfl rfl ?_
        refine gx_aload_n K d_Mod_write_62 rfl rfl ?_
        refine gx_get K f_Mod_152 (q0 := 0) rfl rfl d_Mod_write_63 ?_
        refine gx_iconst (v := 1) K d_Mod_write_66 rfl ?_
        refine gx_iaddN K (N 4) (1) d_Mod_write_67 ?_
        refine gx_put K f_Mod_152 ft_Mod rfl (q0 := 0) rfl rfl rfl (gle rfl) d_Mod_write_68 ?_
        refine gx_iconst (v := b2i true) K d_Mod_write_71 rfl ?_
        exact gx_zret K hr hlk d_Mod_write_72 ⟨gRb (by simp [k_wri, h37, h46, h46n, Nat.not_le.mpr h46n, Int32.not_le.mpr h46] <;> simp_all), (if_pos (by simp [k_wri, h37, h46, h46n, Nat.not_le.mpr h46n, Int32.not_le.mpr h46] <;> simp_all)).symm⟩
      · skip
        have h46n : ¬ N 4 < 20 := fun q => h46 ((nI_ltI (a := N 4) (b := 20) (by omega) (by omega)).mpr q)
        refine gx_iconst (v := b2i false) K d_Mod_write_49 rfl ?_
        exact gx_zret K hr hlk d_Mod_write_50 ⟨gRb (by simp [k_wri, h37, h46, h46n, Nat.not_lt.mp h46n, Int32.not_lt.mp h46] <;> simp_all), (if_neg (by simp [k_wri, h37, h46, h46n, Nat.not_lt.mp h46n, Int32.not_lt.mp h46] <;> simp_all)).symm⟩
  · skip
    refine gx_iload_n K d_Mod_write_0 rfl rfl ?_
    refine gx_bipush (v := 48) K d_Mod_write_1 rfl ?_
    refine gx_icmp_lt K d_Mod_write_3 rfl (fun h3 => ?_) (fun h3 => ?_)
    · skip
      refine gx_iload_n K d_Mod_write_12 rfl rfl ?_
      refine gx_bipush (v := 46) K d_Mod_write_13 rfl ?_
      refine gx_icmp_eq K d_Mod_write_15 rfl (fun h15 => ?_) (fun h15 => ?_)
      · skip
        refine gx_iconst (v := b2i true) K d_Mod_write_30 rfl ?_
        refine gx_goto K d_Mod_write_31 rfl ?_
        exact j35 _ (by simp [s_fit, s_dig, h3, Int32.not_le.mpr h3, h15])
      · skip
        refine gx_iload_n K d_Mod_write_18 rfl rfl ?_
        refine gx_bipush (v := 43) K d_Mod_write_19 rfl ?_
        refine gx_icmp_eq K d_Mod_write_21 rfl (fun h21 => ?_) (fun h21 => ?_)
        · skip
          refine gx_iconst (v := b2i true) K d_Mod_write_30 rfl ?_
          refine gx_goto K d_Mod_write_31 rfl ?_
          exact j35 _ (by simp [s_fit, s_dig, h3, Int32.not_le.mpr h3, h15, h21])
        · skip
          refine gx_iload_n K d_Mod_write_24 rfl rfl ?_
          refine gx_bipush (v := 45) K d_Mod_write_25 rfl ?_
          refine gx_icmp_ne K d_Mod_write_27 rfl (fun h27 => ?_) (fun h27 => ?_)
          · skip
            refine gx_iconst (v := b2i false) K d_Mod_write_34 rfl ?_
            exact j35 _ (by simp [s_fit, s_dig, h3, Int32.not_le.mpr h3, h15, h21, h27])
          · skip
            refine gx_iconst (v := b2i true) K d_Mod_write_30 rfl ?_
            refine gx_goto K d_Mod_write_31 rfl ?_
            exact j35 _ (by simp [s_fit, s_dig, h3, Int32.not_le.mpr h3, h15, h21, h27])
    · skip
      refine gx_iload_n K d_Mod_write_6 rfl rfl ?_
      refine gx_bipush (v := 57) K d_Mod_write_7 rfl ?_
      refine gx_icmp_le K d_Mod_write_9 rfl (fun h9 => ?_) (fun h9 => ?_)
      · skip
        refine gx_iconst (v := b2i true) K d_Mod_write_30 rfl ?_
        refine gx_goto K d_Mod_write_31 rfl ?_
        exact j35 _ (by simp [s_fit, s_dig, h3, Int32.not_lt.mp h3, h9, Int32.not_lt.mpr h9])
      · skip
        refine gx_iload_n K d_Mod_write_12 rfl rfl ?_
        refine gx_bipush (v := 46) K d_Mod_write_13 rfl ?_
        refine gx_icmp_eq K d_Mod_write_15 rfl (fun h15 => ?_) (fun h15 => ?_)
        · skip
          refine gx_iconst (v := b2i true) K d_Mod_write_30 rfl ?_
          refine gx_goto K d_Mod_write_31 rfl ?_
          exact j35 _ (by simp [s_fit, s_dig, h3, Int32.not_lt.mp h3, h9, Int32.not_le.mp h9, h15])
        · skip
          refine gx_iload_n K d_Mod_write_18 rfl rfl ?_
          refine gx_bipush (v := 43) K d_Mod_write_19 rfl ?_
          refine gx_icmp_eq K d_Mod_write_21 rfl (fun h21 => ?_) (fun h21 => ?_)
          · skip
            refine gx_iconst (v := b2i true) K d_Mod_write_30 rfl ?_
            refine gx_goto K d_Mod_write_31 rfl ?_
            exact j35 _ (by simp [s_fit, s_dig, h3, Int32.not_lt.mp h3, h9, Int32.not_le.mp h9, h15, h21])
          · skip
            refine gx_iload_n K d_Mod_write_24 rfl rfl ?_
            refine gx_bipush (v := 45) K d_Mod_write_25 rfl ?_
            refine gx_icmp_ne K d_Mod_write_27 rfl (fun h27 => ?_) (fun h27 => ?_)
            · skip
              refine gx_iconst (v := b2i false) K d_Mod_write_34 rfl ?_
              exact j35 _ (by simp [s_fit, s_dig, h3, Int32.not_lt.mp h3, h9, Int32.not_le.mp h9, h15, h21, h27])
            · skip
              refine gx_iconst (v := b2i true) K d_Mod_write_30 rfl ?_
              refine gx_goto K d_Mod_write_31 rfl ?_
              exact j35 _ (by simp [s_fit, s_dig, h3, Int32.not_lt.mp h3, h9, Int32.not_le.mp h9, h15, h21, h27])

