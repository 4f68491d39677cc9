def cI (B : Nat → Nat → Bool) (N : Nat → Nat) (E : Nat → Nat → Int32) (V : Nat → Int64) (O : Nat → Nat → Option Nat) (rest : va_W) (re : Int32) : Prop := pCon O E rest (N 0) ∧ pArc O B E rest (N 1) ∧ pCtx O E rest (N 2) ∧ pUni O E rest (N 3) ∧ pFac O E V rest (N 5) ∧ mI E ∧ (∀ a, a < N 1 → ix (E 7 a) < N 0 ∧ ix (E 8 a) < N 0) ∧ (∀ f, f < N 5 → ix (E 19 f) < N 0) ∧ (∀ d, d < 8 → bt re d = B 2 d) ∧ mV E V
theorem inNt {c n : Nat} (h : c < n) (hn : n < 2 ^ 30) : m_in (nI c) 0 (nI n - 1) = true := by
  unfold m_in
  rw [decide_eq_true (nI_pos' (by omega)), decide_eq_true (by rw [show (1 : Int32) = nI 1 from rfl, pk_sub (by omega)]; exact (nI_leI (by omega) (by omega)).mpr (by omega))]
  rfl
def c_beat (B : Nat → Nat → Bool) (E : Nat → Nat → Int32) (a b : Nat) : Bool := !decide (b = a) && (m_alike E a b && (if E 10 b = E 10 a then (B 3 b || decide (b < a)) else decide (E 10 a < E 10 b)))
def c_ws (E : Nat → Nat → Int32) (c : Nat) : Bool := !decide (E 2 (ix (E 7 c)) = 0) && (!decide (E 2 (ix (E 8 c)) = 0) && (if E 2 (ix (E 7 c)) = E 2 (ix (E 8 c)) then decide (E 9 c < 0) else decide (0 < E 9 c)))
set_option maxRecDepth 100000 in
set_option maxHeartbeats 1000000 in
theorem z_Tax_hasConcept {l : Launch} {D : va_G} {ty : Nat → ClassId} {tt : Nat} {a : Nat → Nat} {N : Nat → Nat} {r : Nat → Int32} {en re : Int32} {O : Nat → Nat → Option Nat} {z : Nat} {tx : Nat → Int32} {X : Nat → Nat → Bool} {Y : Nat → Nat → Int32} {fc : Nat} {sl : Bool} {pt : Int32} {tot : Int64} {hv : Bool} {rest : va_W} (hN : mN N) (x : Int32) : Cd l y_Tax_hasConcept c_Tax_hasConcept 2 (some .boolean) 1 D ty tt [.ref (a 1), .int x] (fbW a ty N r en re O z tx X Y fc sl pt tot hv rest) (some (.int (b2i (m_in x 0 (nI (N 0) - 1))))) (fbW a ty N r en re O z tx X Y fc sl pt tot hv rest) := by
  obtain ⟨n0, n1, n2, n3, n4, n5⟩ := id hN
  refine Ct_of (by decide) (gle rfl) (fun p e s m args below meth c K hr hlk hin => ?_)
  refine gx_iload_n K d_Tax_hasConcept_0 rfl rfl ?_
  refine gx_iconst (v := 0) K d_Tax_hasConcept_1 rfl ?_
  refine gx_aload_n K d_Tax_hasConcept_2 rfl rfl ?_
  refine gx_get K f_Tax_39 (q0 := 1) rfl rfl d_Tax_hasConcept_3 ?_
  refine gx_iconst (v := 1) K d_Tax_hasConcept_6 rfl ?_
  refine gx_isub K d_Tax_hasConcept_7 ?_
  refine gx_SNd K (z_FB_within _ _ _ _) Y_FB_within k226 k253 rfl ⟨gle rfl, gle rfl⟩ ⟨gle rfl, gle rfl⟩ (gle rfl) d_Tax_hasConcept_8 ?_
  exact gx_zret K hr hlk d_Tax_hasConcept_11 ⟨gRb (by rfl), rfl⟩

set_option maxRecDepth 100000 in
set_option maxHeartbeats 1000000 in
theorem z_Tax_hasArc {l : Launch} {D : va_G} {ty : Nat → ClassId} {tt : Nat} {a : Nat → Nat} {N : Nat → Nat} {r : Nat → Int32} {en re : Int32} {O : Nat → Nat → Option Nat} {z : Nat} {tx : Nat → Int32} {X : Nat → Nat → Bool} {Y : Nat → Nat → Int32} {fc : Nat} {sl : Bool} {pt : Int32} {tot : Int64} {hv : Bool} {rest : va_W} (hN : mN N) (x : Int32) : Cd l y_Tax_hasArc c_Tax_hasArc 2 (some .boolean) 1 D ty tt [.ref (a 1), .int x] (fbW a ty N r en re O z tx X Y fc sl pt tot hv rest) (some (.int (b2i (m_in x 0 (nI (N 1) - 1))))) (fbW a ty N r en re O z tx X Y fc sl pt tot hv rest) := by
  obtain ⟨n0, n1, n2, n3, n4, n5⟩ := id hN
  refine Ct_of (by decide) (gle rfl) (fun p e s m args below meth c K hr hlk hin => ?_)
  refine gx_iload_n K d_Tax_hasArc_0 rfl rfl ?_
  refine gx_iconst (v := 0) K d_Tax_hasArc_1 rfl ?_
  refine gx_aload_n K d_Tax_hasArc_2 rfl rfl ?_
  refine gx_get K f_Tax_47 (q0 := 1) rfl rfl d_Tax_hasArc_3 ?_
  refine gx_iconst (v := 1) K d_Tax_hasArc_6 rfl ?_
  refine gx_isub K d_Tax_hasArc_7 ?_
  refine gx_SNd K (z_FB_within _ _ _ _) Y_FB_within k226 k253 rfl ⟨gle rfl, gle rfl⟩ ⟨gle rfl, gle rfl⟩ (gle rfl) d_Tax_hasArc_8 ?_
  exact gx_zret K hr hlk d_Tax_hasArc_11 ⟨gRb (by rfl), rfl⟩

set_option maxRecDepth 100000 in
set_option maxHeartbeats 1000000 in
theorem z_Rep_hasContext {l : Launch} {D : va_G} {ty : Nat → ClassId} {tt : Nat} {a : Nat → Nat} {N : Nat → Nat} {r : Nat → Int32} {en re : Int32} {O : Nat → Nat → Option Nat} {z : Nat} {tx : Nat → Int32} {X : Nat → Nat → Bool} {Y : Nat → Nat → Int32} {fc : Nat} {sl : Bool} {pt : Int32} {tot : Int64} {hv : Bool} {rest : va_W} (hN : mN N) (x : Int32) : Cd l y_Rep_hasContext c_Rep_hasContext 2 (some .boolean) 1 D ty tt [.ref (a 6), .int x] (fbW a ty N r en re O z tx X Y fc sl pt tot hv rest) (some (.int (b2i (m_in x 0 (nI (N 2) - 1))))) (fbW a ty N r en re O z tx X Y fc sl pt tot hv rest) := by
  obtain ⟨n0, n1, n2, n3, n4, n5⟩ := id hN
  refine Ct_of (by decide) (gle rfl) (fun p e s m args below meth c K hr hlk hin => ?_)
  refine gx_iload_n K d_Rep_hasContext_0 rfl rfl ?_
  refine gx_iconst (v := 0) K d_Rep_hasContext_1 rfl ?_
  refine gx_aload_n K d_Rep_hasContext_2 rfl rfl ?_
  refine gx_get K f_Rep_36 (q0 := 6) rfl rfl d_Rep_hasContext_3 ?_
  refine gx_iconst (v := 1) K d_Rep_hasContext_6 rfl ?_
  refine gx_isub K d_Rep_hasContext_7 ?_
  refine gx_SNd K (z_FB_within _ _ _ _) Y_FB_within k226 k344 rfl ⟨gle rfl, gle rfl⟩ ⟨gle rfl, gle rfl⟩ (gle rfl) d_Rep_hasContext_8 ?_
  exact gx_zret K hr hlk d_Rep_hasContext_11 ⟨gRb (by rfl), rfl⟩

set_option maxRecDepth 100000 in
set_option maxHeartbeats 1000000 in
theorem z_Rep_hasUnit {l : Launch} {D : va_G} {ty : Nat → ClassId} {tt : Nat} {a : Nat → Nat} {N : Nat → Nat} {r : Nat → Int32} {en re : Int32} {O : Nat → Nat → Option Nat} {z : Nat} {tx : Nat → Int32} {X : Nat → Nat → Bool} {Y : Nat → Nat → Int32} {fc : Nat} {sl : Bool} {pt : Int32} {tot : Int64} {hv : Bool} {rest : va_W} (hN : mN N) (x : Int32) : Cd l y_Rep_hasUnit c_Rep_hasUnit 2 (some .boolean) 1 D ty tt [.ref (a 6), .int x] (fbW a ty N r en re O z tx X Y fc sl pt tot hv rest) (some (.int (b2i (m_in x 0 (nI (N 3) - 1))))) (fbW a ty N r en re O z tx X Y fc sl pt tot hv rest) := by
  obtain ⟨n0, n1, n2, n3, n4, n5⟩ := id hN
  refine Ct_of (by decide) (gle rfl) (fun p e s m args below meth c K hr hlk hin => ?_)
  refine gx_iload_n K d_Rep_hasUnit_0 rfl rfl ?_
  refine gx_iconst (v := 0) K d_Rep_hasUnit_1 rfl ?_
  refine gx_aload_n K d_Rep_hasUnit_2 rfl rfl ?_
  refine gx_get K f_Rep_44 (q0 := 6) rfl rfl d_Rep_hasUnit_3 ?_
  refine gx_iconst (v := 1) K d_Rep_hasUnit_6 rfl ?_
  refine gx_isub K d_Rep_hasUnit_7 ?_
  refine gx_SNd K (z_FB_within _ _ _ _) Y_FB_within k226 k344 rfl ⟨gle rfl, gle rfl⟩ ⟨gle rfl, gle rfl⟩ (gle rfl) d_Rep_hasUnit_8 ?_
  exact gx_zret K hr hlk d_Rep_hasUnit_11 ⟨gRb (by rfl), rfl⟩

set_option maxRecDepth 100000 in
set_option maxHeartbeats 1000000 in
theorem z_Rep_hasFact {l : Launch} {D : va_G} {ty : Nat → ClassId} {tt : Nat} {a : Nat → Nat} {N : Nat → Nat} {r : Nat → Int32} {en re : Int32} {O : Nat → Nat → Option Nat} {z : Nat} {tx : Nat → Int32} {X : Nat → Nat → Bool} {Y : Nat → Nat → Int32} {fc : Nat} {sl : Bool} {pt : Int32} {tot : Int64} {hv : Bool} {rest : va_W} (hN : mN N) (x : Int32) : Cd l y_Rep_hasFact c_Rep_hasFact 2 (some .boolean) 1 D ty tt [.ref (a 6), .int x] (fbW a ty N r en re O z tx X Y fc sl pt tot hv rest) (some (.int (b2i (m_in x 0 (nI (N 5) - 1))))) (fbW a ty N r en re O z tx X Y fc sl pt tot hv rest) := by
  obtain ⟨n0, n1, n2, n3, n4, n5⟩ := id hN
  refine Ct_of (by decide) (gle rfl) (fun p e s m args below meth c K hr hlk hin => ?_)
  refine gx_iload_n K d_Rep_hasFact_0 rfl rfl ?_
  refine gx_iconst (v := 0) K d_Rep_hasFact_1 rfl ?_
  refine gx_aload_n K d_Rep_hasFact_2 rfl rfl ?_
  refine gx_get K f_Rep_47 (q0 := 6) rfl rfl d_Rep_hasFact_3 ?_
  refine gx_iconst (v := 1) K d_Rep_hasFact_6 rfl ?_
  refine gx_isub K d_Rep_hasFact_7 ?_
  refine gx_SNd K (z_FB_within _ _ _ _) Y_FB_within k226 k344 rfl ⟨gle rfl, gle rfl⟩ ⟨gle rfl, gle rfl⟩ (gle rfl) d_Rep_hasFact_8 ?_
  exact gx_zret K hr hlk d_Rep_hasFact_11 ⟨gRb (by rfl), rfl⟩

set_option maxRecDepth 100000 in
set_option maxHeartbeats 1000000 in
theorem z_Tax_isKnown {l : Launch} {D : va_G} {ty : Nat → ClassId} {tt : Nat} {a : Nat → Nat} {N : Nat → Nat} {r : Nat → Int32} {en re : Int32} {O : Nat → Nat → Option Nat} {z : Nat} {tx : Nat → Int32} {X : Nat → Nat → Bool} {Y : Nat → Nat → Int32} {fc : Nat} {sl : Bool} {pt : Int32} {tot : Int64} {hv : Bool} {rest : va_W} (hN : mN N) {x : Int32} {c0 : Nat} (hx : x = nI c0) (hc : c0 < N 0) {B : Nat → Nat → Bool} {E : Nat → Nat → Int32} {V : Nat → Int64} (G : cI B N E V O rest re) : Cd l y_Tax_isKnown c_Tax_isKnown 2 (some .boolean) 2 D ty tt [.ref (a 1), .int x] (fbW a ty N r en re O z tx X Y fc sl pt tot hv rest) (some (.int (b2i (m_known B E c0)))) (fbW a ty N r en re O z tx X Y fc sl pt tot hv rest) := by
  obtain ⟨n0, n1, n2, n3, n4, n5⟩ := id hN
  subst hx
  obtain ⟨pC, pA, pX, pU, pF, I, hA, hF, hre, hV⟩ := id G
  refine Ct_of (by decide) (gle rfl) (fun p e s m args below meth c K hr hlk hin => ?_)
  refine gx_aload_n K d_Tax_isKnown_0 rfl rfl ?_
  refine gx_iload_n K d_Tax_isKnown_1 rfl rfl ?_
  refine gx_Vd K (z_Tax_hasConcept hN _) Y_Tax_hasConcept (ci := 1) rfl (q0 := 1) rfl k295 ks6 k293 rfl ⟨gle rfl, gle rfl⟩ ⟨gle rfl, gle rfl⟩ (gle rfl) d_Tax_isKnown_2 ?_
  refine gx_if_eqB K d_Tax_isKnown_5 rfl (fun h5 => ?_) (fun h5 => ?_)
  · skip
    refine gx_iconst (v := b2i false) K d_Tax_isKnown_31 rfl ?_
    exact gx_zret K hr hlk d_Tax_isKnown_32 ⟨gRb (absurd (h5.symm.trans (inNt hc (by omega))) (by decide)), rfl⟩
  · skip
    refine gx_aload_n K d_Tax_isKnown_8 rfl rfl ?_
    refine gx_get K f_Tax_12 (q0 := 1) rfl rfl d_Tax_isKnown_9 ?_
    refine gx_aload_n K d_Tax_isKnown_12 rfl rfl ?_
    refine gx_get K f_Tax_20 (q0 := 1) rfl rfl d_Tax_isKnown_13 ?_
    refine gx_iload_n K d_Tax_isKnown_16 rfl rfl ?_
    refine gx_aald K (t := 4) rfl (q0 := 4) rfl rfl (by omega) (by decide) d_Tax_isKnown_17 ?_
    obtain ⟨q17, k17, hO17, hk17⟩ := pC (c0) (by omega)
    rw [hO17]
    refine gx_getN K f_Tax_63 (fb_pl hk17) rfl d_Tax_isKnown_18 ?_
    refine gx_VNd K (z_Doc_isReachedN hN (I.1 (c0)).1 (I.1 (c0)).2) Y_Doc_isReached (ci := 2) rfl (q0 := 2) rfl k234 ks2 k523 rfl ⟨gle rfl, gle rfl⟩ ⟨gle rfl, gle rfl⟩ (gle rfl) d_Tax_isKnown_21 ?_
    refine gx_if_eqB K d_Tax_isKnown_24 rfl (fun h24 => ?_) (fun h24 => ?_)
    · skip
      refine gx_iconst (v := b2i false) K d_Tax_isKnown_31 rfl ?_
      exact gx_zret K hr hlk d_Tax_isKnown_32 ⟨gRb (by rw [m_known, ← hre _ (I.1 c0).2, h24]), rfl⟩
    · skip
      refine gx_iconst (v := b2i true) K d_Tax_isKnown_27 rfl ?_
      refine gx_goto K d_Tax_isKnown_28 rfl ?_
      exact gx_zret K hr hlk d_Tax_isKnown_32 ⟨gRb (by rw [m_known, ← hre _ (I.1 c0).2, h24]), rfl⟩

set_option maxRecDepth 100000 in
set_option maxHeartbeats 1000000 in
theorem z_Tax_doesCount {l : Launch} {D : va_G} {ty : Nat → ClassId} {tt : Nat} {a : Nat → Nat} {N : Nat → Nat} {r : Nat → Int32} {en re : Int32} {O : Nat → Nat → Option Nat} {z : Nat} {tx : Nat → Int32} {X : Nat → Nat → Bool} {Y : Nat → Nat → Int32} {fc : Nat} {sl : Bool} {pt : Int32} {tot : Int64} {hv : Bool} {rest : va_W} (hN : mN N)  {B : Nat → Nat → Bool} {E : Nat → Nat → Int32} {V : Nat → Int64} (G : cI B N E V O rest re) {q k z1 c0 : Nat} (hc : c0 < N 1) (hk : rest[k]? = some (q, .inr (8, [.int (E 4 c0), .int (E 6 c0), .int (E 7 c0), .int (E 8 c0), .int (E 9 c0), .ref z1]))) : Cd l y_Tax_doesCount c_Tax_doesCount 2 (some .boolean) 3 D ty tt [.ref (a 1), .ref q] (fbW a ty N r en re O z tx X Y fc sl pt tot hv rest) (some (.int (b2i (m_counts B E c0)))) (fbW a ty N r en re O z tx X Y fc sl pt tot hv rest) := by
  obtain ⟨n0, n1, n2, n3, n4, n5⟩ := id hN
  obtain ⟨pC, pA, pX, pU, pF, I, hA, hF, hre, hV⟩ := id G
  have hAc := hA c0 hc
  refine Ct_of (by decide) (gle rfl) (fun p e s m args below meth c K hr hlk hin => ?_)
  refine gx_aload_n K d_Tax_doesCount_0 rfl rfl ?_
  refine gx_get K f_Tax_12 (q0 := 1) rfl rfl d_Tax_doesCount_1 ?_
  refine gx_aload_n K d_Tax_doesCount_4 rfl rfl ?_
  refine gx_getN K f_Tax_69 (fb_pl hk) rfl d_Tax_doesCount_5 ?_
  refine gx_VNd K (z_Doc_isReachedN hN (I.2.1 (c0)).1 (I.2.1 (c0)).2) Y_Doc_isReached (ci := 2) rfl (q0 := 2) rfl k234 ks2 k523 rfl ⟨gle rfl, gle rfl⟩ ⟨gle rfl, gle rfl⟩ (gle rfl) d_Tax_doesCount_8 ?_
  refine gx_if_eqB K d_Tax_doesCount_11 rfl (fun h11 => ?_) (fun h11 => ?_)
  · skip
    refine gx_iconst (v := b2i false) K d_Tax_doesCount_40 rfl ?_
    exact gx_zret K hr hlk d_Tax_doesCount_41 ⟨gRb (by rw [m_counts, ← hre _ (I.2.1 c0).2]; simp [h11]), rfl⟩
  · skip
    refine gx_aload_n K d_Tax_doesCount_14 rfl rfl ?_
    refine gx_aload_n K d_Tax_doesCount_15 rfl rfl ?_
    refine gx_getN K f_Tax_70 (fb_pl hk) rfl d_Tax_doesCount_16 ?_
    refine gx_Vd K (z_Tax_isKnown hN (I.2.2.1 (c0)).1 (by omega) G) Y_Tax_isKnown (ci := 1) rfl (q0 := 1) rfl k526 ks21 k524 rfl ⟨gle rfl, gle rfl⟩ ⟨gle rfl, gle rfl⟩ (gle rfl) d_Tax_doesCount_19 ?_
    refine gx_if_eqB K d_Tax_doesCount_22 rfl (fun h22 => ?_) (fun h22 => ?_)
    · skip
      refine gx_iconst (v := b2i false) K d_Tax_doesCount_40 rfl ?_
      exact gx_zret K hr hlk d_Tax_doesCount_41 ⟨gRb (by rw [m_counts, ← hre _ (I.2.1 c0).2]; simp [h11, h22]), rfl⟩
    · skip
      refine gx_aload_n K d_Tax_doesCount_25 rfl rfl ?_
      refine gx_aload_n K d_Tax_doesCount_26 rfl rfl ?_
      refine gx_getN K f_Tax_76 (fb_pl hk) rfl d_Tax_doesCount_27 ?_
      refine gx_Vd K (z_Tax_isKnown hN (I.2.2.2.1 (c0)).1 (by omega) G) Y_Tax_isKnown (ci := 1) rfl (q0 := 1) rfl k526 ks21 k524 rfl ⟨gle rfl, gle rfl⟩ ⟨gle rfl, gle rfl⟩ (gle rfl) d_Tax_doesCount_30 ?_
      refine gx_if_eqB K d_Tax_doesCount_33 rfl (fun h33 => ?_) (fun h33 => ?_)
      · skip
        refine gx_iconst (v := b2i false) K d_Tax_doesCount_40 rfl ?_
        exact gx_zret K hr hlk d_Tax_doesCount_41 ⟨gRb (by rw [m_counts, ← hre _ (I.2.1 c0).2]; simp [h11, h22, h33]), rfl⟩
      · skip
        refine gx_iconst (v := b2i true) K d_Tax_doesCount_36 rfl ?_
        refine gx_goto K d_Tax_doesCount_37 rfl ?_
        exact gx_zret K hr hlk d_Tax_doesCount_41 ⟨gRb (by rw [m_counts, ← hre _ (I.2.1 c0).2]; simp [h11, h22, h33]), rfl⟩

set_option maxRecDepth 100000 in
set_option maxHeartbeats 1000000 in
theorem z_Tax_beats {l : Launch} {D : va_G} {ty : Nat → ClassId} {tt : Nat} {a : Nat → Nat} {N : Nat → Nat} {r : Nat → Int32} {en re : Int32} {O : Nat → Nat → Option Nat} {z : Nat} {tx : Nat → Int32} {X : Nat → Nat → Bool} {Y : Nat → Nat → Int32} {fc : Nat} {sl : Bool} {pt : Int32} {tot : Int64} {hv : Bool} {rest : va_W} (hN : mN N) {x y : Int32} {d0 c0 : Nat} (hx : x = nI d0) (hd : d0 < N 1) (hy : y = nI c0) (hc : c0 < N 1) {B : Nat → Nat → Bool} {E : Nat → Nat → Int32} {V : Nat → Int64} (G : cI B N E V O rest re) : Cd l y_Tax_beats c_Tax_beats 5 (some .boolean) 1 D ty tt [.ref (a 1), .int x, .int y] (fbW a ty N r en re O z tx X Y fc sl pt tot hv rest) (some (.int (b2i (c_beat B E c0 d0)))) (fbW a ty N r en re O z tx X Y fc sl pt tot hv rest) := by
  obtain ⟨n0, n1, n2, n3, n4, n5⟩ := id hN
  subst hx
  subst hy
  obtain ⟨pC, pA, pX, pU, pF, I, hA, hF, hre, hV⟩ := id G
  refine Ct_of (by decide) (gle rfl) (fun p e s m args below meth c K hr hlk hin => ?_)
  refine gx_iload_n K d_Tax_beats_0 rfl rfl ?_
  refine gx_iload_n K d_Tax_beats_1 rfl rfl ?_
  refine gx_icmp_eq K d_Tax_beats_2 rfl (fun h2 => ?_) (fun h2 => ?_)
  · skip
    have h2n : d0 = c0 := (nI_eq (a := d0) (b := c0) (by omega) (by omega)).mp h2
    refine gx_iconst (v := b2i false) K d_Tax_beats_23 rfl ?_
    exact gx_zret K hr hlk d_Tax_beats_24 ⟨gRb (by simp [c_beat, m_alike, h2, h2n] <;> simp_all), rfl⟩
  · skip
    have h2n : ¬ d0 = c0 := fun q => h2 ((nI_eq (a := d0) (b := c0) (by omega) (by omega)).mpr q)
    refine gx_aload_n K d_Tax_beats_5 rfl rfl ?_
    refine gx_get K f_Tax_26 (q0 := 1) rfl rfl d_Tax_beats_6 ?_
    refine gx_iload_n K d_Tax_beats_9 rfl rfl ?_
    refine gx_aald K (t := 5) rfl (q0 := 5) rfl rfl (by omega) (by decide) d_Tax_beats_10 ?_
    obtain ⟨q10, k10, z10, j10, hO10, hk10, gk10⟩ := pA (c0) (by omega)
    rw [hO10]
    refine gx_aload_n K d_Tax_beats_11 rfl rfl ?_
    refine gx_get K f_Tax_26 (q0 := 1) rfl rfl d_Tax_beats_12 ?_
    refine gx_iload_n K d_Tax_beats_15 rfl rfl ?_
    refine gx_aald K (t := 5) rfl (q0 := 5) rfl rfl (by omega) (by decide) d_Tax_beats_16 ?_
    obtain ⟨q16, k16, z16, j16, hO16, hk16, gk16⟩ := pA (d0) (by omega)
    rw [hO16]
    refine gx_VNd K (z_Arc_isAlike (fb_pl hk10) (fb_pl hk16) (fb_pl gk10) (fb_pl gk16)) Y_Arc_isAlike (ci := 8) rfl (fb_pl hk10) k538 ks24 k536 rfl ⟨gle rfl, gle rfl⟩ ⟨gle rfl, gle rfl⟩ (gle rfl) d_Tax_beats_17 ?_
    refine gx_if_neB K d_Tax_beats_20 rfl (fun h20 => ?_) (fun h20 => ?_)
    · skip
      refine gx_aload_n K d_Tax_beats_25 rfl rfl ?_
      refine gx_get K f_Tax_26 (q0 := 1) rfl rfl d_Tax_beats_26 ?_
      refine gx_iload_n K d_Tax_beats_29 rfl rfl ?_
      refine gx_aald K (t := 5) rfl (q0 := 5) rfl rfl (by omega) (by decide) d_Tax_beats_30 ?_
      obtain ⟨q30, k30, z30, j30, hO30, hk30, gk30⟩ := pA (c0) (by omega)
      rw [hO30]
      refine gx_getN K f_Tax_83 (fb_pl hk30) rfl d_Tax_beats_31 ?_
      refine gx_astore_n K d_Tax_beats_34 rfl (gle rfl) rfl ?_
      refine gx_aload_n K d_Tax_beats_35 rfl rfl ?_
      refine gx_get K f_Tax_26 (q0 := 1) rfl rfl d_Tax_beats_36 ?_
      refine gx_iload_n K d_Tax_beats_39 rfl rfl ?_
      refine gx_aald K (t := 5) rfl (q0 := 5) rfl rfl (by omega) (by decide) d_Tax_beats_40 ?_
      obtain ⟨q40, k40, z40, j40, hO40, hk40, gk40⟩ := pA (d0) (by omega)
      rw [hO40]
      refine gx_getN K f_Tax_83 (fb_pl hk40) rfl d_Tax_beats_41 ?_
      refine gx_astore K d_Tax_beats_44 (gle rfl) rfl ?_
      refine gx_aload K d_Tax_beats_46 rfl ?_
      refine gx_getN K f_Tax_84 (fb_pl gk40) rfl d_Tax_beats_48 ?_
      refine gx_aload_n K d_Tax_beats_51 rfl rfl ?_
      refine gx_getN K f_Tax_84 (fb_pl gk30) rfl d_Tax_beats_52 ?_
      refine gx_icmp_eq K d_Tax_beats_55 rfl (fun h55 => ?_) (fun h55 => ?_)
      · skip
        refine gx_aload K d_Tax_beats_76 rfl ?_
        refine gx_getN K f_Tax_87 (fb_pl gk40) rfl d_Tax_beats_78 ?_
        refine gx_if_neB K d_Tax_beats_81 rfl (fun h81 => ?_) (fun h81 => ?_)
        · skip
          refine gx_iconst (v := b2i true) K d_Tax_beats_89 rfl ?_
          refine gx_goto K d_Tax_beats_90 rfl ?_
          exact gx_zret K hr hlk d_Tax_beats_94 ⟨gRb (by simp [c_beat, m_alike, h2, h2n, h20, h55, h81] <;> simp_all), rfl⟩
        · skip
          refine gx_iload_n K d_Tax_beats_84 rfl rfl ?_
          refine gx_iload_n K d_Tax_beats_85 rfl rfl ?_
          refine gx_icmp_ge K d_Tax_beats_86 rfl (fun h86 => ?_) (fun h86 => ?_)
          · skip
            have h86n : c0 ≤ d0 := (nI_leI (a := c0) (b := d0) (by omega) (by omega)).mp h86
            refine gx_iconst (v := b2i false) K d_Tax_beats_93 rfl ?_
            exact gx_zret K hr hlk d_Tax_beats_94 ⟨gRb (by simp [c_beat, m_alike, h2, h2n, h20, h55, h81, h86, h86n, Nat.not_lt.mpr h86n, Int32.not_lt.mpr h86] <;> simp_all), rfl⟩
          · skip
            have h86n : ¬ c0 ≤ d0 := fun q => h86 ((nI_leI (a := c0) (b := d0) (by omega) (by omega)).mpr q)
            refine gx_iconst (v := b2i true) K d_Tax_beats_89 rfl ?_
            refine gx_goto K d_Tax_beats_90 rfl ?_
            exact gx_zret K hr hlk d_Tax_beats_94 ⟨gRb (by simp [c_beat, m_alike, h2, h2n, h20, h55, h81, h86, h86n, Nat.not_le.mp h86n, Int32.not_le.mp h86] <;> simp_all), rfl⟩
      · skip
        refine gx_aload K d_Tax_beats_58 rfl ?_
        refine gx_getN K f_Tax_84 (fb_pl gk40) rfl d_Tax_beats_60 ?_
        refine gx_aload_n K d_Tax_beats_63 rfl rfl ?_
        refine gx_getN K f_Tax_84 (fb_pl gk30) rfl d_Tax_beats_64 ?_
        refine gx_icmp_le K d_Tax_beats_67 rfl (fun h67 => ?_) (fun h67 => ?_)
        · skip
          refine gx_iconst (v := b2i false) K d_Tax_beats_74 rfl ?_
          exact gx_zret K hr hlk d_Tax_beats_75 ⟨gRb (by simp [c_beat, m_alike, h2, h2n, h20, h55, h67, Int32.not_lt.mpr h67] <;> simp_all), rfl⟩
        · skip
          refine gx_iconst (v := b2i true) K d_Tax_beats_70 rfl ?_
          refine gx_goto K d_Tax_beats_71 rfl ?_
          exact gx_zret K hr hlk d_Tax_beats_75 ⟨gRb (by simp [c_beat, m_alike, h2, h2n, h20, h55, h67, Int32.not_le.mp h67] <;> simp_all), rfl⟩
    · skip
      refine gx_iconst (v := b2i false) K d_Tax_beats_23 rfl ?_
      exact gx_zret K hr hlk d_Tax_beats_24 ⟨gRb (by simp [c_beat, m_alike, h2, h2n, h20] <;> simp_all), rfl⟩

set_option maxRecDepth 100000 in
set_option maxHeartbeats 1000000 in
theorem z_Tax_hasWrongSign {l : Launch} {D : va_G} {ty : Nat → ClassId} {tt : Nat} {a : Nat → Nat} {N : Nat → Nat} {r : Nat → Int32} {en re : Int32} {O : Nat → Nat → Option Nat} {z : Nat} {tx : Nat → Int32} {X : Nat → Nat → Bool} {Y : Nat → Nat → Int32} {fc : Nat} {sl : Bool} {pt : Int32} {tot : Int64} {hv : Bool} {rest : va_W} (hN : mN N)  {B : Nat → Nat → Bool} {E : Nat → Nat → Int32} {V : Nat → Int64} (G : cI B N E V O rest re) {q k z1 c0 : Nat} (hc : c0 < N 1) (hk : rest[k]? = some (q, .inr (8, [.int (E 4 c0), .int (E 6 c0), .int (E 7 c0), .int (E 8 c0), .int (E 9 c0), .ref z1]))) : Cd l y_Tax_hasWrongSign c_Tax_hasWrongSign 4 (some .boolean) 0 D ty tt [.ref (a 1), .ref q] (fbW a ty N r en re O z tx X Y fc sl pt tot hv rest) (some (.int (b2i (c_ws E c0)))) (fbW a ty N r en re O z tx X Y fc sl pt tot hv rest) := by
  obtain ⟨n0, n1, n2, n3, n4, n5⟩ := id hN
  obtain ⟨pC, pA, pX, pU, pF, I, hA, hF, hre, hV⟩ := id G
  have hAc := hA c0 hc
  refine Ct_of (by decide) (gle rfl) (fun p e s m args below meth c K hr hlk hin => ?_)
  refine gx_aload_n K d_Tax_hasWrongSign_0 rfl rfl ?_
  refine gx_get K f_Tax_20 (q0 := 1) rfl rfl d_Tax_hasWrongSign_1 ?_
  refine gx_aload_n K d_Tax_hasWrongSign_4 rfl rfl ?_
  refine gx_getN K f_Tax_70 (fb_pl hk) rfl d_Tax_hasWrongSign_5 ?_
  refine gx_aald K (t := 4) rfl (q0 := 4) rfl (I.2.2.1 (c0)).1 (I.2.2.1 (c0)).2 (by decide) d_Tax_hasWrongSign_8 ?_
  obtain ⟨q8, k8, hO8, hk8⟩ := pC ((ix (E 7 (c0)))) (by omega)
  rw [hO8]
  refine gx_getN K f_Tax_91 (fb_pl hk8) rfl d_Tax_hasWrongSign_9 ?_
  refine gx_istore_n K d_Tax_hasWrongSign_12 rfl (gle rfl) rfl ?_
  refine gx_aload_n K d_Tax_hasWrongSign_13 rfl rfl ?_
  refine gx_get K f_Tax_20 (q0 := 1) rfl rfl d_Tax_hasWrongSign_14 ?_
  refine gx_aload_n K d_Tax_hasWrongSign_17 rfl rfl ?_
  refine gx_getN K f_Tax_76 (fb_pl hk) rfl d_Tax_hasWrongSign_18 ?_
  refine gx_aald K (t := 4) rfl (q0 := 4) rfl (I.2.2.2.1 (c0)).1 (I.2.2.2.1 (c0)).2 (by decide) d_Tax_hasWrongSign_21 ?_
  obtain ⟨q21, k21, hO21, hk21⟩ := pC ((ix (E 8 (c0)))) (by omega)
  rw [hO21]
  refine gx_getN K f_Tax_91 (fb_pl hk21) rfl d_Tax_hasWrongSign_22 ?_
  refine gx_istore_n K d_Tax_hasWrongSign_25 rfl (gle rfl) rfl ?_
  refine gx_iload_n K d_Tax_hasWrongSign_26 rfl rfl ?_
  refine gx_if_eq K d_Tax_hasWrongSign_27 rfl (fun h27 => ?_) (fun h27 => ?_)
  · skip
    refine gx_iconst (v := b2i false) K d_Tax_hasWrongSign_34 rfl ?_
    exact gx_zret K hr hlk d_Tax_hasWrongSign_35 ⟨gRb (by simp [c_ws, h27] <;> simp_all), rfl⟩
  · skip
    refine gx_iload_n K d_Tax_hasWrongSign_30 rfl rfl ?_
    refine gx_if_ne K d_Tax_hasWrongSign_31 rfl (fun h31 => ?_) (fun h31 => ?_)
    · skip
      refine gx_iload_n K d_Tax_hasWrongSign_36 rfl rfl ?_
      refine gx_iload_n K d_Tax_hasWrongSign_37 rfl rfl ?_
      refine gx_icmp_ne K d_Tax_hasWrongSign_38 rfl (fun h38 => ?_) (fun h38 => ?_)
      · skip
        refine gx_aload_n K d_Tax_hasWrongSign_56 rfl rfl ?_
        refine gx_getN K f_Tax_94 (fb_pl hk) rfl d_Tax_hasWrongSign_57 ?_
        refine gx_if_le K d_Tax_hasWrongSign_60 rfl (fun h60 => ?_) (fun h60 => ?_)
        · skip
          refine gx_iconst (v := b2i false) K d_Tax_hasWrongSign_67 rfl ?_
          exact gx_zret K hr hlk d_Tax_hasWrongSign_68 ⟨gRb (by simp [c_ws, h27, h31, h38, h60, Int32.not_lt.mpr h60] <;> simp_all), rfl⟩
        · skip
          refine gx_iconst (v := b2i true) K d_Tax_hasWrongSign_63 rfl ?_
          refine gx_goto K d_Tax_hasWrongSign_64 rfl ?_
          exact gx_zret K hr hlk d_Tax_hasWrongSign_68 ⟨gRb (by simp [c_ws, h27, h31, h38, h60, Int32.not_le.mp h60] <;> simp_all), rfl⟩
      · skip
        refine gx_aload_n K d_Tax_hasWrongSign_41 rfl rfl ?_
        refine gx_getN K f_Tax_94 (fb_pl hk) rfl d_Tax_hasWrongSign_42 ?_
        refine gx_if_ge K d_Tax_hasWrongSign_45 rfl (fun h45 => ?_) (fun h45 => ?_)
        · skip
          refine gx_iconst (v := b2i false) K d_Tax_hasWrongSign_52 rfl ?_
          refine gx_goto K d_Tax_hasWrongSign_53 rfl ?_
          exact gx_zret K hr hlk d_Tax_hasWrongSign_68 ⟨gRb (by simp [c_ws, h27, h31, h38, h45, Int32.not_lt.mpr h45] <;> simp_all), rfl⟩
        · skip
          refine gx_iconst (v := b2i true) K d_Tax_hasWrongSign_48 rfl ?_
          refine gx_goto K d_Tax_hasWrongSign_49 rfl ?_
          exact gx_zret K hr hlk d_Tax_hasWrongSign_68 ⟨gRb (by simp [c_ws, h27, h31, h38, h45, Int32.not_le.mp h45] <;> simp_all), rfl⟩
    · skip
      refine gx_iconst (v := b2i false) K d_Tax_hasWrongSign_34 rfl ?_
      exact gx_zret K hr hlk d_Tax_hasWrongSign_35 ⟨gRb (by simp [c_ws, h27, h31] <;> simp_all), rfl⟩

