def fillB (f g : Nat → Bool) : Nat → Nat → Bool
  | 0 => g
  | i + 1 => va_up (fillB f g i) i (f i)
def fillI (f g : Nat → Int32) : Nat → Nat → Int32
  | 0 => g
  | i + 1 => upd (fillI f g i) i (f i)
theorem fillB_at (f g : Nat → Bool) : ∀ n j, j < n → fillB f g n j = f j
  | 0, j, h => absurd h (Nat.not_lt_zero j)
  | n + 1, j, h => by
    show va_up (fillB f g n) n (f n) j = f j
    by_cases e : j = n
    · rw [e, va_up_self]
    · rw [gup_ne _ _ e]; exact fillB_at f g n j (by omega)
theorem fillI_at (f g : Nat → Int32) : ∀ n j, j < n → fillI f g n j = f j
  | 0, j, h => absurd h (Nat.not_lt_zero j)
  | n + 1, j, h => by
    show upd (fillI f g n) n (f n) j = f j
    by_cases e : j = n
    · rw [e, pk_us]
    · rw [pk_un e]; exact fillI_at f g n j (by omega)
/-! which arcs are left: the class's way is the reference's -/
theorem alike_self (E : Nat → Nat → Int32) (a : Nat) : m_alike E a a = true := by simp [m_alike]
theorem beat_ne {B : Nat → Nat → Bool} {E : Nat → Nat → Int32} {a b : Nat} (h : ¬ b = a) : m_beat B E a b = (m_counts B E b && c_beat B E a b) := by
  unfold m_beat c_beat
  rw [decide_eq_false h]
  by_cases hp : E 10 b = E 10 a
  · have : ¬ E 10 a < E 10 b := by rw [hp]; exact fun q => Int32.lt_irrefl q
    simp [hp, Bool.and_assoc]
  · simp [hp, Bool.and_assoc]
theorem beat_self {B : Nat → Nat → Bool} {E : Nat → Nat → Int32} {a : Nat} : m_beat B E a a = (m_counts B E a && B 3 a) := by
  unfold m_beat
  simp [alike_self, Int32.lt_irrefl]
theorem left_no1 {B : Nat → Nat → Bool} {N : Nat → Nat} {E : Nat → Nat → Int32} {a : Nat} (h : m_counts B E a = false) : m_left B N E a = false := by
  unfold m_left
  rw [h, Bool.false_and]
theorem left_beat {B : Nat → Nat → Bool} {N : Nat → Nat} {E : Nat → Nat → Int32} {a b : Nat} (hb : b < N 1) (h : m_beat B E a b = true) : m_left B N E a = false := by
  unfold m_left
  cases hall : allB (fun b => !(m_beat B E a b)) (N 1) with
  | false => rw [Bool.and_false]
  | true =>
    have := allB_iff.mp hall b hb
    rw [h] at this
    cases this
theorem left_no2 {B : Nat → Nat → Bool} {N : Nat → Nat} {E : Nat → Nat → Int32} {a : Nat} (ha : a < N 1) (hc : m_counts B E a = true) (h : B 3 a = true) : m_left B N E a = false := left_beat ha (by rw [beat_self, hc, h]; rfl)
theorem left_no3 {B : Nat → Nat → Bool} {N : Nat → Nat} {E : Nat → Nat → Int32} {a b : Nat} (hb : b < N 1) (hc : m_counts B E b = true) (h : c_beat B E a b = true) : m_left B N E a = false := by
  have hne : ¬ b = a := by
    intro q
    rw [c_beat, decide_eq_true q] at h
    cases h
  exact left_beat hb (by rw [beat_ne hne, hc, h]; rfl)
theorem left_yes {B : Nat → Nat → Bool} {N : Nat → Nat} {E : Nat → Nat → Int32} {a : Nat} (hc : m_counts B E a = true) (hp : B 3 a = false) (h : ∀ j, j < N 1 → (m_counts B E j && c_beat B E a j) = false) : m_left B N E a = true := by
  unfold m_left
  rw [hc, Bool.true_and, allB_iff]
  intro i hi
  by_cases e : i = a
  · rw [e, beat_self, hp, Bool.and_false]; rfl
  · rw [beat_ne e, h i hi]; rfl
set_option maxRecDepth 100000 in
set_option maxHeartbeats 1000000 in
theorem z_Rev_isLeft {l : Launch} {D : va_G} {ty : Nat → ClassId} {tt : Nat} {a : Nat → Nat} {N : Nat → Nat} {r : Nat → Int32} {en re : Int32} {O : Nat → Nat → Option Nat} {z : Nat} {tx : Nat → Int32} {X : Nat → Nat → Bool} {Y : Nat → Nat → Int32} {fc : Nat} {sl : Bool} {pt : Int32} {tot : Int64} {hv : Bool} {rest : va_W} (hN : mN N) {x : Int32} {c0 : Nat} (hx : x = nI c0) (hc : c0 < N 1) {B : Nat → Nat → Bool} {E : Nat → Nat → Int32} {V : Nat → Int64} (G : cI B N E V O rest re) (hX : ∀ j, j < N 1 → X 0 j = m_counts B E j) : Cd l y_Rev_isLeft c_Rev_isLeft 3 (some .boolean) 2 D ty tt [.ref (a 12), .int x] (fbW a ty N r en re O z tx X Y fc sl pt tot hv rest) (some (.int (b2i (m_left B N E c0)))) (fbW a ty N r en re O z tx X Y fc sl pt tot hv rest) := by
  obtain ⟨n0, n1, n2, n3, n4, n5⟩ := id hN
  subst hx
  obtain ⟨pC, pA, pX, pU, pF, I, hA, hF, hre, hV⟩ := id G
  refine Ct_of (by decide) (gle rfl) (fun p e s m args below meth c K hr hlk hin => ?_)
  refine gx_aload_n K d_Rev_isLeft_0 rfl rfl ?_
  refine gx_get K f_Rev_9 (q0 := 12) rfl rfl d_Rev_isLeft_1 ?_
  refine gx_iload_n K d_Rev_isLeft_4 rfl rfl ?_
  refine gx_zld K (q0 := 13) rfl rfl (by omega) (by decide) d_Rev_isLeft_5 ?_
  refine gx_if_eqB K d_Rev_isLeft_6 rfl (fun h6 => ?_) (fun h6 => ?_)
  · skip
    refine gx_iconst (v := b2i false) K d_Rev_isLeft_27 rfl ?_
    exact gx_zret K hr hlk d_Rev_isLeft_28 ⟨gRb (left_no1 ((hX c0 hc).symm.trans h6)).symm, rfl⟩
  · skip
    refine gx_aload_n K d_Rev_isLeft_9 rfl rfl ?_
    refine gx_get K f_Rev_31 (q0 := 12) rfl rfl d_Rev_isLeft_10 ?_
    refine gx_getN K f_Rev_76 (q0 := 1) rfl rfl d_Rev_isLeft_13 ?_
    refine gx_iload_n K d_Rev_isLeft_16 rfl rfl ?_
    refine gx_aald K (t := 5) rfl (q0 := 5) rfl rfl (by omega) (by decide) d_Rev_isLeft_17 ?_
    obtain ⟨q17, k17, z17, j17, hO17, hk17, gk17⟩ := pA (c0) (by omega)
    rw [hO17]
    refine gx_getN K f_Rev_88 (fb_pl hk17) rfl d_Rev_isLeft_18 ?_
    refine gx_getN K f_Rev_94 (fb_pl gk17) rfl d_Rev_isLeft_21 ?_
    refine gx_if_eqB K d_Rev_isLeft_24 rfl (fun h24 => ?_) (fun h24 => ?_)
    · skip
      refine gx_iconst (v := 0) K d_Rev_isLeft_29 rfl ?_
      refine gx_istore_n K d_Rev_isLeft_30 rfl (gle rfl) rfl ?_
      refine gx_loopP [true, true, true] (N 1) (fun i => ∀ j, j < i → (X 0 j && c_beat B E c0 j) = false) (fun i => (fbW a ty N r en re O z tx X Y fc sl pt tot hv rest)) (fun i => [some (.ref (a 12)), some (.int (nI c0)), some (.int (nI i))]) (fun j hj => absurd hj (Nat.not_lt_zero j)) rfl rfl (fun i hi hP ihi => ?_) (fun hP => ?_)
      · skip
        refine gx_iload_n K d_Rev_isLeft_31 rfl rfl ?_
        refine gx_aload_n K d_Rev_isLeft_32 rfl rfl ?_
        refine gx_get K f_Rev_31 (q0 := 12) rfl rfl d_Rev_isLeft_33 ?_
        refine gx_getN K f_Rev_71 (q0 := 1) rfl rfl d_Rev_isLeft_36 ?_
        refine gx_icmp_geF K d_Rev_isLeft_39 rfl (nI_ge hi (by omega)) ?_
        refine gx_aload_n K d_Rev_isLeft_42 rfl rfl ?_
        refine gx_get K f_Rev_9 (q0 := 12) rfl rfl d_Rev_isLeft_43 ?_
        refine gx_iload_n K d_Rev_isLeft_46 rfl rfl ?_
        refine gx_zld K (q0 := 13) rfl rfl (by omega) (by decide) d_Rev_isLeft_47 ?_
        refine gx_if_eqB K d_Rev_isLeft_48 rfl (fun h48 => ?_) (fun h48 => ?_)
        · skip
          refine gx_iinc (v := nI (i + 1)) K d_Rev_isLeft_65 rfl (nI_add _ _) (gle rfl) rfl ?_
          refine gx_goto K d_Rev_isLeft_68 rfl ?_
          exact gx_back [true, true, true] rfl rfl (ihi (fun j hj => by
            rcases Nat.lt_succ_iff_lt_or_eq.mp hj with q | q
            · exact hP j q
            · rw [q, h48]; rfl))
        · skip
          refine gx_aload_n K d_Rev_isLeft_51 rfl rfl ?_
          refine gx_get K f_Rev_31 (q0 := 12) rfl rfl d_Rev_isLeft_52 ?_
          refine gx_iload_n K d_Rev_isLeft_55 rfl rfl ?_
          refine gx_iload_n K d_Rev_isLeft_56 rfl rfl ?_
          refine gx_VNd K (z_Tax_beats hN rfl hi rfl hc G) Y_Tax_beats (ci := 1) rfl (q0 := 1) rfl k534 ks23 k532 rfl ⟨gle rfl, gle rfl⟩ ⟨gle rfl, gle rfl⟩ (gle rfl) d_Rev_isLeft_57 ?_
          refine gx_if_eqB K d_Rev_isLeft_60 rfl (fun h60 => ?_) (fun h60 => ?_)
          · skip
            refine gx_iinc (v := nI (i + 1)) K d_Rev_isLeft_65 rfl (nI_add _ _) (gle rfl) rfl ?_
            refine gx_goto K d_Rev_isLeft_68 rfl ?_
            exact gx_back [true, true, true] rfl rfl (ihi (fun j hj => by
            rcases Nat.lt_succ_iff_lt_or_eq.mp hj with q | q
            · exact hP j q
            · rw [q, h60]; simp))
          · skip
            refine gx_iconst (v := b2i false) K d_Rev_isLeft_63 rfl ?_
            exact gx_zret K hr hlk d_Rev_isLeft_64 ⟨gRb (left_no3 hi ((hX i hi).symm.trans h48) h60).symm, rfl⟩
      · skip
        refine gx_iload_n K d_Rev_isLeft_31 rfl rfl ?_
        refine gx_aload_n K d_Rev_isLeft_32 rfl rfl ?_
        refine gx_get K f_Rev_31 (q0 := 12) rfl rfl d_Rev_isLeft_33 ?_
        refine gx_getN K f_Rev_71 (q0 := 1) rfl rfl d_Rev_isLeft_36 ?_
        refine gx_icmp_geT K d_Rev_isLeft_39 rfl (Int32.le_refl _) ?_
        refine gx_iconst (v := b2i true) K d_Rev_isLeft_71 rfl ?_
        exact gx_zret K hr hlk d_Rev_isLeft_72 ⟨gRb (left_yes ((hX c0 hc).symm.trans h6) h24 (fun j hj => by rw [← hX j hj]; exact hP j hj)).symm, rfl⟩
    · skip
      refine gx_iconst (v := b2i false) K d_Rev_isLeft_27 rfl ?_
      exact gx_zret K hr hlk d_Rev_isLeft_28 ⟨gRb (left_no2 hc ((hX c0 hc).symm.trans h6) h24).symm, rfl⟩

def x_mark (B : Nat → Nat → Bool) (N : Nat → Nat) (E : Nat → Nat → Int32) (X : Nat → Nat → Bool) : Nat → Nat → Bool := va_up (va_up X 0 (fillB (fun j => m_counts B E j) (X 0) (N 1))) 1 (fillB (fun j => m_left B N E j) (X 1) (N 1))
set_option maxRecDepth 100000 in
set_option maxHeartbeats 1000000 in
theorem z_Rev_markArcs {l : Launch} {D : va_G} {ty : Nat → ClassId} {tt : Nat} {a : Nat → Nat} {N : Nat → Nat} {r : Nat → Int32} {en re : Int32} {O : Nat → Nat → Option Nat} {z : Nat} {tx : Nat → Int32} {X : Nat → Nat → Bool} {Y : Nat → Nat → Int32} {fc : Nat} {sl : Bool} {pt : Int32} {tot : Int64} {hv : Bool} {rest : va_W} (hN : mN N)  {B : Nat → Nat → Bool} {E : Nat → Nat → Int32} {V : Nat → Int64} (G : cI B N E V O rest re) : Cd l y_Rev_markArcs c_Rev_markArcs 2 none 4 D ty tt [.ref (a 12)] (fbW a ty N r en re O z tx X Y fc sl pt tot hv rest) none (fbW a ty N r en re O z tx (x_mark B N E X) Y fc sl pt tot hv rest) := by
  obtain ⟨n0, n1, n2, n3, n4, n5⟩ := id hN
  obtain ⟨pC, pA, pX, pU, pF, I, hA, hF, hre, hV⟩ := id G
  refine Ct_of (by decide) (gle rfl) (fun p e s m args below meth c K hr hlk hin => ?_)
  refine gx_iconst (v := 0) K d_Rev_markArcs_0 rfl ?_
  refine gx_istore_n K d_Rev_markArcs_1 rfl (gle rfl) rfl ?_
  refine gx_loop [true, true] (N 1) (fun i => (fbW a ty N r en re O z tx (va_up X 0 (fillB (fun j => m_counts B E j) (X 0) (i))) Y fc sl pt tot hv rest)) (fun i => [some (.ref (a 12)), some (.int (nI i))]) (by rw [show va_up X 0 (fillB (fun j => m_counts B E j) (X 0) (0)) = X from gUpS X 0]) rfl (fun i hi ihi => ?_) ?_
  · skip
    refine gx_iload_n K d_Rev_markArcs_2 rfl rfl ?_
    refine gx_aload_n K d_Rev_markArcs_3 rfl rfl ?_
    refine gx_get K f_Rev_31 (q0 := 12) rfl rfl d_Rev_markArcs_4 ?_
    refine gx_getN K f_Rev_71 (q0 := 1) rfl rfl d_Rev_markArcs_7 ?_
    refine gx_icmp_geF K d_Rev_markArcs_10 rfl (nI_ge hi (by omega)) ?_
    refine gx_aload_n K d_Rev_markArcs_13 rfl rfl ?_
    refine gx_get K f_Rev_9 (q0 := 12) rfl rfl d_Rev_markArcs_14 ?_
    refine gx_iload_n K d_Rev_markArcs_17 rfl rfl ?_
    refine gx_aload_n K d_Rev_markArcs_18 rfl rfl ?_
    refine gx_get K f_Rev_31 (q0 := 12) rfl rfl d_Rev_markArcs_19 ?_
    refine gx_aload_n K d_Rev_markArcs_22 rfl rfl ?_
    refine gx_get K f_Rev_31 (q0 := 12) rfl rfl d_Rev_markArcs_23 ?_
    refine gx_getN K f_Rev_76 (q0 := 1) rfl rfl d_Rev_markArcs_26 ?_
    refine gx_iload_n K d_Rev_markArcs_29 rfl rfl ?_
    refine gx_aald K (t := 5) rfl (q0 := 5) rfl rfl (by omega) (by decide) d_Rev_markArcs_30 ?_
    obtain ⟨q30, k30, z30, j30, hO30, hk30, gk30⟩ := pA (i) (by omega)
    rw [hO30]
    refine gx_VNd K (z_Tax_doesCount hN G (by omega) hk30) Y_Tax_doesCount (ci := 1) rfl (q0 := 1) rfl k521 ks20 k519 rfl ⟨gle rfl, gle rfl⟩ ⟨gle rfl, gle rfl⟩ (gle rfl) d_Rev_markArcs_31 ?_
    refine gx_zst K (q0 := 13) rfl rfl (by omega) (by decide) d_Rev_markArcs_34 ?_
    refine gx_iinc (v := nI (i + 1)) K d_Rev_markArcs_35 rfl (nI_add _ _) (gle rfl) rfl ?_
    refine gx_goto K d_Rev_markArcs_38 rfl ?_
    exact gx_back [true, true] rfl rfl ihi
  · skip
    refine gx_iload_n K d_Rev_markArcs_2 rfl rfl ?_
    refine gx_aload_n K d_Rev_markArcs_3 rfl rfl ?_
    refine gx_get K f_Rev_31 (q0 := 12) rfl rfl d_Rev_markArcs_4 ?_
    refine gx_getN K f_Rev_71 (q0 := 1) rfl rfl d_Rev_markArcs_7 ?_
    refine gx_icmp_geT K d_Rev_markArcs_10 rfl (Int32.le_refl _) ?_
    refine gx_iconst (v := 0) K d_Rev_markArcs_41 rfl ?_
    refine gx_istore_n K d_Rev_markArcs_42 rfl (gle rfl) rfl ?_
    refine gx_loop [true, true] (N 1) (fun i => (fbW a ty N r en re O z tx (va_up (va_up X 0 (fillB (fun j => m_counts B E j) (X 0) (N 1))) 1 (fillB (fun j => m_left B N E j) (X 1) (i))) Y fc sl pt tot hv rest)) (fun i => [some (.ref (a 12)), some (.int (nI i))]) (by rw [show va_up (va_up X 0 (fillB (fun j => m_counts B E j) (X 0) (N 1))) 1 (fillB (fun j => m_left B N E j) (X 1) (0)) = va_up X 0 (fillB (fun j => m_counts B E j) (X 0) (N 1)) from gUpS (va_up X 0 (fillB (fun j => m_counts B E j) (X 0) (N 1))) 1]) rfl (fun i hi ihi => ?_) ?_
    · skip
      refine gx_iload_n K d_Rev_markArcs_43 rfl rfl ?_
      refine gx_aload_n K d_Rev_markArcs_44 rfl rfl ?_
      refine gx_get K f_Rev_31 (q0 := 12) rfl rfl d_Rev_markArcs_45 ?_
      refine gx_getN K f_Rev_71 (q0 := 1) rfl rfl d_Rev_markArcs_48 ?_
      refine gx_icmp_geF K d_Rev_markArcs_51 rfl (nI_ge hi (by omega)) ?_
      refine gx_aload_n K d_Rev_markArcs_54 rfl rfl ?_
      refine gx_get K f_Rev_15 (q0 := 12) rfl rfl d_Rev_markArcs_55 ?_
      refine gx_iload_n K d_Rev_markArcs_58 rfl rfl ?_
      refine gx_aload_n K d_Rev_markArcs_59 rfl rfl ?_
      refine gx_iload_n K d_Rev_markArcs_60 rfl rfl ?_
      refine gx_Vd K (z_Rev_isLeft hN rfl (by omega) G (fun j hj => fillB_at _ _ (N 1) j hj)) Y_Rev_isLeft (ci := 5) rfl (q0 := 12) rfl k530 ks22 k528 rfl ⟨gle rfl, gle rfl⟩ ⟨gle rfl, gle rfl⟩ (gle rfl) d_Rev_markArcs_61 ?_
      refine gx_zst K (q0 := 14) rfl rfl (by omega) (by decide) d_Rev_markArcs_64 ?_
      refine gx_iinc (v := nI (i + 1)) K d_Rev_markArcs_65 rfl (nI_add _ _) (gle rfl) rfl ?_
      refine gx_goto K d_Rev_markArcs_68 rfl ?_
      exact gx_back [true, true] rfl rfl ihi
    · skip
      refine gx_iload_n K d_Rev_markArcs_43 rfl rfl ?_
      refine gx_aload_n K d_Rev_markArcs_44 rfl rfl ?_
      refine gx_get K f_Rev_31 (q0 := 12) rfl rfl d_Rev_markArcs_45 ?_
      refine gx_getN K f_Rev_71 (q0 := 1) rfl rfl d_Rev_markArcs_48 ?_
      refine gx_icmp_geT K d_Rev_markArcs_51 rfl (Int32.le_refl _) ?_
      exact gx_vret K hr hlk d_Rev_markArcs_71 ⟨rfl, rfl⟩

def y_mark (B : Nat → Nat → Bool) (N : Nat → Nat) (E : Nat → Nat → Int32) (Y : Nat → Nat → Int32) : Nat → Nat → Int32 := va_up (va_up Y 0 (fillI (fun f => c_fault E f (ix (E 19 f)) (m_known B E (ix (E 19 f)))) (Y 0) (N 5))) 1 (fillI (fun f => m_twin N E f) (Y 1) (N 5))
set_option maxRecDepth 100000 in
set_option maxHeartbeats 1000000 in
theorem z_Rev_markFacts {l : Launch} {D : va_G} {ty : Nat → ClassId} {tt : Nat} {a : Nat → Nat} {N : Nat → Nat} {r : Nat → Int32} {en re : Int32} {O : Nat → Nat → Option Nat} {z : Nat} {tx : Nat → Int32} {X : Nat → Nat → Bool} {Y : Nat → Nat → Int32} {fc : Nat} {sl : Bool} {pt : Int32} {tot : Int64} {hv : Bool} {rest : va_W} (hN : mN N)  {B : Nat → Nat → Bool} {E : Nat → Nat → Int32} {V : Nat → Int64} (G : cI B N E V O rest re) : Cd l y_Rev_markFacts c_Rev_markFacts 4 none 4 D ty tt [.ref (a 12)] (fbW a ty N r en re O z tx X Y fc sl pt tot hv rest) none (fbW a ty N r en re O z tx X (y_mark B N E Y) fc sl pt tot hv rest) := by
  obtain ⟨n0, n1, n2, n3, n4, n5⟩ := id hN
  obtain ⟨pC, pA, pX, pU, pF, I, hA, hF, hre, hV⟩ := id G
  refine Ct_of (by decide) (gle rfl) (fun p e s m args below meth c K hr hlk hin => ?_)
  refine gx_iconst (v := 0) K d_Rev_markFacts_0 rfl ?_
  refine gx_istore_n K d_Rev_markFacts_1 rfl (gle rfl) rfl ?_
  refine gx_loop [true, true, false, false] (N 5) (fun i => (fbW a ty N r en re O z tx X (va_up (va_up Y 0 (fillI (fun f => c_fault E f (ix (E 19 f)) (m_known B E (ix (E 19 f)))) (Y 0) (i))) 1 (fillI (fun f => m_twin N E f) (Y 1) (i))) fc sl pt tot hv rest)) (fun i => [some (.ref (a 12)), some (.int (nI i)), none, none]) (by rw [show va_up (va_up Y 0 (fillI (fun f => c_fault E f (ix (E 19 f)) (m_known B E (ix (E 19 f)))) (Y 0) (0))) 1 (fillI (fun f => m_twin N E f) (Y 1) (0)) = Y from by rw [show va_up Y 0 (fillI (fun f => c_fault E f (ix (E 19 f)) (m_known B E (ix (E 19 f)))) (Y 0) (0)) = Y from gUpS Y 0]; exact gUpS Y 1]) rfl (fun i hi ihi => ?_) ?_
  · skip
    refine gx_iload_n K d_Rev_markFacts_2 rfl rfl ?_
    refine gx_aload_n K d_Rev_markFacts_3 rfl rfl ?_
    refine gx_get K f_Rev_35 (q0 := 12) rfl rfl d_Rev_markFacts_4 ?_
    refine gx_getN K f_Rev_103 (q0 := 6) rfl rfl d_Rev_markFacts_7 ?_
    refine gx_icmp_geF K d_Rev_markFacts_10 rfl (nI_ge hi (by omega)) ?_
    have hFi := hF i hi
    refine gx_aload_n K d_Rev_markFacts_13 rfl rfl ?_
    refine gx_get K f_Rev_35 (q0 := 12) rfl rfl d_Rev_markFacts_14 ?_
    refine gx_getN K f_Rev_108 (q0 := 6) rfl rfl d_Rev_markFacts_17 ?_
    refine gx_iload_n K d_Rev_markFacts_20 rfl rfl ?_
    refine gx_aald K (t := 8) rfl (q0 := 9) rfl rfl (by omega) (by decide) d_Rev_markFacts_21 ?_
    obtain ⟨q21, k21, x21, i21, u21, hO21, hk21, gk21, uk21⟩ := pF (i) (by omega)
    rw [hO21]
    refine gx_getN K f_Rev_112 (fb_pl hk21) rfl d_Rev_markFacts_22 ?_
    refine gx_istore_n K d_Rev_markFacts_25 rfl (gle rfl) rfl ?_
    refine gx_aload_n K d_Rev_markFacts_26 rfl rfl ?_
    refine gx_get K f_Rev_31 (q0 := 12) rfl rfl d_Rev_markFacts_27 ?_
    refine gx_iload_n K d_Rev_markFacts_30 rfl rfl ?_
    refine gx_VNd K (z_Tax_isKnown hN (I.2.2.2.2.1 (i)).1 (hF i hi) G) Y_Tax_isKnown (ci := 1) rfl (q0 := 1) rfl k526 ks21 k544 rfl ⟨gle rfl, gle rfl⟩ ⟨gle rfl, gle rfl⟩ (gle rfl) d_Rev_markFacts_31 ?_
    refine gx_istore_n K d_Rev_markFacts_34 rfl (gle rfl) rfl ?_
    refine gx_aload_n K d_Rev_markFacts_35 rfl rfl ?_
    refine gx_get K f_Rev_18 (q0 := 12) rfl rfl d_Rev_markFacts_36 ?_
    refine gx_iload_n K d_Rev_markFacts_39 rfl rfl ?_
    refine gx_aload_n K d_Rev_markFacts_40 rfl rfl ?_
    refine gx_get K f_Rev_35 (q0 := 12) rfl rfl d_Rev_markFacts_41 ?_
    refine gx_getN K f_Rev_108 (q0 := 6) rfl rfl d_Rev_markFacts_44 ?_
    refine gx_iload_n K d_Rev_markFacts_47 rfl rfl ?_
    refine gx_aald K (t := 8) rfl (q0 := 9) rfl rfl (by omega) (by decide) d_Rev_markFacts_48 ?_
    obtain ⟨q48, k48, x48, i48, u48, hO48, hk48, gk48, uk48⟩ := pF (i) (by omega)
    rw [hO48]
    refine gx_aload_n K d_Rev_markFacts_49 rfl rfl ?_
    refine gx_get K f_Rev_31 (q0 := 12) rfl rfl d_Rev_markFacts_50 ?_
    refine gx_getN K f_Rev_120 (q0 := 1) rfl rfl d_Rev_markFacts_53 ?_
    refine gx_iload_n K d_Rev_markFacts_56 rfl rfl ?_
    refine gx_aald K (t := 4) rfl (q0 := 4) rfl (I.2.2.2.2.1 (i)).1 (I.2.2.2.2.1 (i)).2 (by decide) d_Rev_markFacts_57 ?_
    obtain ⟨q57, k57, hO57, hk57⟩ := pC ((ix (E 19 (i)))) (by omega)
    rw [hO57]
    refine gx_iload_n K d_Rev_markFacts_58 rfl rfl ?_
    refine gx_VNd K (z_Fac_findFault hN _ hk48 gk48 uk48 hk57) Y_Fac_findFault (ci := 11) rfl (fb_pl hk48) k547 ks26 k545 rfl ⟨gle rfl, gle rfl⟩ ⟨gle rfl, gle rfl⟩ (gle rfl) d_Rev_markFacts_59 ?_
    refine gx_iast K (q0 := 15) rfl rfl (by omega) (by decide) d_Rev_markFacts_62 ?_
    refine gx_ws (w1 := (fbW a ty N r en re O z tx X (va_up (va_up Y 0 (fillI (fun f => c_fault E f (ix (E 19 f)) (m_known B E (ix (E 19 f)))) (Y 0) (i + 1))) 1 (fillI (fun f => m_twin N E f) (Y 1) (i))) fc sl pt tot hv rest)) rfl ?_
    refine gx_aload_n K d_Rev_markFacts_63 rfl rfl ?_
    refine gx_get K f_Rev_22 (q0 := 12) rfl rfl d_Rev_markFacts_64 ?_
    refine gx_iload_n K d_Rev_markFacts_67 rfl rfl ?_
    refine gx_aload_n K d_Rev_markFacts_68 rfl rfl ?_
    refine gx_get K f_Rev_35 (q0 := 12) rfl rfl d_Rev_markFacts_69 ?_
    refine gx_iload_n K d_Rev_markFacts_72 rfl rfl ?_
    refine gx_VNd K (z_Rep_lowestTwin hN rfl hi G) Y_Rep_lowestTwin (ci := 3) rfl (q0 := 6) rfl k563 ks30 k561 rfl ⟨gle rfl, gle rfl⟩ ⟨gle rfl, gle rfl⟩ (gle rfl) d_Rev_markFacts_73 ?_
    refine gx_iast K (q0 := 16) rfl rfl (by omega) (by decide) d_Rev_markFacts_76 ?_
    refine gx_iinc (v := nI (i + 1)) K d_Rev_markFacts_77 rfl (nI_add _ _) (gle rfl) rfl ?_
    refine gx_goto K d_Rev_markFacts_80 rfl ?_
    exact gx_back [true, true, false, false] rfl rfl ihi
  · skip
    refine gx_iload_n K d_Rev_markFacts_2 rfl rfl ?_
    refine gx_aload_n K d_Rev_markFacts_3 rfl rfl ?_
    refine gx_get K f_Rev_35 (q0 := 12) rfl rfl d_Rev_markFacts_4 ?_
    refine gx_getN K f_Rev_103 (q0 := 6) rfl rfl d_Rev_markFacts_7 ?_
    refine gx_icmp_geT K d_Rev_markFacts_10 rfl (Int32.le_refl _) ?_
    exact gx_vret K hr hlk d_Rev_markFacts_83 ⟨rfl, rfl⟩

