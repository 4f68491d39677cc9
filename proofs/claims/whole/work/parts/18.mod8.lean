theorem lst_no {f : Nat → List Int32} {i : Nat} (h : f i = []) : lstN f (i + 1) = lstN f i := by
  show lstN f i ++ f i = _
  rw [h, List.append_nil]
theorem lst_yes {A : List Int32} {f : Nat → List Int32} {i : Nat} {x : Int32} (h : f i = [x]) : A ++ lstN f (i + 1) = (A ++ lstN f i) ++ [x] := by
  show A ++ (lstN f i ++ f i) = _
  rw [h, List.append_assoc]
/-! the reference's ways -/
def w_cl (f : Nat → Bool) : Nat → Nat → Bool
  | 0 => f
  | i + 1 => va_up (w_cl f i) i false
def w_on (B : Nat → Nat → Bool) (N : Nat → Nat) (E : Nat → Nat → Int32) (r : Int32) (a : Nat) : Bool := decide (E 6 a = 1) && (decide (E 5 a = r) && m_left B N E a)
def w_ar (B : Nat → Nat → Bool) (N : Nat → Nat) (E : Nat → Nat → Int32) (r : Int32) (f : Nat → Bool) : Nat → Nat → Bool
  | 0 => f
  | a + 1 => if w_on B N E r a = true then va_up (w_ar B N E r f a) (16 * ix (E 7 a) + ix (E 8 a)) true else w_ar B N E r f a
def w_s (t : Nat) (f : Nat → Bool) (k : Nat) : Nat → Bool := va_up f k (f k || (f (k / 16 * 16 + t) && f (16 * t + k % 16)))
def w_sw (t : Nat) (f : Nat → Bool) : Nat → Nat → Bool
  | 0 => f
  | k + 1 => w_s t (w_sw t f k) k
def w_it (f : Nat → Bool) : Nat → Nat → Bool
  | 0 => f
  | t + 1 => w_sw t (w_it f t) 256
def w_fin (B : Nat → Nat → Bool) (N : Nat → Nat) (E : Nat → Nat → Int32) (r : Int32) (f : Nat → Bool) : Nat → Bool := w_it (w_ar B N E r (w_cl f 256) (N 1)) 16
theorem w_ex : ∃ g : (Nat → Nat → Bool) → (Nat → Nat) → (Nat → Nat → Int32) → Int32 → (Nat → Bool) → Nat → Bool, g = w_fin := ⟨_, rfl⟩
/-- the same, sealed: nobody unrolls it -/
noncomputable def w_F : (Nat → Nat → Bool) → (Nat → Nat) → (Nat → Nat → Int32) → Int32 → (Nat → Bool) → Nat → Bool := Classical.choose w_ex
theorem w_F_eq : w_F = w_fin := Classical.choose_spec w_ex
noncomputable def w_rol (B : Nat → Nat → Bool) (N : Nat → Nat) (E : Nat → Nat → Int32) : Nat → Nat → Bool
  | 0 => B 4
  | r + 1 => w_F B N E (nI r) (w_rol B N E r)
theorem w_cl_at (f : Nat → Bool) : ∀ n x, x < n → w_cl f n x = false
  | 0, x, h => absurd h (Nat.not_lt_zero x)
  | n + 1, x, h => by
    show va_up (w_cl f n) n false x = false
    by_cases e : x = n
    · rw [e, va_up_self]
    · rw [gup_ne _ _ e]; exact w_cl_at f n x (by omega)
theorem w_ar_at {B : Nat → Nat → Bool} {N : Nat → Nat} {E : Nat → Nat → Int32} (I : mI E) (r : Int32) {f : Nat → Bool} {i j : Nat} (hi : i < 16) (hj : j < 16) (h0 : f (16 * i + j) = false) : ∀ n, w_ar B N E r f n (16 * i + j) = anyB (fun a => decide (E 6 a = 1) && (decide (E 5 a = r) && (m_left B N E a && (decide (ix (E 7 a) = i) && decide (ix (E 8 a) = j))))) n
  | 0 => h0
  | n + 1 => by
    have ih := w_ar_at (B := B) (N := N) I r hi hj h0 n
    have h7 := (I.2.2.1 n).2
    have h8 := (I.2.2.2.1 n).2
    have e1 : w_ar B N E r f (n + 1) = if w_on B N E r n = true then va_up (w_ar B N E r f n) (16 * ix (E 7 n) + ix (E 8 n)) true else w_ar B N E r f n := rfl
    rw [e1]
    simp only [anyB]
    by_cases hw : w_on B N E r n = true
    · rw [if_pos hw]
      simp only [w_on, Bool.and_eq_true] at hw
      rw [hw.1, hw.2.1, hw.2.2]
      by_cases e : 16 * i + j = 16 * ix (E 7 n) + ix (E 8 n)
      · rw [e, va_up_self, decide_eq_true (show ix (E 7 n) = i by omega), decide_eq_true (show ix (E 8 n) = j by omega)]
        simp
      · rw [gup_ne _ _ e, ih]
        by_cases e7 : ix (E 7 n) = i
        · have e8 : ¬ ix (E 8 n) = j := fun q => e (by omega)
          simp [e8]
        · simp [e7]
    · rw [if_neg hw, ih]
      have hw' : w_on B N E r n = false := by simpa using hw
      have : (decide (E 6 n = 1) && (decide (E 5 n = r) && (m_left B N E n && (decide (ix (E 7 n) = i) && decide (ix (E 8 n) = j))))) = false := by
        have h2 : (decide (E 6 n = 1) && (decide (E 5 n = r) && m_left B N E n)) = false := hw'
        rw [← Bool.and_assoc (decide (E 5 n = r)), ← Bool.and_assoc, h2, Bool.false_and]
      rw [this, Bool.or_false]
theorem w_sw_at {t : Nat} (ht : t < 16) {f : Nat → Bool} : ∀ k, k ≤ 256 → ∀ x, x < 256 → w_sw t f k x = if x < k then (f x || (f (x / 16 * 16 + t) && f (16 * t + x % 16))) else f x
  | 0, _, x, _ => by simp [w_sw]
  | k + 1, hk, x, hx => by
    have ih := w_sw_at ht (f := f) k (by omega)
    show w_s t (w_sw t f k) k x = _
    unfold w_s
    by_cases e : x = k
    · subst e
      rw [va_up_self, if_pos (Nat.lt_succ_self x), ih x hx, if_neg (Nat.lt_irrefl x), ih (x / 16 * 16 + t) (by omega), ih (16 * t + x % 16) (by omega)]
      rw [show (x / 16 * 16 + t) / 16 = x / 16 by omega, show (x / 16 * 16 + t) % 16 = t by omega, show (16 * t + x % 16) / 16 = t by omega, show (16 * t + x % 16) % 16 = x % 16 by omega, Nat.mul_comm t 16]
      generalize f x = a
      generalize f (x / 16 * 16 + t) = b
      generalize f (16 * t + x % 16) = c
      generalize f (16 * t + t) = d
      split <;> split <;> cases a <;> cases b <;> cases c <;> cases d <;> rfl
    · rw [gup_ne _ _ e, ih x hx]
      by_cases h : x < k
      · rw [if_pos h, if_pos (by omega)]
      · rw [if_neg h, if_neg (by omega)]
theorem w_it_at {w : Nat → Nat → Bool} {f : Nat → Bool} (h : ∀ i j, i < 16 → j < 16 → f (16 * i + j) = w i j) : ∀ n, n ≤ 16 → ∀ i j, i < 16 → j < 16 → w_it f n (16 * i + j) = w_all w n i j
  | 0, _, i, j, hi, hj => h i j hi hj
  | n + 1, hn, i, j, hi, hj => by
    have ih := w_it_at h n (by omega)
    show w_sw n (w_it f n) 256 (16 * i + j) = (w_all w n i j || (w_all w n i n && w_all w n n j))
    rw [w_sw_at (by omega) 256 (Nat.le_refl _) (16 * i + j) (by omega), if_pos (by omega), ih i j hi hj, show (16 * i + j) / 16 * 16 + n = 16 * i + n by omega, show 16 * n + (16 * i + j) % 16 = 16 * n + j by omega, ih i n hi (by omega), ih n j (by omega) hj]
theorem w_fin_at {B : Nat → Nat → Bool} {N : Nat → Nat} {E : Nat → Nat → Int32} (I : mI E) (r : Int32) (f : Nat → Bool) {c : Nat} (hc : c < 16) : w_fin B N E r f (17 * c) = m_way B N E r c c := by
  rw [show 17 * c = 16 * c + c by omega]
  exact w_it_at (w := m_arcs B N E r) (fun i j hi hj => w_ar_at I r hi hj (w_cl_at f 256 (16 * i + j) (by omega)) (N 1)) 16 (Nat.le_refl _) c c hc hc
theorem w_F_at {B : Nat → Nat → Bool} {N : Nat → Nat} {E : Nat → Nat → Int32} (I : mI E) (r : Int32) (f : Nat → Bool) {c : Nat} (hc : c < 16) : w_F B N E r f (17 * c) = m_way B N E r c c := by
  rw [w_F_eq]
  exact w_fin_at I r f hc
set_option maxRecDepth 100000 in
set_option maxHeartbeats 1000000 in
theorem z_Mod_factProblems {l : Launch} {D : va_G} {ty : Nat → ClassId} {tt : Nat} {b : Nat → Nat} {B : Nat → Nat → Bool} {N : Nat → Nat} {E : Nat → Nat → Int32} {J : Nat → Int32} {ph : Bool} {V : Nat → Int64} {rd : Int64} {rest : va_W} (I : mI E) (hN : mN N) {w : Int32} {ps : List Int32} : Cd l y_Mod_factProblems c_Mod_factProblems 3 none 3 D ty tt [.ref (b 0)] (mdW b ty (B) N E (mJ J w ps) ph V rd rest) none (mdW b ty (B) N E (mJ J w ((ps ++ lstN (fun q => lstN (fun f => m_p1 B E (q + 1) f) (N 5)) 4) ++ lstN (fun f => m_p5 N E f) (N 5))) ph V rd rest) := by
  obtain ⟨n0, n1, n2, n3, n4, n5⟩ := id hN
  refine Ct_of (by decide) (gle rfl) (fun p e s m args below meth c K hr hlk hin => ?_)
  refine gx_iconst (v := 1) K d_Mod_factProblems_0 rfl ?_
  refine gx_istore_n K d_Mod_factProblems_1 rfl (gle rfl) rfl ?_
  refine gx_loop [true, true, false] 4 (fun q => (mdW b ty (B) N E (mJ J w (ps ++ lstN (fun q => lstN (fun f => m_p1 B E (q + 1) f) (N 5)) q)) ph V rd rest)) (fun q => [some (.ref (b 0)), some (.int (nI (q + 1))), none]) (by rw [show lstN (fun q => lstN (fun f => m_p1 B E (q + 1) f) (N 5)) 0 = [] from rfl, List.append_nil]) rfl (fun q hq ihq => ?_) ?_
  · skip
    refine gx_iload_n K d_Mod_factProblems_2 rfl rfl ?_
    refine gx_iconst (v := 4) K d_Mod_factProblems_3 rfl ?_
    refine gx_icmp_gtF K d_Mod_factProblems_4 rfl (nI_nlt (a := 4) (b := q + 1) (by omega) (by omega)) ?_
    refine gx_iconst (v := 0) K d_Mod_factProblems_7 rfl ?_
    refine gx_istore_n K d_Mod_factProblems_8 rfl (gle rfl) rfl ?_
    refine gx_loop [true, true, true] (N 5) (fun i => (mdW b ty (B) N E (mJ J w ((ps ++ lstN (fun q => lstN (fun f => m_p1 B E (q + 1) f) (N 5)) q) ++ lstN (fun f => m_p1 B E (q + 1) f) i)) ph V rd rest)) (fun i => [some (.ref (b 0)), some (.int (nI (q + 1))), some (.int (nI i))]) (by rw [show lstN (fun f => m_p1 B E (q + 1) f) 0 = [] from rfl, List.append_nil]) rfl (fun i hi ihi => ?_) ?_
    · skip
      refine gx_iload_n K d_Mod_factProblems_9 rfl rfl ?_
      refine gx_aload_n K d_Mod_factProblems_10 rfl rfl ?_
      refine gx_get K f_Mod_165 (q0 := 0) rfl rfl d_Mod_factProblems_11 ?_
      refine gx_icmp_geF K d_Mod_factProblems_14 rfl (nI_ge hi (by omega)) ?_
      refine gx_aload_n K d_Mod_factProblems_17 rfl rfl ?_
      refine gx_iload_n K d_Mod_factProblems_18 rfl rfl ?_
      refine gx_Vd K (z_Mod_fault I hN rfl (by omega)) Y_Mod_fault (ci := 12) rfl (q0 := 0) rfl k967 ks65 k965 rfl ⟨gle rfl, gle rfl⟩ ⟨gle rfl, gle rfl⟩ (gle rfl) d_Mod_factProblems_19 ?_
      refine gx_iload_n K d_Mod_factProblems_22 rfl rfl ?_
      refine gx_icmp_ne K d_Mod_factProblems_23 rfl (fun h23 => ?_) (fun h23 => ?_)
      · skip
        refine gx_iinc (v := nI (i + 1)) K d_Mod_factProblems_40 rfl (nI_add _ _) (gle rfl) rfl ?_
        refine gx_goto K d_Mod_factProblems_43 rfl ?_
        exact gx_back [true, true, true] rfl (by rw [lst_no (f := fun f => m_p1 B E (q + 1) f) (i := i) (if_neg h23)]) ihi
      · skip
        refine gx_aload_n K d_Mod_factProblems_26 rfl rfl ?_
        refine gx_sipush (v := 10000) K d_Mod_factProblems_27 rfl ?_
        refine gx_iload_n K d_Mod_factProblems_30 rfl rfl ?_
        refine gx_imulN K (10000) ((q + 1)) d_Mod_factProblems_31 ?_
        refine gx_bipush (v := 100) K d_Mod_factProblems_32 rfl ?_
        refine gx_iload_n K d_Mod_factProblems_34 rfl rfl ?_
        refine gx_imulN K (100) (i) d_Mod_factProblems_35 ?_
        refine gx_iaddN K ((10000 * (q + 1))) ((100 * i)) d_Mod_factProblems_36 ?_
        refine gx_Vdv K (z_Mod_meet I hN) Y_Mod_meet (ci := 12) rfl (q0 := 0) rfl k995 ks71 k993 rfl ⟨gle rfl, gle rfl⟩ ⟨gle rfl, gle rfl⟩ (gle rfl) d_Mod_factProblems_37 ?_
        refine gx_iinc (v := nI (i + 1)) K d_Mod_factProblems_40 rfl (nI_add _ _) (gle rfl) rfl ?_
        refine gx_goto K d_Mod_factProblems_43 rfl ?_
        exact gx_back [true, true, true] rfl (by rw [lst_yes (f := fun f => m_p1 B E (q + 1) f) (i := i) (if_pos h23)]) ihi
    · skip
      refine gx_iload_n K d_Mod_factProblems_9 rfl rfl ?_
      refine gx_aload_n K d_Mod_factProblems_10 rfl rfl ?_
      refine gx_get K f_Mod_165 (q0 := 0) rfl rfl d_Mod_factProblems_11 ?_
      refine gx_icmp_geT K d_Mod_factProblems_14 rfl (Int32.le_refl _) ?_
      refine gx_iinc (v := nI ((q + 1) + 1)) K d_Mod_factProblems_46 rfl (nI_add _ _) (gle rfl) rfl ?_
      refine gx_goto K d_Mod_factProblems_49 rfl ?_
      exact gx_back [true, true, false] rfl (by rw [List.append_assoc]; rfl) ihq
  · skip
    refine gx_iload_n K d_Mod_factProblems_2 rfl rfl ?_
    refine gx_iconst (v := 4) K d_Mod_factProblems_3 rfl ?_
    refine gx_icmp_gtT K d_Mod_factProblems_4 rfl (by decide) ?_
    refine gx_iconst (v := 0) K d_Mod_factProblems_52 rfl ?_
    refine gx_istore_n K d_Mod_factProblems_53 rfl (gle rfl) rfl ?_
    refine gx_loop [true, true, false] (N 5) (fun i => (mdW b ty (B) N E (mJ J w ((ps ++ lstN (fun q => lstN (fun f => m_p1 B E (q + 1) f) (N 5)) 4) ++ lstN (fun f => m_p5 N E f) i)) ph V rd rest)) (fun i => [some (.ref (b 0)), some (.int (nI i)), none]) (by rw [show lstN (fun f => m_p5 N E f) 0 = [] from rfl, List.append_nil]) rfl (fun i hi ihi => ?_) ?_
    · skip
      refine gx_iload_n K d_Mod_factProblems_54 rfl rfl ?_
      refine gx_aload_n K d_Mod_factProblems_55 rfl rfl ?_
      refine gx_get K f_Mod_165 (q0 := 0) rfl rfl d_Mod_factProblems_56 ?_
      refine gx_icmp_geF K d_Mod_factProblems_59 rfl (nI_ge hi (by omega)) ?_
      refine gx_aload_n K d_Mod_factProblems_62 rfl rfl ?_
      refine gx_iload_n K d_Mod_factProblems_63 rfl rfl ?_
      refine gx_Vd K (z_Mod_twin I hN rfl (by omega)) Y_Mod_twin (ci := 12) rfl (q0 := 0) rfl k971 ks66 k969 rfl ⟨gle rfl, gle rfl⟩ ⟨gle rfl, gle rfl⟩ (gle rfl) d_Mod_factProblems_64 ?_
      refine gx_istore_n K d_Mod_factProblems_67 rfl (gle rfl) rfl ?_
      refine gx_iload_n K d_Mod_factProblems_68 rfl rfl ?_
      refine gx_if_lt K d_Mod_factProblems_69 rfl (fun h69 => ?_) (fun h69 => ?_)
      · skip
        refine gx_iinc (v := nI (i + 1)) K d_Mod_factProblems_90 rfl (nI_add _ _) (gle rfl) rfl ?_
        refine gx_goto K d_Mod_factProblems_93 rfl ?_
        exact gx_back [true, true, false] rfl (by rw [lst_no (f := fun f => m_p5 N E f) (i := i) (if_neg (fun q => Int32.not_lt.mpr q.1 h69))]) ihi
      · skip
        refine gx_iload_n K d_Mod_factProblems_72 rfl rfl ?_
        refine gx_iload_n K d_Mod_factProblems_73 rfl rfl ?_
        refine gx_icmp_ge K d_Mod_factProblems_74 rfl (fun h74 => ?_) (fun h74 => ?_)
        · skip
          refine gx_iinc (v := nI (i + 1)) K d_Mod_factProblems_90 rfl (nI_add _ _) (gle rfl) rfl ?_
          refine gx_goto K d_Mod_factProblems_93 rfl ?_
          exact gx_back [true, true, false] rfl (by rw [lst_no (f := fun f => m_p5 N E f) (i := i) (if_neg (fun q => Int32.not_lt.mpr h74 q.2))]) ihi
        · skip
          refine gx_aload_n K d_Mod_factProblems_77 rfl rfl ?_
          refine gx_ldc K d_Mod_factProblems_78 k997 ?_
          refine gx_bipush (v := 100) K d_Mod_factProblems_80 rfl ?_
          refine gx_iload_n K d_Mod_factProblems_82 rfl rfl ?_
          refine gx_imulN K (100) (i) d_Mod_factProblems_83 ?_
          refine gx_iaddN K (50000) ((100 * i)) d_Mod_factProblems_84 ?_
          refine gx_iload_n K d_Mod_factProblems_85 rfl rfl ?_
          refine gx_iadd K d_Mod_factProblems_86 ?_
          refine gx_Vdv K (z_Mod_meet I hN) Y_Mod_meet (ci := 12) rfl (q0 := 0) rfl k995 ks71 k993 rfl ⟨gle rfl, gle rfl⟩ ⟨gle rfl, gle rfl⟩ (gle rfl) d_Mod_factProblems_87 ?_
          refine gx_iinc (v := nI (i + 1)) K d_Mod_factProblems_90 rfl (nI_add _ _) (gle rfl) rfl ?_
          refine gx_goto K d_Mod_factProblems_93 rfl ?_
          exact gx_back [true, true, false] rfl (by rw [lst_yes (f := fun f => m_p5 N E f) (i := i) (if_pos ⟨Int32.not_lt.mp h69, Int32.not_le.mp h74⟩)]) ihi
    · skip
      refine gx_iload_n K d_Mod_factProblems_54 rfl rfl ?_
      refine gx_aload_n K d_Mod_factProblems_55 rfl rfl ?_
      refine gx_get K f_Mod_165 (q0 := 0) rfl rfl d_Mod_factProblems_56 ?_
      refine gx_icmp_geT K d_Mod_factProblems_59 rfl (Int32.le_refl _) ?_
      exact gx_vret K hr hlk d_Mod_factProblems_96 ⟨rfl, rfl⟩

set_option maxRecDepth 100000 in
set_option maxHeartbeats 1000000 in
theorem z_Mod_ways {l : Launch} {D : va_G} {ty : Nat → ClassId} {tt : Nat} {b : Nat → Nat} {B : Nat → Nat → Bool} {N : Nat → Nat} {E : Nat → Nat → Int32} {J : Nat → Int32} {ph : Bool} {V : Nat → Int64} {rd : Int64} {rest : va_W} (I : mI E) (hN : mN N) {r : Int32} : Cd l y_Mod_ways c_Mod_ways 4 none 3 D ty tt [.ref (b 0), .int r] (mdW b ty B N E J ph V rd rest) none (mdW b ty (va_up B 4 (w_F B N E r (B 4))) N E J ph V rd rest) := by
  obtain ⟨n0, n1, n2, n3, n4, n5⟩ := id hN
  refine Ct_of (by decide) (gle rfl) (fun p e s m args below meth c K hr hlk hin => ?_)
  refine gx_iconst (v := 0) K d_Mod_ways_0 rfl ?_
  refine gx_istore_n K d_Mod_ways_1 rfl (gle rfl) rfl ?_
  refine gx_loop [true, true, true, false] (256) (fun i => (mdW b ty (va_up B 4 (w_cl (B 4) i)) N E J ph V rd rest)) (fun i => [some (.ref (b 0)), some (.int r), some (.int (nI i)), none]) (by rw [show va_up B 4 (w_cl (B 4) 0) = B from gUpS B 4]) rfl (fun i hi ihi => ?_) ?_
  · skip
    refine gx_iload_n K d_Mod_ways_2 rfl rfl ?_
    refine gx_sipush (v := 256) K d_Mod_ways_3 rfl ?_
    refine gx_icmp_geF K d_Mod_ways_6 rfl (nI_ge (b := 256) hi (by decide)) ?_
    refine gx_aload_n K d_Mod_ways_9 rfl rfl ?_
    refine gx_get K f_Mod_99 (q0 := 0) rfl rfl d_Mod_ways_10 ?_
    refine gx_iload_n K d_Mod_ways_13 rfl rfl ?_
    refine gx_iconst (v := b2i false) K d_Mod_ways_14 rfl ?_
    refine gx_zst K (q0 := 30) rfl rfl (by omega) (by decide) d_Mod_ways_15 ?_
    refine gx_iinc (v := nI (i + 1)) K d_Mod_ways_16 rfl (nI_add _ _) (gle rfl) rfl ?_
    refine gx_goto K d_Mod_ways_19 rfl ?_
    exact gx_back [true, true, true, false] rfl rfl ihi
  · skip
    refine gx_iload_n K d_Mod_ways_2 rfl rfl ?_
    refine gx_sipush (v := 256) K d_Mod_ways_3 rfl ?_
    refine gx_icmp_geT K d_Mod_ways_6 rfl (Int32.le_refl _) ?_
    refine gx_iconst (v := 0) K d_Mod_ways_22 rfl ?_
    refine gx_istore_n K d_Mod_ways_23 rfl (gle rfl) rfl ?_
    refine gx_loop [true, true, true, false] (N 1) (fun i => (mdW b ty (va_up B 4 (w_ar B N E r (w_cl (B 4) 256) (i))) N E J ph V rd rest)) (fun i => [some (.ref (b 0)), some (.int r), some (.int (nI i)), none]) rfl rfl (fun i hi ihi => ?_) ?_
    · skip
      refine gx_iload_n K d_Mod_ways_24 rfl rfl ?_
      refine gx_aload_n K d_Mod_ways_25 rfl rfl ?_
      refine gx_get K f_Mod_136 (q0 := 0) rfl rfl d_Mod_ways_26 ?_
      refine gx_icmp_geF K d_Mod_ways_29 rfl (nI_ge hi (by omega)) ?_
      refine gx_aload_n K d_Mod_ways_32 rfl rfl ?_
      refine gx_get K f_Mod_38 (q0 := 0) rfl rfl d_Mod_ways_33 ?_
      refine gx_iload_n K d_Mod_ways_36 rfl rfl ?_
      refine gx_iald K (q0 := 10) rfl rfl (by omega) (by decide) d_Mod_ways_37 ?_
      refine gx_iconst (v := 1) K d_Mod_ways_38 rfl ?_
      refine gx_icmp_ne K d_Mod_ways_39 rfl (fun h39 => ?_) (fun h39 => ?_)
      · skip
        refine gx_iinc (v := nI (i + 1)) K d_Mod_ways_82 rfl (nI_add _ _) (gle rfl) rfl ?_
        refine gx_goto K d_Mod_ways_85 rfl ?_
        exact gx_back [true, true, true, false] rfl (by rw [show w_ar B N E r (w_cl (B 4) 256) (i + 1) = w_ar B N E r (w_cl (B 4) 256) (i) from if_neg (by simp [w_on, h39])]) ihi
      · skip
        refine gx_aload_n K d_Mod_ways_42 rfl rfl ?_
        refine gx_get K f_Mod_35 (q0 := 0) rfl rfl d_Mod_ways_43 ?_
        refine gx_iload_n K d_Mod_ways_46 rfl rfl ?_
        refine gx_iald K (q0 := 9) rfl rfl (by omega) (by decide) d_Mod_ways_47 ?_
        refine gx_iload_n K d_Mod_ways_48 rfl rfl ?_
        refine gx_icmp_ne K d_Mod_ways_49 rfl (fun h49 => ?_) (fun h49 => ?_)
        · skip
          refine gx_iinc (v := nI (i + 1)) K d_Mod_ways_82 rfl (nI_add _ _) (gle rfl) rfl ?_
          refine gx_goto K d_Mod_ways_85 rfl ?_
          exact gx_back [true, true, true, false] rfl (by rw [show w_ar B N E r (w_cl (B 4) 256) (i + 1) = w_ar B N E r (w_cl (B 4) 256) (i) from if_neg (by simp [w_on, h49])]) ihi
        · skip
          refine gx_aload_n K d_Mod_ways_52 rfl rfl ?_
          refine gx_iload_n K d_Mod_ways_53 rfl rfl ?_
          refine gx_Vd K (z_Mod_isLeft I hN rfl (by omega)) Y_Mod_isLeft (ci := 12) rfl (q0 := 0) rfl k888 ks54 k886 rfl ⟨gle rfl, gle rfl⟩ ⟨gle rfl, gle rfl⟩ (gle rfl) d_Mod_ways_54 ?_
          refine gx_if_eqB K d_Mod_ways_57 rfl (fun h57 => ?_) (fun h57 => ?_)
          · skip
            refine gx_iinc (v := nI (i + 1)) K d_Mod_ways_82 rfl (nI_add _ _) (gle rfl) rfl ?_
            refine gx_goto K d_Mod_ways_85 rfl ?_
            exact gx_back [true, true, true, false] rfl (by rw [show w_ar B N E r (w_cl (B 4) 256) (i + 1) = w_ar B N E r (w_cl (B 4) 256) (i) from if_neg (by rw [show w_on B N E r i = (decide (E 6 i = 1) && (decide (E 5 i = r) && m_left B N E i)) from rfl, show m_left B N E i = false from h57]; simp)]) ihi
          · skip
            refine gx_aload_n K d_Mod_ways_60 rfl rfl ?_
            refine gx_get K f_Mod_99 (q0 := 0) rfl rfl d_Mod_ways_61 ?_
            refine gx_bipush (v := 16) K d_Mod_ways_64 rfl ?_
            refine gx_aload_n K d_Mod_ways_66 rfl rfl ?_
            refine gx_get K f_Mod_41 (q0 := 0) rfl rfl d_Mod_ways_67 ?_
            refine gx_iload_n K d_Mod_ways_70 rfl rfl ?_
            refine gx_iald K (q0 := 11) rfl rfl (by omega) (by decide) d_Mod_ways_71 ?_
            refine gx_imul K d_Mod_ways_72 ?_
            refine gx_aload_n K d_Mod_ways_73 rfl rfl ?_
            refine gx_get K f_Mod_44 (q0 := 0) rfl rfl d_Mod_ways_74 ?_
            refine gx_iload_n K d_Mod_ways_77 rfl rfl ?_
            refine gx_iald K (q0 := 12) rfl rfl (by omega) (by decide) d_Mod_ways_78 ?_
            refine gx_iadd K d_Mod_ways_79 ?_
            have r7 := (I.2.2.1 i).2
            have r8 := (I.2.2.2.1 i).2
            refine gx_iconst (v := b2i true) K d_Mod_ways_80 rfl ?_
            refine gx_zst K (q0 := 30) rfl (by rw [show (16 : Int32) = nI 16 from rfl, (I.2.2.1 i).1, (I.2.2.2.1 i).1, pk_mul, nI_add]) (by omega) (by decide) d_Mod_ways_81 ?_
            refine gx_iinc (v := nI (i + 1)) K d_Mod_ways_82 rfl (nI_add _ _) (gle rfl) rfl ?_
            refine gx_goto K d_Mod_ways_85 rfl ?_
            exact gx_back [true, true, true, false] rfl (by rw [show w_ar B N E r (w_cl (B 4) 256) (i + 1) = va_up (w_ar B N E r (w_cl (B 4) 256) (i)) (16 * ix (E 7 i) + ix (E 8 i)) true from if_pos (by rw [show w_on B N E r i = (decide (E 6 i = 1) && (decide (E 5 i = r) && m_left B N E i)) from rfl, show m_left B N E i = true from h57]; simp [h39, h49])]; rfl) ihi
    · skip
      refine gx_iload_n K d_Mod_ways_24 rfl rfl ?_
      refine gx_aload_n K d_Mod_ways_25 rfl rfl ?_
      refine gx_get K f_Mod_136 (q0 := 0) rfl rfl d_Mod_ways_26 ?_
      refine gx_icmp_geT K d_Mod_ways_29 rfl (Int32.le_refl _) ?_
      refine gx_iconst (v := 0) K d_Mod_ways_88 rfl ?_
      refine gx_istore_n K d_Mod_ways_89 rfl (gle rfl) rfl ?_
      refine gx_loop [true, true, true, false] (16) (fun t => (mdW b ty (va_up B 4 (w_it (w_ar B N E r (w_cl (B 4) 256) (N 1)) t)) N E J ph V rd rest)) (fun t => [some (.ref (b 0)), some (.int r), some (.int (nI t)), none]) rfl rfl (fun t ht iht => ?_) ?_
      · skip
        refine gx_iload_n K d_Mod_ways_90 rfl rfl ?_
        refine gx_bipush (v := 16) K d_Mod_ways_91 rfl ?_
        refine gx_icmp_geF K d_Mod_ways_93 rfl (nI_ge (b := 16) ht (by decide)) ?_
        refine gx_iconst (v := 0) K d_Mod_ways_96 rfl ?_
        refine gx_istore_n K d_Mod_ways_97 rfl (gle rfl) rfl ?_
        refine gx_loop [true, true, true, true] (256) (fun i => (mdW b ty (va_up B 4 (w_sw t (w_it (w_ar B N E r (w_cl (B 4) 256) (N 1)) t) i)) N E J ph V rd rest)) (fun i => [some (.ref (b 0)), some (.int r), some (.int (nI t)), some (.int (nI i))]) rfl rfl (fun i hi ihi => ?_) ?_
        · skip
          refine gx_iload_n K d_Mod_ways_98 rfl rfl ?_
          refine gx_sipush (v := 256) K d_Mod_ways_99 rfl ?_
          refine gx_icmp_geF K d_Mod_ways_102 rfl (nI_ge (b := 256) hi (by decide)) ?_
          refine gx_aload_n K d_Mod_ways_105 rfl rfl ?_
          refine gx_get K f_Mod_99 (q0 := 0) rfl rfl d_Mod_ways_106 ?_
          refine gx_iload_n K d_Mod_ways_109 rfl rfl ?_
          refine gx_cut (X := va_up B 4 (w_sw t (w_it (w_ar B N E r (w_cl (B 4) 256) (N 1)) t) i) 4 i || (va_up B 4 (w_sw t (w_it (w_ar B N E r (w_cl (B 4) 256) (N 1)) t) i) 4 (i / 16 * 16 + t) && va_up B 4 (w_sw t (w_it (w_ar B N E r (w_cl (B 4) 256) (N 1)) t) i) 4 (16 * t + i % 16))) 158 ?_ (fun j158 => ?_)
          · skip
            refine gx_zst K (q0 := 30) rfl rfl (by omega) (by decide) d_Mod_ways_158 ?_
            refine gx_iinc (v := nI (i + 1)) K d_Mod_ways_159 rfl (nI_add _ _) (gle rfl) rfl ?_
            refine gx_goto K d_Mod_ways_162 rfl ?_
            exact gx_back [true, true, true, true] rfl rfl ihi
          · skip
            refine gx_aload_n K d_Mod_ways_110 rfl rfl ?_
            refine gx_get K f_Mod_99 (q0 := 0) rfl rfl d_Mod_ways_111 ?_
            refine gx_iload_n K d_Mod_ways_114 rfl rfl ?_
            refine gx_zld K (q0 := 30) rfl rfl (by omega) (by decide) d_Mod_ways_115 ?_
            refine gx_if_neB K d_Mod_ways_116 rfl (fun h116 => ?_) (fun h116 => ?_)
            · skip
              refine gx_iconst (v := b2i true) K d_Mod_ways_153 rfl ?_
              refine gx_goto K d_Mod_ways_154 rfl ?_
              exact j158 _ (by simp [h116])
            · skip
              refine gx_aload_n K d_Mod_ways_119 rfl rfl ?_
              refine gx_get K f_Mod_99 (q0 := 0) rfl rfl d_Mod_ways_120 ?_
              refine gx_iload_n K d_Mod_ways_123 rfl rfl ?_
              refine gx_bipush (v := 16) K d_Mod_ways_124 rfl ?_
              refine gx_idivN K (i) (16) (by omega) (by omega) (by omega) d_Mod_ways_126 ?_
              refine gx_bipush (v := 16) K d_Mod_ways_127 rfl ?_
              refine gx_imulN K ((i / 16)) (16) d_Mod_ways_129 ?_
              refine gx_iload_n K d_Mod_ways_130 rfl rfl ?_
              refine gx_iaddN K (((i / 16) * 16)) (t) d_Mod_ways_131 ?_
              refine gx_zld K (q0 := 30) rfl rfl (by omega) (by decide) d_Mod_ways_132 ?_
              refine gx_if_eqB K d_Mod_ways_133 rfl (fun h133 => ?_) (fun h133 => ?_)
              · skip
                refine gx_iconst (v := b2i false) K d_Mod_ways_157 rfl ?_
                exact j158 _ (by simp [h116, h133])
              · skip
                refine gx_aload_n K d_Mod_ways_136 rfl rfl ?_
                refine gx_get K f_Mod_99 (q0 := 0) rfl rfl d_Mod_ways_137 ?_
                refine gx_bipush (v := 16) K d_Mod_ways_140 rfl ?_
                refine gx_iload_n K d_Mod_ways_142 rfl rfl ?_
                refine gx_imulN K (16) (t) d_Mod_ways_143 ?_
                refine gx_iload_n K d_Mod_ways_144 rfl rfl ?_
                refine gx_bipush (v := 16) K d_Mod_ways_145 rfl ?_
                refine gx_iremN K (i) (16) (by omega) (by omega) (by omega) d_Mod_ways_147 ?_
                refine gx_iaddN K ((16 * t)) ((i % 16)) d_Mod_ways_148 ?_
                refine gx_zld K (q0 := 30) rfl rfl (by omega) (by decide) d_Mod_ways_149 ?_
                refine gx_if_eqB K d_Mod_ways_150 rfl (fun h150 => ?_) (fun h150 => ?_)
                · skip
                  refine gx_iconst (v := b2i false) K d_Mod_ways_157 rfl ?_
                  exact j158 _ (by simp [h116, h133, h150])
                · skip
                  refine gx_iconst (v := b2i true) K d_Mod_ways_153 rfl ?_
                  refine gx_goto K d_Mod_ways_154 rfl ?_
                  exact j158 _ (by simp [h116, h133, h150])
        · skip
          refine gx_iload_n K d_Mod_ways_98 rfl rfl ?_
          refine gx_sipush (v := 256) K d_Mod_ways_99 rfl ?_
          refine gx_icmp_geT K d_Mod_ways_102 rfl (Int32.le_refl _) ?_
          refine gx_iinc (v := nI (t + 1)) K d_Mod_ways_165 rfl (nI_add _ _) (gle rfl) rfl ?_
          refine gx_goto K d_Mod_ways_168 rfl ?_
          exact gx_back [true, true, true, false] rfl rfl iht
      · skip
        refine gx_iload_n K d_Mod_ways_90 rfl rfl ?_
        refine gx_bipush (v := 16) K d_Mod_ways_91 rfl ?_
        refine gx_icmp_geT K d_Mod_ways_93 rfl (Int32.le_refl _) ?_
        exact gx_vret K hr hlk d_Mod_ways_171 ⟨rfl, by rw [w_F_eq]; rfl⟩

