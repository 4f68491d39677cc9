def cntN (P : Nat → Bool) : Nat → Nat
  | 0 => 0
  | n + 1 => cntN P n + (if P n = true then 1 else 0)
section GT
variable (B : Nat → Nat → Bool) (N : Nat → Nat) (E : Nat → Nat → Int32) (V : Nat → Int64)
/-- fact g is a part, by arc a, of fact f -/
def c_ok (a0 f g : Nat) : Bool := decide (E 19 g = E 8 a0) && (m_single B N E g && (m_eqX E (ix (E 20 g)) (ix (E 20 f)) && m_eqU E (E 21 g) (E 21 f)))
def c_f (a0 f g : Nat) : Int64 := if c_ok B N E a0 f g = true then (E 9 a0).toInt64 * m_rounded E V g else 0
def c_v (a0 f g : Nat) : Bool := c_ok B N E a0 f g && m_vague E g
def c_sel (r : Int32) (f a0 : Nat) : Bool := m_left B N E a0 && ((decide (E 5 a0 = r) && decide (E 6 a0 = 0)) && decide (E 7 a0 = E 19 f))
def g_cnt (r : Int32) (f : Nat) : Nat → Nat
  | 0 => 0
  | n + 1 => g_cnt r f n + (if c_sel B N E r f n = true then cntN (fun g => c_ok B N E n f g) (N 5) else 0)
def g_sum (r : Int32) (f : Nat) : Nat → Int64
  | 0 => 0
  | n + 1 => g_sum r f n + (if c_sel B N E r f n = true then sumN (fun g => c_f B N E V n f g) (N 5) else 0)
def g_vag (r : Int32) (f : Nat) : Nat → Bool
  | 0 => false
  | n + 1 => g_vag r f n || (c_sel B N E r f n && anyB (fun g => c_v B N E n f g) (N 5))
def G_p (r : Int32) (f : Nat) : Int32 := if m_single B N E f = true then nI (g_cnt B N E r f (N 1)) else 0
def G_t (r : Int32) (f : Nat) : Int64 := if m_single B N E f = true then g_sum B N E V r f (N 1) else 0
def G_v (r : Int32) (f : Nat) : Bool := m_single B N E f && g_vag B N E r f (N 1)
end GT
theorem tw_lt {N : Nat → Nat} {E : Nat → Nat → Int32} {f : Nat} (hn : N 5 < 2 ^ 31) : decide (m_twin N E f < 0) = decide (m_twin N E f = -1) := by
  rcases loN_ge (P := fun g => m_twins E f g) (N 5) hn with h | h
  · rw [show m_twin N E f = -1 from h]; rfl
  · have h2 : 0 ≤ m_twin N E f := h
    rw [decide_eq_false (Int32.not_lt.mpr h2), decide_eq_false (fun q => by rw [q] at h2; exact absurd h2 (by decide))]
set_option maxRecDepth 100000 in
set_option maxHeartbeats 1000000 in
theorem z_Rev_canAdd {l : Launch} {D : va_G} {ty : Nat → ClassId} {tt : Nat} {a : Nat → Nat} {N : Nat → Nat} {r : Nat → Int32} {en re : Int32} {O : Nat → Nat → Option Nat} {z : Nat} {tx : Nat → Int32} {X : Nat → Nat → Bool} {Y : Nat → Nat → Int32} {fc : Nat} {sl : Bool} {pt : Int32} {tot : Int64} {hv : Bool} {rest : va_W} (hN : mN N) {x : Int32} {f0 : Nat} (hx : x = nI f0) (hf : f0 < N 5) {B : Nat → Nat → Bool} {E : Nat → Nat → Int32} {V : Nat → Int64} (G : cI B N E V O rest re) (hY0 : ∀ j, j < N 5 → Y 0 j = m_fault B E j) (hY1 : ∀ j, j < N 5 → Y 1 j = m_twin N E j) : Cd l y_Rev_canAdd c_Rev_canAdd 3 (some .boolean) 0 D ty tt [.ref (a 12), .int x] (fbW a ty N r en re O z tx X Y fc sl pt tot hv rest) (some (.int (b2i (m_single B N E f0)))) (fbW a ty N r en re O z tx X Y fc sl pt tot hv rest) := by
  obtain ⟨n0, n1, n2, n3, n4, n5⟩ := id hN
  subst hx
  obtain ⟨pC, pA, pX, pU, pF, I, hA, hF, hre, hV⟩ := id G
  refine Ct_of (by decide) (gle rfl) (fun p e s m args below meth c K hr hlk hin => ?_)
  have hFf := hF f0 hf
  refine gx_cut (X := decide (E 1 (ix (E 19 f0)) = 0)) 31 ?_ (fun j31 => ?_)
  · skip
    refine gx_istore_n K d_Rev_canAdd_31 rfl (gle rfl) rfl ?_
    refine gx_iload_n K d_Rev_canAdd_32 rfl rfl ?_
    refine gx_if_neB K d_Rev_canAdd_33 rfl (fun h33 => ?_) (fun h33 => ?_)
    · skip
      refine gx_iconst (v := b2i false) K d_Rev_canAdd_59 rfl ?_
      exact gx_zret K hr hlk d_Rev_canAdd_60 ⟨gRb (by unfold m_single; rw [tw_lt (by omega), ← hY0 f0 hf, ← hY1 f0 hf]; simp [m_text, h33] <;> simp_all), rfl⟩
    · skip
      refine gx_aload_n K d_Rev_canAdd_36 rfl rfl ?_
      refine gx_get K f_Rev_18 (q0 := 12) rfl rfl d_Rev_canAdd_37 ?_
      refine gx_iload_n K d_Rev_canAdd_40 rfl rfl ?_
      refine gx_iald K (q0 := 15) rfl rfl (by omega) (by decide) d_Rev_canAdd_41 ?_
      refine gx_if_ne K d_Rev_canAdd_42 rfl (fun h42 => ?_) (fun h42 => ?_)
      · skip
        refine gx_iconst (v := b2i false) K d_Rev_canAdd_59 rfl ?_
        exact gx_zret K hr hlk d_Rev_canAdd_60 ⟨gRb (by unfold m_single; rw [tw_lt (by omega), ← hY0 f0 hf, ← hY1 f0 hf]; simp [m_text, h33, h42] <;> simp_all), rfl⟩
      · skip
        refine gx_aload_n K d_Rev_canAdd_45 rfl rfl ?_
        refine gx_get K f_Rev_22 (q0 := 12) rfl rfl d_Rev_canAdd_46 ?_
        refine gx_iload_n K d_Rev_canAdd_49 rfl rfl ?_
        refine gx_iald K (q0 := 16) rfl rfl (by omega) (by decide) d_Rev_canAdd_50 ?_
        refine gx_iconst (v := -1) K d_Rev_canAdd_51 rfl ?_
        refine gx_icmp_ne K d_Rev_canAdd_52 rfl (fun h52 => ?_) (fun h52 => ?_)
        · skip
          refine gx_iconst (v := b2i false) K d_Rev_canAdd_59 rfl ?_
          exact gx_zret K hr hlk d_Rev_canAdd_60 ⟨gRb (by unfold m_single; rw [tw_lt (by omega), ← hY0 f0 hf, ← hY1 f0 hf]; simp [m_text, h33, h42, h52] <;> simp_all), rfl⟩
        · skip
          refine gx_iconst (v := b2i true) K d_Rev_canAdd_55 rfl ?_
          refine gx_goto K d_Rev_canAdd_56 rfl ?_
          exact gx_zret K hr hlk d_Rev_canAdd_60 ⟨gRb (by unfold m_single; rw [tw_lt (by omega), ← hY0 f0 hf, ← hY1 f0 hf]; simp [m_text, h33, h42, h52] <;> simp_all), rfl⟩
  · skip
    refine gx_aload_n K d_Rev_canAdd_0 rfl rfl ?_
    refine gx_get K f_Rev_31 (q0 := 12) rfl rfl d_Rev_canAdd_1 ?_
    refine gx_getN K f_Rev_120 (q0 := 1) rfl rfl d_Rev_canAdd_4 ?_
    refine gx_aload_n K d_Rev_canAdd_7 rfl rfl ?_
    refine gx_get K f_Rev_35 (q0 := 12) rfl rfl d_Rev_canAdd_8 ?_
    refine gx_getN K f_Rev_108 (q0 := 6) rfl rfl d_Rev_canAdd_11 ?_
    refine gx_iload_n K d_Rev_canAdd_14 rfl rfl ?_
    refine gx_aald K (t := 8) rfl (q0 := 9) rfl rfl (by omega) (by decide) d_Rev_canAdd_15 ?_
    obtain ⟨q15, k15, x15, i15, u15, hO15, hk15, gk15, uk15⟩ := pF (f0) (by omega)
    rw [hO15]
    refine gx_getN K f_Rev_112 (fb_pl hk15) rfl d_Rev_canAdd_16 ?_
    refine gx_aald K (t := 4) rfl (q0 := 4) rfl (I.2.2.2.2.1 (f0)).1 (I.2.2.2.2.1 (f0)).2 (by decide) d_Rev_canAdd_19 ?_
    obtain ⟨q19, k19, hO19, hk19⟩ := pC ((ix (E 19 (f0)))) (by omega)
    rw [hO19]
    refine gx_getN K f_Rev_224 (fb_pl hk19) rfl d_Rev_canAdd_20 ?_
    refine gx_if_ne K d_Rev_canAdd_23 rfl (fun h23 => ?_) (fun h23 => ?_)
    · skip
      refine gx_iconst (v := b2i false) K d_Rev_canAdd_30 rfl ?_
      exact j31 _ (by simp [h23])
    · skip
      refine gx_iconst (v := b2i true) K d_Rev_canAdd_26 rfl ?_
      refine gx_goto K d_Rev_canAdd_27 rfl ?_
      exact j31 _ (by simp [h23])

section GS
variable {B : Nat → Nat → Bool} {N : Nat → Nat} {E : Nat → Nat → Int32} {V : Nat → Int64} {a0 f1 i p0 : Nat} {t0 : Int64} {v0 : Bool}
theorem cn_no (h : c_ok B N E a0 f1 i = false) : cntN (fun g => c_ok B N E a0 f1 g) (i + 1) = cntN (fun g => c_ok B N E a0 f1 g) i := by
  show _ + (if c_ok B N E a0 f1 i = true then 1 else 0) = _
  rw [h]; rfl
theorem sm_no (h : c_ok B N E a0 f1 i = false) : sumN (fun g => c_f B N E V a0 f1 g) (i + 1) = sumN (fun g => c_f B N E V a0 f1 g) i := by
  show _ + c_f B N E V a0 f1 i = _
  unfold c_f
  rw [h]
  exact Int64.add_zero _
theorem av_no (h : c_ok B N E a0 f1 i = false) : anyB (fun g => c_v B N E a0 f1 g) (i + 1) = anyB (fun g => c_v B N E a0 f1 g) i := by
  show (_ || c_v B N E a0 f1 i) = _
  unfold c_v
  rw [h, Bool.false_and, Bool.or_false]
theorem cn_yes (h : c_ok B N E a0 f1 i = true) : nI (p0 + cntN (fun g => c_ok B N E a0 f1 g) i) + 1 = nI (p0 + cntN (fun g => c_ok B N E a0 f1 g) (i + 1)) := by
  rw [show cntN (fun g => c_ok B N E a0 f1 g) (i + 1) = cntN (fun g => c_ok B N E a0 f1 g) i + 1 from by
    show _ + (if c_ok B N E a0 f1 i = true then 1 else 0) = _
    rw [h]; rfl]
  exact (nI_succ _).symm
theorem sm_yes (h : c_ok B N E a0 f1 i = true) : t0 + sumN (fun g => c_f B N E V a0 f1 g) i + (E 9 a0).toInt64 * m_rounded E V i = t0 + sumN (fun g => c_f B N E V a0 f1 g) (i + 1) := by
  rw [show sumN (fun g => c_f B N E V a0 f1 g) (i + 1) = sumN (fun g => c_f B N E V a0 f1 g) i + (E 9 a0).toInt64 * m_rounded E V i from by
    show _ + c_f B N E V a0 f1 i = _
    unfold c_f
    rw [h]; rfl, Int64.add_assoc]
theorem av_yes (h : c_ok B N E a0 f1 i = true) : (v0 || anyB (fun g => c_v B N E a0 f1 g) (i + 1)) = ((v0 || anyB (fun g => c_v B N E a0 f1 g) i) || m_vague E i) := by
  rw [show anyB (fun g => c_v B N E a0 f1 g) (i + 1) = (anyB (fun g => c_v B N E a0 f1 g) i || m_vague E i) from by
    show (_ || c_v B N E a0 f1 i) = _
    unfold c_v
    rw [h, Bool.true_and], Bool.or_assoc]
end GS
set_option maxRecDepth 100000 in
set_option maxHeartbeats 1000000 in
theorem z_Rev_gatherPartsOf {l : Launch} {D : va_G} {ty : Nat → ClassId} {tt : Nat} {a : Nat → Nat} {N : Nat → Nat} {r : Nat → Int32} {en re : Int32} {O : Nat → Nat → Option Nat} {z : Nat} {tx : Nat → Int32} {X : Nat → Nat → Bool} {Y : Nat → Nat → Int32} {fc : Nat} {sl : Bool} {rest : va_W} (hN : mN N)  {B : Nat → Nat → Bool} {E : Nat → Nat → Int32} {V : Nat → Int64} (G : cI B N E V O rest re) (hY0 : ∀ j, j < N 5 → Y 0 j = m_fault B E j) (hY1 : ∀ j, j < N 5 → Y 1 j = m_twin N E j) {q9 k9 z9 a0 : Nat} (h9 : rest[k9]? = some (q9, .inr (8, [.int (E 4 a0), .int (E 6 a0), .int (E 7 a0), .int (E 8 a0), .int (E 9 a0), .ref z9]))) {q1 k1 x1 i1 f1 : Nat} {u1 : Value} (hk1 : rest[k1]? = some (q1, .inr (11, [.int (E 19 f1), .ref x1, u1, .int (E 22 f1), .int (E 23 f1), .long (V f1), .int (m_places (E 22 f1) (E 23 f1) (V f1)), .long (m_rounded E V f1)]))) (gk1 : rest[i1]? = some (x1, .inr (9, [.int (E 11 (ix (E 20 f1))), .int (E 12 (ix (E 20 f1))), .int (E 13 (ix (E 20 f1))), .int (E 14 (ix (E 20 f1)))]))) (uk1 : pUn E rest u1 (E 21 f1)) {p0 : Nat} {t0 : Int64} {v0 : Bool} : Cd l y_Rev_gatherPartsOf c_Rev_gatherPartsOf 5 none 2 D ty tt [.ref (a 12), .ref q9, .ref q1] (fbW a ty N r en re O z tx X Y fc sl (nI p0) t0 v0 rest) none (fbW a ty N r en re O z tx X Y fc sl (nI (p0 + cntN (fun g => c_ok B N E a0 f1 g) (N 5))) (t0 + sumN (fun g => c_f B N E V a0 f1 g) (N 5)) (v0 || anyB (fun g => c_v B N E a0 f1 g) (N 5)) rest) := by
  obtain ⟨n0, n1, n2, n3, n4, n5⟩ := id hN
  obtain ⟨pC, pA, pX, pU, pF, I, hA, hF, hre, hV⟩ := id G
  refine Ct_of (by decide) (gle rfl) (fun p e s m args below meth c K hr hlk hin => ?_)
  refine gx_iconst (v := 0) K d_Rev_gatherPartsOf_0 rfl ?_
  refine gx_istore_n K d_Rev_gatherPartsOf_1 rfl (gle rfl) rfl ?_
  refine gx_loop [true, true, true, true, false] (N 5) (fun i => (fbW a ty N r en re O z tx X Y fc sl (nI (p0 + cntN (fun g => c_ok B N E a0 f1 g) (i))) (t0 + sumN (fun g => c_f B N E V a0 f1 g) (i)) (v0 || anyB (fun g => c_v B N E a0 f1 g) (i)) rest)) (fun i => [some (.ref (a 12)), some (.ref q9), some (.ref q1), some (.int (nI i)), none]) (by rw [show cntN (fun g => c_ok B N E a0 f1 g) 0 = 0 from rfl, show sumN (fun g => c_f B N E V a0 f1 g) 0 = 0 from rfl, show anyB (fun g => c_v B N E a0 f1 g) 0 = false from rfl, Int64.add_zero, Bool.or_false]; rfl) rfl (fun i hi ihi => ?_) ?_
  · skip
    refine gx_iload_n K d_Rev_gatherPartsOf_2 rfl rfl ?_
    refine gx_aload_n K d_Rev_gatherPartsOf_3 rfl rfl ?_
    refine gx_get K f_Rev_35 (q0 := 12) rfl rfl d_Rev_gatherPartsOf_4 ?_
    refine gx_getN K f_Rev_103 (q0 := 6) rfl rfl d_Rev_gatherPartsOf_7 ?_
    refine gx_icmp_geF K d_Rev_gatherPartsOf_10 rfl (nI_ge hi (by omega)) ?_
    refine gx_aload_n K d_Rev_gatherPartsOf_13 rfl rfl ?_
    refine gx_get K f_Rev_35 (q0 := 12) rfl rfl d_Rev_gatherPartsOf_14 ?_
    refine gx_getN K f_Rev_108 (q0 := 6) rfl rfl d_Rev_gatherPartsOf_17 ?_
    refine gx_iload_n K d_Rev_gatherPartsOf_20 rfl rfl ?_
    refine gx_aald K (t := 8) rfl (q0 := 9) rfl rfl (by omega) (by decide) d_Rev_gatherPartsOf_21 ?_
    obtain ⟨q21, k21, x21, i21, u21, hO21, hk21, gk21, uk21⟩ := pF (i) (by omega)
    rw [hO21]
    refine gx_astore K d_Rev_gatherPartsOf_22 (gle rfl) rfl ?_
    refine gx_aload K d_Rev_gatherPartsOf_24 rfl ?_
    refine gx_getN K f_Rev_112 (fb_pl hk21) rfl d_Rev_gatherPartsOf_26 ?_
    refine gx_aload_n K d_Rev_gatherPartsOf_29 rfl rfl ?_
    refine gx_getN K f_Rev_167 (fb_pl h9) rfl d_Rev_gatherPartsOf_30 ?_
    refine gx_icmp_ne K d_Rev_gatherPartsOf_33 rfl (fun h33 => ?_) (fun h33 => ?_)
    · skip
      refine gx_iinc (v := nI (i + 1)) K d_Rev_gatherPartsOf_107 rfl (nI_add _ _) (gle rfl) rfl ?_
      refine gx_goto K d_Rev_gatherPartsOf_110 rfl ?_
      exact gx_back [true, true, true, true, false] rfl (by rw [cn_no (by unfold c_ok; rw [decide_eq_false h33]; rfl), sm_no (by unfold c_ok; rw [decide_eq_false h33]; rfl), av_no (by unfold c_ok; rw [decide_eq_false h33]; rfl)]) ihi
    · skip
      refine gx_aload_n K d_Rev_gatherPartsOf_36 rfl rfl ?_
      refine gx_iload_n K d_Rev_gatherPartsOf_37 rfl rfl ?_
      refine gx_Vd K (z_Rev_canAdd hN rfl hi G hY0 hY1) Y_Rev_canAdd (ci := 5) rfl (q0 := 12) rfl k631 ks46 k629 rfl ⟨gle rfl, gle rfl⟩ ⟨gle rfl, gle rfl⟩ (gle rfl) d_Rev_gatherPartsOf_38 ?_
      refine gx_if_eqB K d_Rev_gatherPartsOf_41 rfl (fun h41 => ?_) (fun h41 => ?_)
      · skip
        refine gx_iinc (v := nI (i + 1)) K d_Rev_gatherPartsOf_107 rfl (nI_add _ _) (gle rfl) rfl ?_
        refine gx_goto K d_Rev_gatherPartsOf_110 rfl ?_
        exact gx_back [true, true, true, true, false] rfl (by rw [cn_no (by unfold c_ok; rw [h41]; simp), sm_no (by unfold c_ok; rw [h41]; simp), av_no (by unfold c_ok; rw [h41]; simp)]) ihi
      · skip
        refine gx_aload K d_Rev_gatherPartsOf_44 rfl ?_
        refine gx_aload_n K d_Rev_gatherPartsOf_46 rfl rfl ?_
        refine gx_VNd K (z_Fac_standsWith hN hk21 gk21 uk21 hk1 gk1 uk1) Y_Fac_standsWith (ci := 11) rfl (fb_pl hk21) k571 ks32 k637 rfl ⟨gle rfl, gle rfl⟩ ⟨gle rfl, gle rfl⟩ (gle rfl) d_Rev_gatherPartsOf_47 ?_
        refine gx_if_eqB K d_Rev_gatherPartsOf_50 rfl (fun h50 => ?_) (fun h50 => ?_)
        · skip
          refine gx_iinc (v := nI (i + 1)) K d_Rev_gatherPartsOf_107 rfl (nI_add _ _) (gle rfl) rfl ?_
          refine gx_goto K d_Rev_gatherPartsOf_110 rfl ?_
          exact gx_back [true, true, true, true, false] rfl (by rw [cn_no (by unfold c_ok; rw [h50]; simp), sm_no (by unfold c_ok; rw [h50]; simp), av_no (by unfold c_ok; rw [h50]; simp)]) ihi
        · skip
          have hok : c_ok B N E a0 f1 i = true := by unfold c_ok; rw [decide_eq_true h33, h41, h50]; rfl
          refine gx_aload_n K d_Rev_gatherPartsOf_53 rfl rfl ?_
          refine gx_dup K d_Rev_gatherPartsOf_54 rfl ?_
          refine gx_get K f_Rev_177 (q0 := 12) rfl rfl d_Rev_gatherPartsOf_55 ?_
          refine gx_iconst (v := 1) K d_Rev_gatherPartsOf_58 rfl ?_
          refine gx_iadd K d_Rev_gatherPartsOf_59 ?_
          rw [cn_yes hok]
          refine gx_put K f_Rev_177 ft_Rev rfl (q0 := 12) rfl rfl rfl (gle rfl) d_Rev_gatherPartsOf_60 ?_
          refine gx_ws (w1 := (fbW a ty N r en re O z tx X Y fc sl (nI (p0 + cntN (fun g => c_ok B N E a0 f1 g) (i + 1))) (t0 + sumN (fun g => c_f B N E V a0 f1 g) (i)) (v0 || anyB (fun g => c_v B N E a0 f1 g) (i)) rest)) rfl ?_
          refine gx_aload_n K d_Rev_gatherPartsOf_63 rfl rfl ?_
          refine gx_dup K d_Rev_gatherPartsOf_64 rfl ?_
          refine gx_get K f_Rev_198 (q0 := 12) rfl rfl d_Rev_gatherPartsOf_65 ?_
          refine gx_aload_n K d_Rev_gatherPartsOf_68 rfl rfl ?_
          refine gx_getN K f_Rev_221 (fb_pl h9) rfl d_Rev_gatherPartsOf_69 ?_
          refine gx_i2l K d_Rev_gatherPartsOf_72 ?_
          refine gx_aload K d_Rev_gatherPartsOf_73 rfl ?_
          refine gx_getN K f_Rev_208 (fb_pl hk21) rfl d_Rev_gatherPartsOf_75 ?_
          refine gx_lmul K d_Rev_gatherPartsOf_78 ?_
          refine gx_ladd K d_Rev_gatherPartsOf_79 ?_
          rw [sm_yes hok]
          refine gx_put K f_Rev_198 ft_Rev rfl (q0 := 12) rfl rfl rfl (gle rfl) d_Rev_gatherPartsOf_80 ?_
          refine gx_ws (w1 := (fbW a ty N r en re O z tx X Y fc sl (nI (p0 + cntN (fun g => c_ok B N E a0 f1 g) (i + 1))) (t0 + sumN (fun g => c_f B N E V a0 f1 g) (i + 1)) (v0 || anyB (fun g => c_v B N E a0 f1 g) (i)) rest)) rfl ?_
          refine gx_aload_n K d_Rev_gatherPartsOf_83 rfl rfl ?_
          refine gx_cut (X := v0 || anyB (fun g => c_v B N E a0 f1 g) (i + 1)) 104 ?_ (fun j104 => ?_)
          · skip
            refine gx_put K f_Rev_188 ft_Rev rfl (q0 := 12) rfl (b2i_narrow _) (b2i_fits _) (gle rfl) d_Rev_gatherPartsOf_104 ?_
            refine gx_iinc (v := nI (i + 1)) K d_Rev_gatherPartsOf_107 rfl (nI_add _ _) (gle rfl) rfl ?_
            refine gx_goto K d_Rev_gatherPartsOf_110 rfl ?_
            exact gx_back [true, true, true, true, false] rfl rfl ihi
          · skip
            refine gx_aload_n K d_Rev_gatherPartsOf_84 rfl rfl ?_
            refine gx_get K f_Rev_188 (q0 := 12) rfl rfl d_Rev_gatherPartsOf_85 ?_
            refine gx_if_neB K d_Rev_gatherPartsOf_88 rfl (fun h88 => ?_) (fun h88 => ?_)
            · skip
              refine gx_iconst (v := b2i true) K d_Rev_gatherPartsOf_99 rfl ?_
              refine gx_goto K d_Rev_gatherPartsOf_100 rfl ?_
              exact j104 _ (by rw [av_yes hok]; simp [m_vague, h33, h41, h50, h88])
            · skip
              refine gx_aload K d_Rev_gatherPartsOf_91 rfl ?_
              refine gx_VNd K (z_Fac_isVague (fb_pl hk21)) Y_Fac_isVague (ci := 11) rfl (fb_pl hk21) k640 ks48 k638 rfl ⟨gle rfl, gle rfl⟩ ⟨gle rfl, gle rfl⟩ (gle rfl) d_Rev_gatherPartsOf_93 ?_
              refine gx_if_eqB K d_Rev_gatherPartsOf_96 rfl (fun h96 => ?_) (fun h96 => ?_)
              · skip
                refine gx_iconst (v := b2i false) K d_Rev_gatherPartsOf_103 rfl ?_
                exact j104 _ (by rw [av_yes hok]; simp [m_vague, h33, h41, h50, h88, h96])
              · skip
                refine gx_iconst (v := b2i true) K d_Rev_gatherPartsOf_99 rfl ?_
                refine gx_goto K d_Rev_gatherPartsOf_100 rfl ?_
                exact j104 _ (by rw [av_yes hok]; simp [m_vague, h33, h41, h50, h88, h96])
  · skip
    refine gx_iload_n K d_Rev_gatherPartsOf_2 rfl rfl ?_
    refine gx_aload_n K d_Rev_gatherPartsOf_3 rfl rfl ?_
    refine gx_get K f_Rev_35 (q0 := 12) rfl rfl d_Rev_gatherPartsOf_4 ?_
    refine gx_getN K f_Rev_103 (q0 := 6) rfl rfl d_Rev_gatherPartsOf_7 ?_
    refine gx_icmp_geT K d_Rev_gatherPartsOf_10 rfl (Int32.le_refl _) ?_
    exact gx_vret K hr hlk d_Rev_gatherPartsOf_113 ⟨rfl, rfl⟩

section GU
variable {B : Nat → Nat → Bool} {N : Nat → Nat} {E : Nat → Nat → Int32} {V : Nat → Int64} {r : Int32} {f i : Nat}
theorem gs_no (h : c_sel B N E r f i = false) : g_cnt B N E r f (i + 1) = g_cnt B N E r f i := by
  show _ + (if c_sel B N E r f i = true then _ else 0) = _
  rw [h]; rfl
theorem gt_no (h : c_sel B N E r f i = false) : g_sum B N E V r f (i + 1) = g_sum B N E V r f i := by
  show _ + (if c_sel B N E r f i = true then _ else 0) = _
  rw [h]
  exact Int64.add_zero _
theorem gv_no (h : c_sel B N E r f i = false) : g_vag B N E r f (i + 1) = g_vag B N E r f i := by
  show (_ || (c_sel B N E r f i && _)) = _
  rw [h, Bool.false_and, Bool.or_false]
theorem gs_yes (h : c_sel B N E r f i = true) : g_cnt B N E r f (i + 1) = g_cnt B N E r f i + cntN (fun g => c_ok B N E i f g) (N 5) := by
  show _ + (if c_sel B N E r f i = true then _ else 0) = _
  rw [h]; rfl
theorem gt_yes (h : c_sel B N E r f i = true) : g_sum B N E V r f (i + 1) = g_sum B N E V r f i + sumN (fun g => c_f B N E V i f g) (N 5) := by
  show _ + (if c_sel B N E r f i = true then _ else 0) = _
  rw [h]; rfl
theorem gv_yes (h : c_sel B N E r f i = true) : g_vag B N E r f (i + 1) = (g_vag B N E r f i || anyB (fun g => c_v B N E i f g) (N 5)) := by
  show (_ || (c_sel B N E r f i && _)) = _
  rw [h, Bool.true_and]
end GU
set_option maxRecDepth 100000 in
set_option maxHeartbeats 1000000 in
theorem z_Rev_gatherParts {l : Launch} {D : va_G} {ty : Nat → ClassId} {tt : Nat} {a : Nat → Nat} {N : Nat → Nat} {r : Nat → Int32} {en re : Int32} {O : Nat → Nat → Option Nat} {z : Nat} {tx : Nat → Int32} {X : Nat → Nat → Bool} {Y : Nat → Nat → Int32} {fc : Nat} {sl : Bool} {pt : Int32} {tot : Int64} {hv : Bool} {rest : va_W} (hN : mN N) (r0 : Int32) {x : Int32} {f0 : Nat} (hx : x = nI f0) (hf : f0 < N 5) {B : Nat → Nat → Bool} {E : Nat → Nat → Int32} {V : Nat → Int64} (G : cI B N E V O rest re) (hY0 : ∀ j, j < N 5 → Y 0 j = m_fault B E j) (hY1 : ∀ j, j < N 5 → Y 1 j = m_twin N E j) (hX1 : ∀ j, j < N 1 → X 1 j = m_left B N E j) : Cd l y_Rev_gatherParts c_Rev_gatherParts 6 none 3 D ty tt [.ref (a 12), .int r0, .int x] (fbW a ty N r en re O z tx X Y fc sl pt tot hv rest) none (fbW a ty N r en re O z tx X Y fc sl (G_p B N E r0 f0) (G_t B N E V r0 f0) (G_v B N E r0 f0) rest) := by
  obtain ⟨n0, n1, n2, n3, n4, n5⟩ := id hN
  subst hx
  obtain ⟨pC, pA, pX, pU, pF, I, hA, hF, hre, hV⟩ := id G
  refine Ct_of (by decide) (gle rfl) (fun p e s m args below meth c K hr hlk hin => ?_)
  refine gx_aload_n K d_Rev_gatherParts_0 rfl rfl ?_
  refine gx_iconst (v := 0) K d_Rev_gatherParts_1 rfl ?_
  refine gx_put K f_Rev_177 ft_Rev rfl (q0 := 12) rfl rfl rfl (gle rfl) d_Rev_gatherParts_2 ?_
  refine gx_ws (w1 := (fbW a ty N r en re O z tx X Y fc sl (0) tot hv rest)) rfl ?_
  refine gx_aload_n K d_Rev_gatherParts_5 rfl rfl ?_
  refine gx_lconst (v := 0) K d_Rev_gatherParts_6 rfl ?_
  refine gx_put K f_Rev_198 ft_Rev rfl (q0 := 12) rfl rfl rfl (gle rfl) d_Rev_gatherParts_7 ?_
  refine gx_ws (w1 := (fbW a ty N r en re O z tx X Y fc sl (0) (0) hv rest)) rfl ?_
  refine gx_aload_n K d_Rev_gatherParts_10 rfl rfl ?_
  refine gx_iconst (v := b2i false) K d_Rev_gatherParts_11 rfl ?_
  refine gx_put K f_Rev_188 ft_Rev rfl (q0 := 12) rfl (b2i_narrow _) (b2i_fits _) (gle rfl) d_Rev_gatherParts_12 ?_
  refine gx_ws (w1 := (fbW a ty N r en re O z tx X Y fc sl (0) (0) false rest)) rfl ?_
  refine gx_aload_n K d_Rev_gatherParts_15 rfl rfl ?_
  refine gx_iload_n K d_Rev_gatherParts_16 rfl rfl ?_
  refine gx_Vd K (z_Rev_canAdd hN rfl hf G hY0 hY1) Y_Rev_canAdd (ci := 5) rfl (q0 := 12) rfl k631 ks46 k629 rfl ⟨gle rfl, gle rfl⟩ ⟨gle rfl, gle rfl⟩ (gle rfl) d_Rev_gatherParts_17 ?_
  refine gx_if_neB K d_Rev_gatherParts_20 rfl (fun h20 => ?_) (fun h20 => ?_)
  · skip
    refine gx_aload_n K d_Rev_gatherParts_24 rfl rfl ?_
    refine gx_get K f_Rev_35 (q0 := 12) rfl rfl d_Rev_gatherParts_25 ?_
    refine gx_getN K f_Rev_108 (q0 := 6) rfl rfl d_Rev_gatherParts_28 ?_
    refine gx_iload_n K d_Rev_gatherParts_31 rfl rfl ?_
    refine gx_aald K (t := 8) rfl (q0 := 9) rfl rfl (by omega) (by decide) d_Rev_gatherParts_32 ?_
    obtain ⟨q32, k32, x32, i32, u32, hO32, hk32, gk32, uk32⟩ := pF (f0) (by omega)
    rw [hO32]
    refine gx_astore_n K d_Rev_gatherParts_33 rfl (gle rfl) rfl ?_
    refine gx_iconst (v := 0) K d_Rev_gatherParts_34 rfl ?_
    refine gx_istore K d_Rev_gatherParts_35 (gle rfl) rfl ?_
    refine gx_loop [true, true, true, true, true, false] (N 1) (fun i => (fbW a ty N r en re O z tx X Y fc sl (nI (g_cnt B N E r0 f0 (i))) (g_sum B N E V r0 f0 (i)) (g_vag B N E r0 f0 (i)) rest)) (fun i => [some (.ref (a 12)), some (.int r0), some (.int (nI f0)), some (.ref q32), some (.int (nI i)), none]) rfl rfl (fun i hi ihi => ?_) ?_
    · skip
      refine gx_iload K d_Rev_gatherParts_37 rfl ?_
      refine gx_aload_n K d_Rev_gatherParts_39 rfl rfl ?_
      refine gx_get K f_Rev_31 (q0 := 12) rfl rfl d_Rev_gatherParts_40 ?_
      refine gx_getN K f_Rev_71 (q0 := 1) rfl rfl d_Rev_gatherParts_43 ?_
      refine gx_icmp_geF K d_Rev_gatherParts_46 rfl (nI_ge hi (by omega)) ?_
      refine gx_aload_n K d_Rev_gatherParts_49 rfl rfl ?_
      refine gx_get K f_Rev_31 (q0 := 12) rfl rfl d_Rev_gatherParts_50 ?_
      refine gx_getN K f_Rev_76 (q0 := 1) rfl rfl d_Rev_gatherParts_53 ?_
      refine gx_iload K d_Rev_gatherParts_56 rfl ?_
      refine gx_aald K (t := 5) rfl (q0 := 5) rfl rfl (by omega) (by decide) d_Rev_gatherParts_58 ?_
      obtain ⟨q58, k58, z58, j58, hO58, hk58, gk58⟩ := pA (i) (by omega)
      rw [hO58]
      refine gx_astore K d_Rev_gatherParts_59 (gle rfl) rfl ?_
      refine gx_aload_n K d_Rev_gatherParts_61 rfl rfl ?_
      refine gx_get K f_Rev_15 (q0 := 12) rfl rfl d_Rev_gatherParts_62 ?_
      refine gx_iload K d_Rev_gatherParts_65 rfl ?_
      refine gx_zld K (q0 := 14) rfl rfl (by omega) (by decide) d_Rev_gatherParts_67 ?_
      refine gx_if_eqB K d_Rev_gatherParts_68 rfl (fun h68 => ?_) (fun h68 => ?_)
      · skip
        refine gx_iinc (v := nI (i + 1)) K d_Rev_gatherParts_100 rfl (nI_add _ _) (gle rfl) rfl ?_
        refine gx_goto K d_Rev_gatherParts_103 rfl ?_
        exact gx_back [true, true, true, true, true, false] rfl (by rw [gs_no (show c_sel B N E r0 f0 i = false from by unfold c_sel; rw [← hX1 i hi, show X 1 i = false from h68]; rfl), gt_no (show c_sel B N E r0 f0 i = false from by unfold c_sel; rw [← hX1 i hi, show X 1 i = false from h68]; rfl), gv_no (show c_sel B N E r0 f0 i = false from by unfold c_sel; rw [← hX1 i hi, show X 1 i = false from h68]; rfl)]) ihi
      · skip
        refine gx_aload K d_Rev_gatherParts_71 rfl ?_
        refine gx_iload_n K d_Rev_gatherParts_73 rfl rfl ?_
        refine gx_iconst (v := 0) K d_Rev_gatherParts_74 rfl ?_
        refine gx_VNd K (z_Arc_isIn _ _ (fb_pl hk58) (fb_pl gk58)) Y_Arc_isIn (ci := 8) rfl (fb_pl hk58) k615 ks42 k613 rfl ⟨gle rfl, gle rfl⟩ ⟨gle rfl, gle rfl⟩ (gle rfl) d_Rev_gatherParts_75 ?_
        refine gx_if_eqB K d_Rev_gatherParts_78 rfl (fun h78 => ?_) (fun h78 => ?_)
        · skip
          refine gx_iinc (v := nI (i + 1)) K d_Rev_gatherParts_100 rfl (nI_add _ _) (gle rfl) rfl ?_
          refine gx_goto K d_Rev_gatherParts_103 rfl ?_
          exact gx_back [true, true, true, true, true, false] rfl (by rw [gs_no (show c_sel B N E r0 f0 i = false from by unfold c_sel; rw [h78]; simp), gt_no (show c_sel B N E r0 f0 i = false from by unfold c_sel; rw [h78]; simp), gv_no (show c_sel B N E r0 f0 i = false from by unfold c_sel; rw [h78]; simp)]) ihi
        · skip
          refine gx_aload K d_Rev_gatherParts_81 rfl ?_
          refine gx_getN K f_Rev_164 (fb_pl hk58) rfl d_Rev_gatherParts_83 ?_
          refine gx_aload_n K d_Rev_gatherParts_86 rfl rfl ?_
          refine gx_getN K f_Rev_112 (fb_pl hk32) rfl d_Rev_gatherParts_87 ?_
          refine gx_icmp_ne K d_Rev_gatherParts_90 rfl (fun h90 => ?_) (fun h90 => ?_)
          · skip
            refine gx_iinc (v := nI (i + 1)) K d_Rev_gatherParts_100 rfl (nI_add _ _) (gle rfl) rfl ?_
            refine gx_goto K d_Rev_gatherParts_103 rfl ?_
            exact gx_back [true, true, true, true, true, false] rfl (by rw [gs_no (show c_sel B N E r0 f0 i = false from by unfold c_sel; rw [decide_eq_false h90]; simp), gt_no (show c_sel B N E r0 f0 i = false from by unfold c_sel; rw [decide_eq_false h90]; simp), gv_no (show c_sel B N E r0 f0 i = false from by unfold c_sel; rw [decide_eq_false h90]; simp)]) ihi
          · skip
            refine gx_aload_n K d_Rev_gatherParts_93 rfl rfl ?_
            refine gx_aload K d_Rev_gatherParts_94 rfl ?_
            refine gx_aload_n K d_Rev_gatherParts_96 rfl rfl ?_
            refine gx_Vdv K (z_Rev_gatherPartsOf hN G hY0 hY1 hk58 hk32 gk32 uk32) Y_Rev_gatherPartsOf (ci := 5) rfl (q0 := 12) rfl k635 ks47 k633 rfl ⟨gle rfl, gle rfl⟩ ⟨gle rfl, gle rfl⟩ (gle rfl) d_Rev_gatherParts_97 ?_
            refine gx_iinc (v := nI (i + 1)) K d_Rev_gatherParts_100 rfl (nI_add _ _) (gle rfl) rfl ?_
            refine gx_goto K d_Rev_gatherParts_103 rfl ?_
            exact gx_back [true, true, true, true, true, false] rfl (by rw [gs_yes (show c_sel B N E r0 f0 i = true from by unfold c_sel; rw [← hX1 i hi, show X 1 i = true from h68, h78, decide_eq_true h90]; rfl), gt_yes (show c_sel B N E r0 f0 i = true from by unfold c_sel; rw [← hX1 i hi, show X 1 i = true from h68, h78, decide_eq_true h90]; rfl), gv_yes (show c_sel B N E r0 f0 i = true from by unfold c_sel; rw [← hX1 i hi, show X 1 i = true from h68, h78, decide_eq_true h90]; rfl)]) ihi
    · skip
      refine gx_iload K d_Rev_gatherParts_37 rfl ?_
      refine gx_aload_n K d_Rev_gatherParts_39 rfl rfl ?_
      refine gx_get K f_Rev_31 (q0 := 12) rfl rfl d_Rev_gatherParts_40 ?_
      refine gx_getN K f_Rev_71 (q0 := 1) rfl rfl d_Rev_gatherParts_43 ?_
      refine gx_icmp_geT K d_Rev_gatherParts_46 rfl (Int32.le_refl _) ?_
      exact gx_vret K hr hlk d_Rev_gatherParts_106 ⟨rfl, by unfold G_p G_t G_v; rw [h20, if_pos rfl, if_pos rfl, Bool.true_and]⟩
  · skip
    exact gx_vret K hr hlk d_Rev_gatherParts_23 ⟨rfl, by unfold G_p G_t G_v; rw [h20]; rfl⟩

set_option maxRecDepth 100000 in
set_option maxHeartbeats 1000000 in
theorem z_Rev_agrees {l : Launch} {D : va_G} {ty : Nat → ClassId} {tt : Nat} {a : Nat → Nat} {N : Nat → Nat} {r : Nat → Int32} {en re : Int32} {O : Nat → Nat → Option Nat} {z : Nat} {tx : Nat → Int32} {X : Nat → Nat → Bool} {Y : Nat → Nat → Int32} {fc : Nat} {sl : Bool} {pt : Int32} {tot : Int64} {hv : Bool} {rest : va_W} (hN : mN N)  {E : Nat → Nat → Int32} {V : Nat → Int64} {q1 k1 x1 i1 f1 : Nat} {u1 : Value} (hk1 : rest[k1]? = some (q1, .inr (11, [.int (E 19 f1), .ref x1, u1, .int (E 22 f1), .int (E 23 f1), .long (V f1), .int (m_places (E 22 f1) (E 23 f1) (V f1)), .long (m_rounded E V f1)]))) (gk1 : rest[i1]? = some (x1, .inr (9, [.int (E 11 (ix (E 20 f1))), .int (E 12 (ix (E 20 f1))), .int (E 13 (ix (E 20 f1))), .int (E 14 (ix (E 20 f1)))]))) (uk1 : pUn E rest u1 (E 21 f1)) : Cd l y_Rev_agrees c_Rev_agrees 4 (some .boolean) 2 D ty tt [.ref (a 12), .ref q1] (fbW a ty N r en re O z tx X Y fc sl pt tot hv rest) (some (.int (b2i (!(m_vague E f1) && (!hv && decide (r_c tot (k_ten (7 - m_places (E 22 f1) (E 23 f1) (V f1))) = 10 * m_rounded E V f1)))))) (fbW a ty N r en re O z tx X Y fc sl pt tot hv rest) := by
  obtain ⟨n0, n1, n2, n3, n4, n5⟩ := id hN
  refine Ct_of (by decide) (gle rfl) (fun p e s m args below meth c K hr hlk hin => ?_)
  refine gx_aload_n K d_Rev_agrees_0 rfl rfl ?_
  refine gx_VNd K (z_Fac_isVague (fb_pl hk1)) Y_Fac_isVague (ci := 11) rfl (fb_pl hk1) k640 ks48 k638 rfl ⟨gle rfl, gle rfl⟩ ⟨gle rfl, gle rfl⟩ (gle rfl) d_Rev_agrees_1 ?_
  refine gx_if_neB K d_Rev_agrees_4 rfl (fun h4 => ?_) (fun h4 => ?_)
  · skip
    refine gx_iconst (v := b2i false) K d_Rev_agrees_14 rfl ?_
    exact gx_zret K hr hlk d_Rev_agrees_15 ⟨gRb (by simp [m_vague, h4] <;> simp_all), rfl⟩
  · skip
    refine gx_aload_n K d_Rev_agrees_7 rfl rfl ?_
    refine gx_get K f_Rev_188 (q0 := 12) rfl rfl d_Rev_agrees_8 ?_
    refine gx_if_eqB K d_Rev_agrees_11 rfl (fun h11 => ?_) (fun h11 => ?_)
    · skip
      refine gx_bipush (v := 7) K d_Rev_agrees_16 rfl ?_
      refine gx_aload_n K d_Rev_agrees_18 rfl rfl ?_
      refine gx_getN K f_Rev_191 (fb_pl hk1) rfl d_Rev_agrees_19 ?_
      refine gx_isub K d_Rev_agrees_22 ?_
      refine gx_SNd K (z_FB_tenTo _) Y_FB_tenTo k436 k646 rfl ⟨gle rfl, gle rfl⟩ ⟨gle rfl, gle rfl⟩ (gle rfl) d_Rev_agrees_23 ?_
      refine gx_lstore_n K d_Rev_agrees_26 rfl (gle rfl) rfl ?_
      refine gx_aload_n K d_Rev_agrees_27 rfl rfl ?_
      refine gx_get K f_Rev_198 (q0 := 12) rfl rfl d_Rev_agrees_28 ?_
      refine gx_lload_n K d_Rev_agrees_31 rfl rfl ?_
      refine gx_SNd K (z_FB_roundTo _ _) Y_FB_roundTo k460 k647 rfl ⟨gle rfl, gle rfl⟩ ⟨gle rfl, gle rfl⟩ (gle rfl) d_Rev_agrees_32 ?_
      refine gx_ldc2 K d_Rev_agrees_35 k648 ?_
      refine gx_aload_n K d_Rev_agrees_38 rfl rfl ?_
      refine gx_getN K f_Rev_208 (fb_pl hk1) rfl d_Rev_agrees_39 ?_
      refine gx_lmul K d_Rev_agrees_42 ?_
      refine gx_lcmp K d_Rev_agrees_43 ?_
      refine gx_ifl_ne K d_Rev_agrees_44 rfl (fun h44 => ?_) (fun h44 => ?_)
      · skip
        refine gx_iconst (v := b2i false) K d_Rev_agrees_51 rfl ?_
        exact gx_zret K hr hlk d_Rev_agrees_52 ⟨gRb (by simp [m_vague, h4, h11, h44] <;> simp_all), rfl⟩
      · skip
        refine gx_iconst (v := b2i true) K d_Rev_agrees_47 rfl ?_
        refine gx_goto K d_Rev_agrees_48 rfl ?_
        exact gx_zret K hr hlk d_Rev_agrees_52 ⟨gRb (by simp [m_vague, h4, h11, h44] <;> simp_all), rfl⟩
    · skip
      refine gx_iconst (v := b2i false) K d_Rev_agrees_14 rfl ?_
      exact gx_zret K hr hlk d_Rev_agrees_15 ⟨gRb (by simp [m_vague, h4, h11] <;> simp_all), rfl⟩

