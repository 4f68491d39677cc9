def s_at (B : Nat → Nat → Bool) (N : Nat → Nat) (E : Nat → Nat → Int32) (V : Nat → Int64) (t : Int32 × Int64 × Bool) : Nat → Int32 × Int64 × Bool
  | 0 => t
  | k + 1 => (G_p B N E (nI (k / N 5)) (k % N 5), G_t B N E V (nI (k / N 5)) (k % N 5), G_v B N E (nI (k / N 5)) (k % N 5))
theorem s_at_step {B : Nat → Nat → Bool} {N : Nat → Nat} {E : Nat → Nat → Int32} {V : Nat → Int64} {t : Int32 × Int64 × Bool} {q i : Nat} (hi : i < N 5) : s_at B N E V t (q * N 5 + (i + 1)) = (G_p B N E (nI q) i, G_t B N E V (nI q) i, G_v B N E (nI q) i) := by
  have e1 : (q * N 5 + i) / N 5 = q := by rw [Nat.mul_comm q, Nat.mul_add_div (by omega), Nat.div_eq_of_lt hi, Nat.add_zero]
  have e2 : (q * N 5 + i) % N 5 = i := by rw [Nat.mul_comm q, Nat.mul_add_mod, Nat.mod_eq_of_lt hi]
  show (G_p B N E (nI ((q * N 5 + i) / N 5)) ((q * N 5 + i) % N 5), G_t B N E V (nI ((q * N 5 + i) / N 5)) ((q * N 5 + i) % N 5), G_v B N E (nI ((q * N 5 + i) / N 5)) ((q * N 5 + i) % N 5)) = _
  rw [e1, e2]
set_option maxRecDepth 100000 in
set_option maxHeartbeats 1000000 in
theorem z_Rev_tellTotals {l : Launch} {D : va_G} {ty : Nat → ClassId} {tt : Nat} {a : Nat → Nat} {N : Nat → Nat} {r : Nat → Int32} {en re : Int32} {O : Nat → Nat → Option Nat} {z : Nat} {tx : Nat → Int32} {X : Nat → Nat → Bool} {Y : Nat → Nat → Int32} {sl : Bool} {pt : Int32} {tot : Int64} {hv : Bool} {rest : va_W} (hN : mN N) {ps : List Int32} {B : Nat → Nat → Bool} {E : Nat → Nat → Int32} {V : Nat → Int64} (G : cI B N E V O rest re) (hb : (ps ++ lstN (fun q => lstN (fun f => m_p9 B N E V q f) (N 5)) 3).length ≤ 180) (hY0 : ∀ j, j < N 5 → Y 0 j = m_fault B E j) (hY1 : ∀ j, j < N 5 → Y 1 j = m_twin N E j) (hX1 : ∀ j, j < N 1 → X 1 j = m_left B N E j) (hG : ∀ q f, q < 3 → f < N 5 → (0 < G_p B N E (nI q) f ↔ m_bound B N E (nI q) f = true)) (hG2 : ∀ q f, q < 3 → f < N 5 → m_bound B N E (nI q) f = true → (!(m_vague E f) && (!(G_v B N E (nI q) f) && decide (r_c (G_t B N E V (nI q) f) (k_ten (7 - m_places (E 22 f) (E 23 f) (V f))) = 10 * m_rounded E V f))) = m_agrees B N E V (nI q) f) : Cd l y_Rev_tellTotals c_Rev_tellTotals 3 none 4 D ty tt [.ref (a 12)] (fbW a ty N r en re O z tx X (va_up Y 3 (fl (Y 3) (ps))) ((ps).length) sl pt tot hv rest) none (fbW a ty N r en re O z tx X (va_up Y 3 (fl (Y 3) (ps ++ lstN (fun q => lstN (fun f => m_p9 B N E V q f) (N 5)) 3))) ((ps ++ lstN (fun q => lstN (fun f => m_p9 B N E V q f) (N 5)) 3).length) sl ((s_at B N E V (pt, tot, hv) (3 * N 5)).1) ((s_at B N E V (pt, tot, hv) (3 * N 5)).2.1) ((s_at B N E V (pt, tot, hv) (3 * N 5)).2.2) rest) := by
  obtain ⟨n0, n1, n2, n3, n4, n5⟩ := id hN
  obtain ⟨pC, pA, pX, pU, pF, I, hA, hF, hre, hV⟩ := id G
  refine Ct_of (by decide) (gle rfl) (fun p e s m args below meth c K hr hlk hin => ?_)
  refine gx_iconst (v := 0) K d_Rev_tellTotals_0 rfl ?_
  refine gx_istore_n K d_Rev_tellTotals_1 rfl (gle rfl) rfl ?_
  refine gx_loop [true, true, false] 3 (fun q => (fbW a ty N r en re O z tx X (va_up Y 3 (fl (Y 3) (ps ++ lstN (fun q => lstN (fun f => m_p9 B N E V q f) (N 5)) q))) ((ps ++ lstN (fun q => lstN (fun f => m_p9 B N E V q f) (N 5)) q).length) sl ((s_at B N E V (pt, tot, hv) (q * N 5)).1) ((s_at B N E V (pt, tot, hv) (q * N 5)).2.1) ((s_at B N E V (pt, tot, hv) (q * N 5)).2.2) rest)) (fun q => [some (.ref (a 12)), some (.int (nI q)), none]) (by rw [Nat.zero_mul, show lstN (fun q => lstN (fun f => m_p9 B N E V q f) (N 5)) 0 = [] from rfl, List.append_nil]; rfl) rfl (fun q hq ihq => ?_) ?_
  · skip
    have hbq : ((ps ++ lstN (fun q => lstN (fun f => m_p9 B N E V q f) (N 5)) q) ++ lstN (fun f => m_p9 B N E V q f) (N 5)).length ≤ 180 := by
      rw [List.append_assoc]
      exact lst_le (f := (fun q => lstN (fun f => m_p9 B N E V q f) (N 5))) (i := q + 1) (by omega) hb
    refine gx_iload_n K d_Rev_tellTotals_2 rfl rfl ?_
    refine gx_iconst (v := 3) K d_Rev_tellTotals_3 rfl ?_
    refine gx_icmp_geF K d_Rev_tellTotals_4 rfl (nI_ge (b := 3) hq (by decide)) ?_
    refine gx_iconst (v := 0) K d_Rev_tellTotals_7 rfl ?_
    refine gx_istore_n K d_Rev_tellTotals_8 rfl (gle rfl) rfl ?_
    refine gx_loop [true, true, true] (N 5) (fun i => (fbW a ty N r en re O z tx X (va_up Y 3 (fl (Y 3) ((ps ++ lstN (fun q => lstN (fun f => m_p9 B N E V q f) (N 5)) q) ++ lstN (fun f => m_p9 B N E V q f) i))) (((ps ++ lstN (fun q => lstN (fun f => m_p9 B N E V q f) (N 5)) q) ++ lstN (fun f => m_p9 B N E V q f) i).length) sl ((s_at B N E V (pt, tot, hv) (q * N 5 + i)).1) ((s_at B N E V (pt, tot, hv) (q * N 5 + i)).2.1) ((s_at B N E V (pt, tot, hv) (q * N 5 + i)).2.2) rest)) (fun i => [some (.ref (a 12)), some (.int (nI q)), some (.int (nI i))]) (by rw [show lstN (fun f => m_p9 B N E V q f) 0 = [] from rfl, List.append_nil]; rfl) rfl (fun i hi ihi => ?_) ?_
    · skip
      refine gx_iload_n K d_Rev_tellTotals_9 rfl rfl ?_
      refine gx_aload_n K d_Rev_tellTotals_10 rfl rfl ?_
      refine gx_get K f_Rev_35 (q0 := 12) rfl rfl d_Rev_tellTotals_11 ?_
      refine gx_getN K f_Rev_103 (q0 := 6) rfl rfl d_Rev_tellTotals_14 ?_
      refine gx_icmp_geF K d_Rev_tellTotals_17 rfl (nI_ge hi (by omega)) ?_
      refine gx_aload_n K d_Rev_tellTotals_20 rfl rfl ?_
      refine gx_iload_n K d_Rev_tellTotals_21 rfl rfl ?_
      refine gx_iload_n K d_Rev_tellTotals_22 rfl rfl ?_
      refine gx_Vdv K (z_Rev_gatherParts hN (nI q) rfl hi G hY0 hY1 hX1) Y_Rev_gatherParts (ci := 5) rfl (q0 := 12) rfl k627 ks45 k625 rfl ⟨gle rfl, gle rfl⟩ ⟨gle rfl, gle rfl⟩ (gle rfl) d_Rev_tellTotals_23 ?_
      refine gx_aload_n K d_Rev_tellTotals_26 rfl rfl ?_
      refine gx_get K f_Rev_177 (q0 := 12) rfl rfl d_Rev_tellTotals_27 ?_
      refine gx_if_le K d_Rev_tellTotals_30 rfl (fun h30 => ?_) (fun h30 => ?_)
      · skip
        refine gx_iinc (v := nI (i + 1)) K d_Rev_tellTotals_57 rfl (nI_add _ _) (gle rfl) rfl ?_
        refine gx_goto K d_Rev_tellTotals_60 rfl ?_
        exact gx_back [true, true, true] rfl (by rw [s_at_step hi, lst_no (f := (fun f => m_p9 B N E V q f)) (i := i) (if_neg (fun z => Int32.not_lt.mpr h30 ((hG q i hq hi).mpr z.1)))]) ihi
      · skip
        refine gx_aload_n K d_Rev_tellTotals_33 rfl rfl ?_
        refine gx_aload_n K d_Rev_tellTotals_34 rfl rfl ?_
        refine gx_get K f_Rev_35 (q0 := 12) rfl rfl d_Rev_tellTotals_35 ?_
        refine gx_getN K f_Rev_108 (q0 := 6) rfl rfl d_Rev_tellTotals_38 ?_
        refine gx_iload_n K d_Rev_tellTotals_41 rfl rfl ?_
        refine gx_aald K (t := 8) rfl (q0 := 9) rfl rfl (by omega) (by decide) d_Rev_tellTotals_42 ?_
        obtain ⟨q42, k42, x42, i42, u42, hO42, hk42, gk42, uk42⟩ := pF (i) (by omega)
        rw [hO42]
        refine gx_Vd K (z_Rev_agrees hN hk42 gk42 uk42) Y_Rev_agrees (ci := 5) rfl (q0 := 12) rfl k644 ks49 k642 rfl ⟨gle rfl, gle rfl⟩ ⟨gle rfl, gle rfl⟩ (gle rfl) d_Rev_tellTotals_43 ?_
        refine gx_if_neB K d_Rev_tellTotals_46 rfl (fun h46 => ?_) (fun h46 => ?_)
        · skip
          refine gx_iinc (v := nI (i + 1)) K d_Rev_tellTotals_57 rfl (nI_add _ _) (gle rfl) rfl ?_
          refine gx_goto K d_Rev_tellTotals_60 rfl ?_
          exact gx_back [true, true, true] rfl (by rw [s_at_step hi, lst_no (f := (fun f => m_p9 B N E V q f)) (i := i) (if_neg (fun z => by have z2 := z.2; rw [← hG2 q i hq hi z.1, h46] at z2; exact absurd z2 (by decide)))]) ihi
        · skip
          have hbd := (hG q i hq hi).mp (Int32.not_le.mp h30)
          have hfi : (fun f => m_p9 B N E V q f) i = [9 * 10000 + 100 * nI q + nI i] := (if_pos ⟨hbd, (hG2 q i hq hi hbd).symm.trans h46⟩ : m_p9 B N E V q i = _).trans (by rw [show (9 : Int32) * 10000 + 100 * nI q + nI i = nI (90000 + 100 * q + i) from tv 9 q i])
          refine gx_aload_n K d_Rev_tellTotals_49 rfl rfl ?_
          refine gx_bipush (v := 9) K d_Rev_tellTotals_50 rfl ?_
          refine gx_iload_n K d_Rev_tellTotals_52 rfl rfl ?_
          refine gx_iload_n K d_Rev_tellTotals_53 rfl rfl ?_
          refine gx_Vdv K (z_Rev_tell hN (lst_lt hi hfi hbq)) Y_Rev_tell (ci := 5) rfl (q0 := 12) rfl k586 ks35 k584 rfl ⟨gle rfl, gle rfl⟩ ⟨gle rfl, gle rfl⟩ (gle rfl) d_Rev_tellTotals_54 ?_
          refine gx_iinc (v := nI (i + 1)) K d_Rev_tellTotals_57 rfl (nI_add _ _) (gle rfl) rfl ?_
          refine gx_goto K d_Rev_tellTotals_60 rfl ?_
          exact gx_back [true, true, true] rfl (by rw [s_at_step hi, lst_yes (f := (fun f => m_p9 B N E V q f)) hfi]) ihi
    · skip
      refine gx_iload_n K d_Rev_tellTotals_9 rfl rfl ?_
      refine gx_aload_n K d_Rev_tellTotals_10 rfl rfl ?_
      refine gx_get K f_Rev_35 (q0 := 12) rfl rfl d_Rev_tellTotals_11 ?_
      refine gx_getN K f_Rev_103 (q0 := 6) rfl rfl d_Rev_tellTotals_14 ?_
      refine gx_icmp_geT K d_Rev_tellTotals_17 rfl (Int32.le_refl _) ?_
      refine gx_iinc (v := nI (q + 1)) K d_Rev_tellTotals_63 rfl (nI_add _ _) (gle rfl) rfl ?_
      refine gx_goto K d_Rev_tellTotals_66 rfl ?_
      exact gx_back [true, true, false] rfl (by rw [List.append_assoc, Nat.succ_mul]; rfl) ihq
  · skip
    refine gx_iload_n K d_Rev_tellTotals_2 rfl rfl ?_
    refine gx_iconst (v := 3) K d_Rev_tellTotals_3 rfl ?_
    refine gx_icmp_geT K d_Rev_tellTotals_4 rfl (by decide) ?_
    exact gx_vret K hr hlk d_Rev_tellTotals_69 ⟨rfl, rfl⟩

def j_st (t : Nat) (f : Nat → Int32) (k : Nat) : Nat → Int32 := if bt (f k) t = true then upd f k (f k ||| f t) else f
def j_sw (t : Nat) (f : Nat → Int32) : Nat → Nat → Int32
  | 0 => f
  | k + 1 => j_st t (j_sw t f k) k
def j_it (n : Nat) (f : Nat → Int32) : Nat → Nat → Int32
  | 0 => f
  | t + 1 => j_sw t (j_it n f t) n
set_option maxRecDepth 100000 in
set_option maxHeartbeats 1000000 in
theorem z_Rev_joinWays {l : Launch} {D : va_G} {ty : Nat → ClassId} {tt : Nat} {a : Nat → Nat} {N : Nat → Nat} {r : Nat → Int32} {en re : Int32} {O : Nat → Nat → Option Nat} {z : Nat} {tx : Nat → Int32} {X : Nat → Nat → Bool} {Y : Nat → Nat → Int32} {fc : Nat} {sl : Bool} {pt : Int32} {tot : Int64} {hv : Bool} {rest : va_W} (hN : mN N)  : Cd l y_Rev_joinWays c_Rev_joinWays 3 none 0 D ty tt [.ref (a 12)] (fbW a ty N r en re O z tx X Y fc sl pt tot hv rest) none (fbW a ty N r en re O z tx X (va_up Y 2 (j_it (N 0) (Y 2) (N 0))) fc sl pt tot hv rest) := by
  obtain ⟨n0, n1, n2, n3, n4, n5⟩ := id hN
  refine Ct_of (by decide) (gle rfl) (fun p e s m args below meth c K hr hlk hin => ?_)
  refine gx_iconst (v := 0) K d_Rev_joinWays_0 rfl ?_
  refine gx_istore_n K d_Rev_joinWays_1 rfl (gle rfl) rfl ?_
  refine gx_loop [true, true, false] (N 0) (fun t => (fbW a ty N r en re O z tx X (va_up Y 2 (j_it (N 0) (Y 2) t)) fc sl pt tot hv rest)) (fun t => [some (.ref (a 12)), some (.int (nI t)), none]) (by rw [show va_up Y 2 (j_it (N 0) (Y 2) 0) = Y from gUpS Y 2]) rfl (fun t ht iht => ?_) ?_
  · skip
    refine gx_iload_n K d_Rev_joinWays_2 rfl rfl ?_
    refine gx_aload_n K d_Rev_joinWays_3 rfl rfl ?_
    refine gx_get K f_Rev_31 (q0 := 12) rfl rfl d_Rev_joinWays_4 ?_
    refine gx_getN K f_Rev_158 (q0 := 1) rfl rfl d_Rev_joinWays_7 ?_
    refine gx_icmp_geF K d_Rev_joinWays_10 rfl (nI_ge ht (by omega)) ?_
    refine gx_iconst (v := 0) K d_Rev_joinWays_13 rfl ?_
    refine gx_istore_n K d_Rev_joinWays_14 rfl (gle rfl) rfl ?_
    refine gx_loop [true, true, true] (N 0) (fun i => (fbW a ty N r en re O z tx X (va_up Y 2 (j_sw t (j_it (N 0) (Y 2) t) (i))) fc sl pt tot hv rest)) (fun i => [some (.ref (a 12)), some (.int (nI t)), some (.int (nI i))]) rfl rfl (fun i hi ihi => ?_) ?_
    · skip
      refine gx_iload_n K d_Rev_joinWays_15 rfl rfl ?_
      refine gx_aload_n K d_Rev_joinWays_16 rfl rfl ?_
      refine gx_get K f_Rev_31 (q0 := 12) rfl rfl d_Rev_joinWays_17 ?_
      refine gx_getN K f_Rev_158 (q0 := 1) rfl rfl d_Rev_joinWays_20 ?_
      refine gx_icmp_geF K d_Rev_joinWays_23 rfl (nI_ge hi (by omega)) ?_
      refine gx_aload_n K d_Rev_joinWays_26 rfl rfl ?_
      refine gx_get K f_Rev_25 (q0 := 12) rfl rfl d_Rev_joinWays_27 ?_
      refine gx_iload_n K d_Rev_joinWays_30 rfl rfl ?_
      refine gx_iald K (q0 := 17) rfl rfl (by omega) (by decide) d_Rev_joinWays_31 ?_
      refine gx_iload_n K d_Rev_joinWays_32 rfl rfl ?_
      refine gx_ishr K d_Rev_joinWays_33 ?_
      refine gx_iconst (v := 1) K d_Rev_joinWays_34 rfl ?_
      refine gx_iand K d_Rev_joinWays_35 ?_
      refine gx_if_eq K d_Rev_joinWays_36 rfl (fun h36 => ?_) (fun h36 => ?_)
      · skip
        refine gx_iinc (v := nI (i + 1)) K d_Rev_joinWays_54 rfl (nI_add _ _) (gle rfl) rfl ?_
        refine gx_goto K d_Rev_joinWays_57 rfl ?_
        exact gx_back [true, true, true] rfl (by rw [show j_sw t (j_it (N 0) (Y 2) t) (i + 1) = j_sw t (j_it (N 0) (Y 2) t) (i) from if_neg (by rw [show bt ((j_sw t (j_it (N 0) (Y 2) t) (i)) i) t = false from (b_bit _ (by omega)).mp h36]; decide)]) ihi
      · skip
        refine gx_aload_n K d_Rev_joinWays_39 rfl rfl ?_
        refine gx_get K f_Rev_25 (q0 := 12) rfl rfl d_Rev_joinWays_40 ?_
        refine gx_iload_n K d_Rev_joinWays_43 rfl rfl ?_
        refine gx_dup2 K d_Rev_joinWays_44 rfl rfl ?_
        refine gx_iald K (q0 := 17) rfl rfl (by omega) (by decide) d_Rev_joinWays_45 ?_
        refine gx_aload_n K d_Rev_joinWays_46 rfl rfl ?_
        refine gx_get K f_Rev_25 (q0 := 12) rfl rfl d_Rev_joinWays_47 ?_
        refine gx_iload_n K d_Rev_joinWays_50 rfl rfl ?_
        refine gx_iald K (q0 := 17) rfl rfl (by omega) (by decide) d_Rev_joinWays_51 ?_
        refine gx_ior K d_Rev_joinWays_52 ?_
        refine gx_iast K (q0 := 17) rfl rfl (by omega) (by decide) d_Rev_joinWays_53 ?_
        refine gx_iinc (v := nI (i + 1)) K d_Rev_joinWays_54 rfl (nI_add _ _) (gle rfl) rfl ?_
        refine gx_goto K d_Rev_joinWays_57 rfl ?_
        exact gx_back [true, true, true] rfl (by rw [show j_sw t (j_it (N 0) (Y 2) t) (i + 1) = upd (j_sw t (j_it (N 0) (Y 2) t) (i)) i ((j_sw t (j_it (N 0) (Y 2) t) (i)) i ||| (j_sw t (j_it (N 0) (Y 2) t) (i)) t) from if_pos (bt_t (fun z => h36 ((b_bit _ (by omega)).mpr z)))]; rfl) ihi
    · skip
      refine gx_iload_n K d_Rev_joinWays_15 rfl rfl ?_
      refine gx_aload_n K d_Rev_joinWays_16 rfl rfl ?_
      refine gx_get K f_Rev_31 (q0 := 12) rfl rfl d_Rev_joinWays_17 ?_
      refine gx_getN K f_Rev_158 (q0 := 1) rfl rfl d_Rev_joinWays_20 ?_
      refine gx_icmp_geT K d_Rev_joinWays_23 rfl (Int32.le_refl _) ?_
      refine gx_iinc (v := nI (t + 1)) K d_Rev_joinWays_60 rfl (nI_add _ _) (gle rfl) rfl ?_
      refine gx_goto K d_Rev_joinWays_63 rfl ?_
      exact gx_back [true, true, false] rfl rfl iht
  · skip
    refine gx_iload_n K d_Rev_joinWays_2 rfl rfl ?_
    refine gx_aload_n K d_Rev_joinWays_3 rfl rfl ?_
    refine gx_get K f_Rev_31 (q0 := 12) rfl rfl d_Rev_joinWays_4 ?_
    refine gx_getN K f_Rev_158 (q0 := 1) rfl rfl d_Rev_joinWays_7 ?_
    refine gx_icmp_geT K d_Rev_joinWays_10 rfl (Int32.le_refl _) ?_
    exact gx_vret K hr hlk d_Rev_joinWays_66 ⟨rfl, rfl⟩

def f_z (f : Nat → Int32) : Nat → Nat → Int32
  | 0 => f
  | i + 1 => upd (f_z f i) i 0
def f_on (B : Nat → Nat → Bool) (N : Nat → Nat) (E : Nat → Nat → Int32) (r : Int32) (a0 : Nat) : Bool := m_left B N E a0 && (decide (E 5 a0 = r) && decide (E 6 a0 = 1))
def f_ar (B : Nat → Nat → Bool) (N : Nat → Nat) (E : Nat → Nat → Int32) (r : Int32) (f : Nat → Int32) : Nat → Nat → Int32
  | 0 => f
  | i + 1 => if f_on B N E r i = true then upd (f_ar B N E r f i) (ix (E 7 i)) (f_ar B N E r f i (ix (E 7 i)) ||| ((1 : Int32) <<< (E 8 i &&& 31))) else f_ar B N E r f i
def f_fin (B : Nat → Nat → Bool) (N : Nat → Nat) (E : Nat → Nat → Int32) (r : Int32) (f : Nat → Int32) : Nat → Int32 := j_it (N 0) (f_ar B N E r (f_z f 16) (N 1)) (N 0)
theorem f_ex : ∃ h : (Nat → Nat → Bool) → (Nat → Nat) → (Nat → Nat → Int32) → Int32 → (Nat → Int32) → Nat → Int32, h = f_fin := ⟨_, rfl⟩
noncomputable def f_F : (Nat → Nat → Bool) → (Nat → Nat) → (Nat → Nat → Int32) → Int32 → (Nat → Int32) → Nat → Int32 := Classical.choose f_ex
theorem f_F_eq : f_F = f_fin := Classical.choose_spec f_ex
noncomputable def f_rol (B : Nat → Nat → Bool) (N : Nat → Nat) (E : Nat → Nat → Int32) (f : Nat → Int32) : Nat → Nat → Int32
  | 0 => f
  | q + 1 => f_F B N E (nI q) (f_rol B N E f q)
set_option maxRecDepth 100000 in
set_option maxHeartbeats 1000000 in
theorem z_Rev_findWays {l : Launch} {D : va_G} {ty : Nat → ClassId} {tt : Nat} {a : Nat → Nat} {N : Nat → Nat} {r : Nat → Int32} {en re : Int32} {O : Nat → Nat → Option Nat} {z : Nat} {tx : Nat → Int32} {X : Nat → Nat → Bool} {Y : Nat → Nat → Int32} {fc : Nat} {sl : Bool} {pt : Int32} {tot : Int64} {hv : Bool} {rest : va_W} (hN : mN N) (r0 : Int32) {B : Nat → Nat → Bool} {E : Nat → Nat → Int32} {V : Nat → Int64} (G : cI B N E V O rest re) (hX1 : ∀ j, j < N 1 → X 1 j = m_left B N E j) : Cd l y_Rev_findWays c_Rev_findWays 4 none 1 D ty tt [.ref (a 12), .int r0] (fbW a ty N r en re O z tx X Y fc sl pt tot hv rest) none (fbW a ty N r en re O z tx X (va_up Y 2 (f_F B N E r0 (Y 2))) fc sl pt tot hv rest) := by
  obtain ⟨n0, n1, n2, n3, n4, n5⟩ := id hN
  obtain ⟨pC, pA, pX, pU, pF, I, hA, hF, hre, hV⟩ := id G
  refine Ct_of (by decide) (gle rfl) (fun p e s m args below meth c K hr hlk hin => ?_)
  refine gx_iconst (v := 0) K d_Rev_findWays_0 rfl ?_
  refine gx_istore_n K d_Rev_findWays_1 rfl (gle rfl) rfl ?_
  refine gx_loop [true, true, true, false] (16) (fun i => (fbW a ty N r en re O z tx X (va_up Y 2 (f_z (Y 2) i)) fc sl pt tot hv rest)) (fun i => [some (.ref (a 12)), some (.int r0), some (.int (nI i)), none]) (by rw [show va_up Y 2 (f_z (Y 2) 0) = Y from gUpS Y 2]) rfl (fun i hi ihi => ?_) ?_
  · skip
    refine gx_iload_n K d_Rev_findWays_2 rfl rfl ?_
    refine gx_bipush (v := 16) K d_Rev_findWays_3 rfl ?_
    refine gx_icmp_geF K d_Rev_findWays_5 rfl (nI_ge (b := 16) hi (by decide)) ?_
    refine gx_aload_n K d_Rev_findWays_8 rfl rfl ?_
    refine gx_get K f_Rev_25 (q0 := 12) rfl rfl d_Rev_findWays_9 ?_
    refine gx_iload_n K d_Rev_findWays_12 rfl rfl ?_
    refine gx_iconst (v := 0) K d_Rev_findWays_13 rfl ?_
    refine gx_iast K (q0 := 17) rfl rfl (by omega) (by decide) d_Rev_findWays_14 ?_
    refine gx_iinc (v := nI (i + 1)) K d_Rev_findWays_15 rfl (nI_add _ _) (gle rfl) rfl ?_
    refine gx_goto K d_Rev_findWays_18 rfl ?_
    exact gx_back [true, true, true, false] rfl rfl ihi
  · skip
    refine gx_iload_n K d_Rev_findWays_2 rfl rfl ?_
    refine gx_bipush (v := 16) K d_Rev_findWays_3 rfl ?_
    refine gx_icmp_geT K d_Rev_findWays_5 rfl (Int32.le_refl _) ?_
    refine gx_iconst (v := 0) K d_Rev_findWays_21 rfl ?_
    refine gx_istore_n K d_Rev_findWays_22 rfl (gle rfl) rfl ?_
    refine gx_loop [true, true, true, false] (N 1) (fun i => (fbW a ty N r en re O z tx X (va_up Y 2 (f_ar B N E r0 (f_z (Y 2) 16) (i))) fc sl pt tot hv rest)) (fun i => [some (.ref (a 12)), some (.int r0), some (.int (nI i)), none]) rfl rfl (fun i hi ihi => ?_) ?_
    · skip
      refine gx_iload_n K d_Rev_findWays_23 rfl rfl ?_
      refine gx_aload_n K d_Rev_findWays_24 rfl rfl ?_
      refine gx_get K f_Rev_31 (q0 := 12) rfl rfl d_Rev_findWays_25 ?_
      refine gx_getN K f_Rev_71 (q0 := 1) rfl rfl d_Rev_findWays_28 ?_
      refine gx_icmp_geF K d_Rev_findWays_31 rfl (nI_ge hi (by omega)) ?_
      refine gx_aload_n K d_Rev_findWays_34 rfl rfl ?_
      refine gx_get K f_Rev_31 (q0 := 12) rfl rfl d_Rev_findWays_35 ?_
      refine gx_getN K f_Rev_76 (q0 := 1) rfl rfl d_Rev_findWays_38 ?_
      refine gx_iload_n K d_Rev_findWays_41 rfl rfl ?_
      refine gx_aald K (t := 5) rfl (q0 := 5) rfl rfl (by omega) (by decide) d_Rev_findWays_42 ?_
      obtain ⟨q42, k42, z42, j42, hO42, hk42, gk42⟩ := pA (i) (by omega)
      rw [hO42]
      refine gx_astore_n K d_Rev_findWays_43 rfl (gle rfl) rfl ?_
      refine gx_aload_n K d_Rev_findWays_44 rfl rfl ?_
      refine gx_get K f_Rev_15 (q0 := 12) rfl rfl d_Rev_findWays_45 ?_
      refine gx_iload_n K d_Rev_findWays_48 rfl rfl ?_
      refine gx_zld K (q0 := 14) rfl rfl (by omega) (by decide) d_Rev_findWays_49 ?_
      refine gx_if_eqB K d_Rev_findWays_50 rfl (fun h50 => ?_) (fun h50 => ?_)
      · skip
        refine gx_iinc (v := nI (i + 1)) K d_Rev_findWays_80 rfl (nI_add _ _) (gle rfl) rfl ?_
        refine gx_goto K d_Rev_findWays_83 rfl ?_
        exact gx_back [true, true, true, false] rfl (by rw [show f_ar B N E r0 (f_z (Y 2) 16) (i + 1) = f_ar B N E r0 (f_z (Y 2) 16) (i) from if_neg (by unfold f_on; rw [← hX1 i hi, show X 1 i = false from h50]; simp)]) ihi
      · skip
        refine gx_aload_n K d_Rev_findWays_53 rfl rfl ?_
        refine gx_iload_n K d_Rev_findWays_54 rfl rfl ?_
        refine gx_iconst (v := 1) K d_Rev_findWays_55 rfl ?_
        refine gx_VNd K (z_Arc_isIn _ _ (fb_pl hk42) (fb_pl gk42)) Y_Arc_isIn (ci := 8) rfl (fb_pl hk42) k615 ks42 k613 rfl ⟨gle rfl, gle rfl⟩ ⟨gle rfl, gle rfl⟩ (gle rfl) d_Rev_findWays_56 ?_
        refine gx_if_eqB K d_Rev_findWays_59 rfl (fun h59 => ?_) (fun h59 => ?_)
        · skip
          refine gx_iinc (v := nI (i + 1)) K d_Rev_findWays_80 rfl (nI_add _ _) (gle rfl) rfl ?_
          refine gx_goto K d_Rev_findWays_83 rfl ?_
          exact gx_back [true, true, true, false] rfl (by rw [show f_ar B N E r0 (f_z (Y 2) 16) (i + 1) = f_ar B N E r0 (f_z (Y 2) 16) (i) from if_neg (by unfold f_on; rw [h59]; simp)]) ihi
        · skip
          refine gx_aload_n K d_Rev_findWays_62 rfl rfl ?_
          refine gx_get K f_Rev_25 (q0 := 12) rfl rfl d_Rev_findWays_63 ?_
          refine gx_aload_n K d_Rev_findWays_66 rfl rfl ?_
          refine gx_getN K f_Rev_164 (fb_pl hk42) rfl d_Rev_findWays_67 ?_
          refine gx_dup2 K d_Rev_findWays_70 rfl rfl ?_
          refine gx_iald K (q0 := 17) rfl (I.2.2.1 (i)).1 (I.2.2.1 (i)).2 (by decide) d_Rev_findWays_71 ?_
          refine gx_iconst (v := 1) K d_Rev_findWays_72 rfl ?_
          refine gx_aload_n K d_Rev_findWays_73 rfl rfl ?_
          refine gx_getN K f_Rev_167 (fb_pl hk42) rfl d_Rev_findWays_74 ?_
          refine gx_ishl K d_Rev_findWays_77 ?_
          refine gx_ior K d_Rev_findWays_78 ?_
          refine gx_iast K (q0 := 17) rfl (I.2.2.1 (i)).1 (I.2.2.1 (i)).2 (by decide) d_Rev_findWays_79 ?_
          refine gx_iinc (v := nI (i + 1)) K d_Rev_findWays_80 rfl (nI_add _ _) (gle rfl) rfl ?_
          refine gx_goto K d_Rev_findWays_83 rfl ?_
          exact gx_back [true, true, true, false] rfl (by rw [show f_ar B N E r0 (f_z (Y 2) 16) (i + 1) = upd (f_ar B N E r0 (f_z (Y 2) 16) (i)) (ix (E 7 i)) ((f_ar B N E r0 (f_z (Y 2) 16) (i)) (ix (E 7 i)) ||| ((1 : Int32) <<< (E 8 i &&& 31))) from if_pos (by unfold f_on; rw [← hX1 i hi, show X 1 i = true from h50, h59]; rfl)]; rfl) ihi
    · skip
      refine gx_iload_n K d_Rev_findWays_23 rfl rfl ?_
      refine gx_aload_n K d_Rev_findWays_24 rfl rfl ?_
      refine gx_get K f_Rev_31 (q0 := 12) rfl rfl d_Rev_findWays_25 ?_
      refine gx_getN K f_Rev_71 (q0 := 1) rfl rfl d_Rev_findWays_28 ?_
      refine gx_icmp_geT K d_Rev_findWays_31 rfl (Int32.le_refl _) ?_
      refine gx_aload_n K d_Rev_findWays_86 rfl rfl ?_
      refine gx_Vdv K (z_Rev_joinWays hN) Y_Rev_joinWays (ci := 5) rfl (q0 := 12) rfl k619 ks43 k617 rfl ⟨gle rfl, gle rfl⟩ ⟨gle rfl, gle rfl⟩ (gle rfl) d_Rev_findWays_87 ?_
      exact gx_vret K hr hlk d_Rev_findWays_90 ⟨rfl, by rw [f_F_eq, gUpU]; rfl⟩

