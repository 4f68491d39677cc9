theorem j_sw_bt (t : Nat) (f : Nat → Int32) : ∀ k i j, bt (j_sw t f k i) j = if i < k then w_by (fun x y => bt (f x) y) t i j else bt (f i) j
  | 0, i, j => by rw [if_neg (Nat.not_lt_zero i)]; rfl
  | k + 1, i, j => by
    have ih := j_sw_bt t f k
    have ht : ∀ y, bt (j_sw t f k t) y = bt (f t) y := fun y => by
      rw [ih t y]
      split
      · show (bt (f t) y || (bt (f t) t && bt (f t) y)) = _
        cases bt (f t) y <;> simp
      · rfl
    have hk : ∀ y, bt (j_sw t f k k) y = bt (f k) y := fun y => by rw [ih k y, if_neg (Nat.lt_irrefl k)]
    show bt (j_st t (j_sw t f k) k i) j = _
    unfold j_st
    by_cases e : i = k
    · rw [e, if_pos (Nat.lt_succ_self k)]
      show _ = (bt (f k) j || (bt (f k) t && bt (f t) j))
      by_cases h : bt (j_sw t f k k) t = true
      · rw [if_pos h, pk_us, b_or, hk, ht]
        rw [hk] at h
        rw [h, Bool.true_and]
      · rw [if_neg h, hk]
        rw [hk] at h
        rw [Bool.not_eq_true] at h
        rw [h, Bool.false_and, Bool.or_false]
    · have hlt : (i < k + 1) = (i < k) := propext ⟨fun q => by omega, fun q => by omega⟩
      simp only [hlt]
      by_cases h : bt (j_sw t f k k) t = true
      · rw [if_pos h, pk_un e, ih i j]
      · rw [if_neg h, ih i j]
theorem w_all_co {w v : Nat → Nat → Bool} {m : Nat} (h : ∀ i j, i < m → j < m → w i j = v i j) : ∀ n, n ≤ m → ∀ i j, i < m → j < m → w_all w n i j = w_all v n i j
  | 0, _, i, j, hi, hj => h i j hi hj
  | n + 1, hn, i, j, hi, hj => by
    have ih := w_all_co h n (by omega)
    show (w_all w n i j || (w_all w n i n && w_all w n n j)) = (w_all v n i j || (w_all v n i n && w_all v n n j))
    rw [ih i j hi hj, ih i n hi (by omega), ih n j (by omega) hj]
theorem j_it_bt (n : Nat) (f : Nat → Int32) : ∀ t, t ≤ n → ∀ i j, i < n → bt (j_it n f t i) j = w_all (fun x y => bt (f x) y) t i j
  | 0, _, i, j, hi => rfl
  | t + 1, ht, i, j, hi => by
    have ih := j_it_bt n f t (by omega)
    show bt (j_sw t (j_it n f t) n i) j = w_by _ t i j
    rw [j_sw_bt, if_pos hi]
    show (bt _ _ || (bt _ _ && bt _ _)) = (_ || (_ && _))
    rw [ih i j hi, ih i t hi, ih t j (by omega)]
theorem f_z_at (f : Nat → Int32) : ∀ n i, i < n → f_z f n i = 0
  | 0, i, h => absurd h (Nat.not_lt_zero i)
  | n + 1, i, h => by
    show upd (f_z f n) n 0 i = 0
    by_cases e : i = n
    · rw [e, pk_us]
    · rw [pk_un e, f_z_at f n i (by omega)]
section WB
variable {B : Nat → Nat → Bool} {N : Nat → Nat} {E : Nat → Nat → Int32}
theorem f_ar_bt (I : mI E) (r : Int32) (f : Nat → Int32) (hf : ∀ i, i < 16 → f i = 0) : ∀ n i j, i < 16 → j < 16 → bt (f_ar B N E r f n i) j = anyB (fun a => decide (E 6 a = 1) && (decide (E 5 a = r) && (m_left B N E a && (decide (ix (E 7 a) = i) && decide (ix (E 8 a) = j))))) n
  | 0, i, j, hi, hj => by show bt (f i) j = false; rw [hf i hi]; exact b_0 j
  | n + 1, i, j, hi, hj => by
    have ih := f_ar_bt I r f hf n
    show bt ((if f_on B N E r n = true then upd (f_ar B N E r f n) (ix (E 7 n)) (f_ar B N E r f n (ix (E 7 n)) ||| ((1 : Int32) <<< (E 8 n &&& 31))) else f_ar B N E r f n) i) j = (anyB _ n || (decide (E 6 n = 1) && (decide (E 5 n = r) && (m_left B N E n && (decide (ix (E 7 n) = i) && decide (ix (E 8 n) = j))))))
    have e8 := I.2.2.2.1 n
    by_cases h : f_on B N E r n = true
    · rw [if_pos h]
      unfold f_on at h
      rw [Bool.and_eq_true, Bool.and_eq_true] at h
      rw [h.1, h.2.1, h.2.2]
      by_cases e : ix (E 7 n) = i
      · rw [e, pk_us, b_or, ih i j hi hj, decide_eq_true (rfl : i = i), show bt ((1 : Int32) <<< (E 8 n &&& 31)) j = decide (j = ix (E 8 n)) from by rw [show ((1 : Int32) <<< (E 8 n &&& 31)) = ((1 : Int32) <<< (nI (ix (E 8 n)) &&& 31)) from by rw [← e8.1]]; exact b_tw (by have := e8.2; omega) (by omega)]
        by_cases e2 : j = ix (E 8 n)
        · simp [e2]
        · simp [e2, Ne.symm e2]
      · rw [pk_un (fun q => e q.symm), ih i j hi hj, decide_eq_false e]
        simp
    · rw [if_neg h, ih i j hi hj]
      unfold f_on at h
      rw [show (decide (E 6 n = 1) && (decide (E 5 n = r) && (m_left B N E n && (decide (ix (E 7 n) = i) && decide (ix (E 8 n) = j))))) = ((m_left B N E n && (decide (E 5 n = r) && decide (E 6 n = 1))) && (decide (ix (E 7 n) = i) && decide (ix (E 8 n) = j))) from by
        cases decide (E 6 n = 1) <;> cases decide (E 5 n = r) <;> cases m_left B N E n <;> simp]
      rw [Bool.not_eq_true] at h
      rw [h, Bool.false_and, Bool.or_false]
theorem m_arcs_no {r : Int32} (hA : ∀ a, a < N 1 → ix (E 7 a) < N 0 ∧ ix (E 8 a) < N 0) (i t : Nat) (h : N 0 ≤ t) : m_arcs B N E r i t = false := by
  unfold m_arcs
  cases e : anyB (fun a => decide (E 6 a = 1) && (decide (E 5 a = r) && (m_left B N E a && (decide (ix (E 7 a) = i) && decide (ix (E 8 a) = t))))) (N 1) with
  | false => rfl
  | true =>
    obtain ⟨a, ha, h1⟩ := anyB_iff.mp e
    have h2 := hA a ha
    simp at h1
    omega
theorem way_bt (I : mI E) (n0 : N 0 ≤ 16) (hA : ∀ a, a < N 1 → ix (E 7 a) < N 0 ∧ ix (E 8 a) < N 0) (r : Int32) (f : Nat → Int32) {c : Nat} (hc : c < N 0) : bt (f_F B N E r f c) c = m_way B N E r c c := by
  rw [f_F_eq]
  unfold f_fin m_way
  rw [j_it_bt _ _ _ (Nat.le_refl _) _ _ hc]
  have e := w_all_more (w := m_arcs B N E r) (m := N 0) (m_arcs_no hA) (16 - N 0)
  rw [show N 0 + (16 - N 0) = 16 by omega] at e
  rw [e]
  exact w_all_co (m := N 0) (fun i j hi hj => f_ar_bt I r _ (fun i hi => f_z_at f 16 i hi) (N 1) i j (by omega) (by omega)) (N 0) (Nat.le_refl _) c c hc hc
end WB
theorem cyc_up {α : Type} (Y : Nat → α) (f g h : α) : va_up (va_up (va_up Y 2 f) 3 g) 2 h = va_up (va_up Y 2 h) 3 g := by
  funext j
  unfold va_up
  by_cases e2 : j = 2
  · simp [e2]
  · simp [e2]
set_option maxRecDepth 100000 in
set_option maxHeartbeats 1000000 in
theorem z_Rev_tellCycles {l : Launch} {D : va_G} {ty : Nat → ClassId} {tt : Nat} {a : Nat → Nat} {N : Nat → Nat} {r : Nat → Int32} {en re : Int32} {O : Nat → Nat → Option Nat} {z : Nat} {tx : Nat → Int32} {X : Nat → Nat → Bool} {Y : Nat → Nat → Int32} {sl : Bool} {pt : Int32} {tot : Int64} {hv : Bool} {rest : va_W} (hN : mN N) {ps : List Int32} {B : Nat → Nat → Bool} {E : Nat → Nat → Int32} {V : Nat → Int64} (G : cI B N E V O rest re) (hb : (ps ++ lstN (fun q => lstN (fun c => m_p8 B N E q c) (N 0)) 3).length ≤ 180) (hX1 : ∀ j, j < N 1 → X 1 j = m_left B N E j) : Cd l y_Rev_tellCycles c_Rev_tellCycles 3 none 3 D ty tt [.ref (a 12)] (fbW a ty N r en re O z tx X (va_up Y 3 (fl (Y 3) (ps))) ((ps).length) sl pt tot hv rest) none (fbW a ty N r en re O z tx X (va_up (va_up Y 2 (f_rol B N E (Y 2) (3))) 3 (fl (Y 3) (ps ++ lstN (fun q => lstN (fun c => m_p8 B N E q c) (N 0)) 3))) ((ps ++ lstN (fun q => lstN (fun c => m_p8 B N E q c) (N 0)) 3).length) sl pt tot hv rest) := by
  obtain ⟨n0, n1, n2, n3, n4, n5⟩ := id hN
  obtain ⟨pC, pA, pX, pU, pF, I, hA, hF, hre, hV⟩ := id G
  refine Ct_of (by decide) (gle rfl) (fun p e s m args below meth c K hr hlk hin => ?_)
  refine gx_iconst (v := 0) K d_Rev_tellCycles_0 rfl ?_
  refine gx_istore_n K d_Rev_tellCycles_1 rfl (gle rfl) rfl ?_
  refine gx_loop [true, true, false] 3 (fun q => (fbW a ty N r en re O z tx X (va_up (va_up Y 2 (f_rol B N E (Y 2) (q))) 3 (fl (Y 3) (ps ++ lstN (fun q => lstN (fun c => m_p8 B N E q c) (N 0)) q))) ((ps ++ lstN (fun q => lstN (fun c => m_p8 B N E q c) (N 0)) q).length) sl pt tot hv rest)) (fun q => [some (.ref (a 12)), some (.int (nI q)), none]) (by rw [show va_up Y 2 (f_rol B N E (Y 2) 0) = Y from gUpS Y 2, show lstN (fun q => lstN (fun c => m_p8 B N E q c) (N 0)) 0 = [] from rfl, List.append_nil]) rfl (fun q hq ihq => ?_) ?_
  · skip
    have hbq : ((ps ++ lstN (fun q => lstN (fun c => m_p8 B N E q c) (N 0)) q) ++ lstN (fun c => m_p8 B N E q c) (N 0)).length ≤ 180 := by
      rw [List.append_assoc]
      exact lst_le (f := (fun q => lstN (fun c => m_p8 B N E q c) (N 0))) (i := q + 1) (by omega) hb
    refine gx_iload_n K d_Rev_tellCycles_2 rfl rfl ?_
    refine gx_iconst (v := 3) K d_Rev_tellCycles_3 rfl ?_
    refine gx_icmp_geF K d_Rev_tellCycles_4 rfl (nI_ge (b := 3) hq (by decide)) ?_
    refine gx_aload_n K d_Rev_tellCycles_7 rfl rfl ?_
    refine gx_iload_n K d_Rev_tellCycles_8 rfl rfl ?_
    refine gx_Vdv K (z_Rev_findWays hN (nI q) G hX1) Y_Rev_findWays (ci := 5) rfl (q0 := 12) rfl k611 ks41 k609 rfl ⟨gle rfl, gle rfl⟩ ⟨gle rfl, gle rfl⟩ (gle rfl) d_Rev_tellCycles_9 ?_
    refine gx_ws (w1 := (fbW a ty N r en re O z tx X (va_up (va_up Y 2 (f_rol B N E (Y 2) (q + 1))) 3 (fl (Y 3) (ps ++ lstN (fun q => lstN (fun c => m_p8 B N E q c) (N 0)) q))) ((ps ++ lstN (fun q => lstN (fun c => m_p8 B N E q c) (N 0)) q).length) sl pt tot hv rest)) (by (rw [cyc_up]) <;> rfl) ?_
    refine gx_iconst (v := 0) K d_Rev_tellCycles_12 rfl ?_
    refine gx_istore_n K d_Rev_tellCycles_13 rfl (gle rfl) rfl ?_
    refine gx_loop [true, true, true] (N 0) (fun i => (fbW a ty N r en re O z tx X (va_up (va_up Y 2 (f_rol B N E (Y 2) (q + 1))) 3 (fl (Y 3) ((ps ++ lstN (fun q => lstN (fun c => m_p8 B N E q c) (N 0)) q) ++ lstN (fun c => m_p8 B N E q c) i))) (((ps ++ lstN (fun q => lstN (fun c => m_p8 B N E q c) (N 0)) q) ++ lstN (fun c => m_p8 B N E q c) i).length) sl pt tot hv rest)) (fun i => [some (.ref (a 12)), some (.int (nI q)), some (.int (nI i))]) (by rw [show lstN (fun c => m_p8 B N E q c) 0 = [] from rfl, List.append_nil]) rfl (fun i hi ihi => ?_) ?_
    · skip
      refine gx_iload_n K d_Rev_tellCycles_14 rfl rfl ?_
      refine gx_aload_n K d_Rev_tellCycles_15 rfl rfl ?_
      refine gx_get K f_Rev_31 (q0 := 12) rfl rfl d_Rev_tellCycles_16 ?_
      refine gx_getN K f_Rev_158 (q0 := 1) rfl rfl d_Rev_tellCycles_19 ?_
      refine gx_icmp_geF K d_Rev_tellCycles_22 rfl (nI_ge hi (by omega)) ?_
      refine gx_aload_n K d_Rev_tellCycles_25 rfl rfl ?_
      refine gx_get K f_Rev_25 (q0 := 12) rfl rfl d_Rev_tellCycles_26 ?_
      refine gx_iload_n K d_Rev_tellCycles_29 rfl rfl ?_
      refine gx_iald K (q0 := 17) rfl rfl (by omega) (by decide) d_Rev_tellCycles_30 ?_
      refine gx_iload_n K d_Rev_tellCycles_31 rfl rfl ?_
      refine gx_ishr K d_Rev_tellCycles_32 ?_
      refine gx_iconst (v := 1) K d_Rev_tellCycles_33 rfl ?_
      refine gx_iand K d_Rev_tellCycles_34 ?_
      refine gx_if_eq K d_Rev_tellCycles_35 rfl (fun h35 => ?_) (fun h35 => ?_)
      · skip
        refine gx_iinc (v := nI (i + 1)) K d_Rev_tellCycles_46 rfl (nI_add _ _) (gle rfl) rfl ?_
        refine gx_goto K d_Rev_tellCycles_49 rfl ?_
        exact gx_back [true, true, true] rfl (by rw [lst_no (f := (fun c => m_p8 B N E q c)) (i := i) (if_neg (fun z => by rw [← way_bt I n0 hA (nI q) (f_rol B N E (Y 2) q) hi] at z; rw [(b_bit _ (by omega)).mp (show (f_F B N E (nI q) (f_rol B N E (Y 2) q) i >>> (nI i &&& 31) &&& 1) = 0 from h35)] at z; exact absurd z (by decide)))]) ihi
      · skip
        have hwy : m_way B N E (nI q) i i = true := (way_bt I n0 hA (nI q) (f_rol B N E (Y 2) q) hi).symm.trans (bt_t (fun z => h35 ((b_bit _ (by omega)).mpr z)))
        have hfi : (fun c => m_p8 B N E q c) i = [8 * 10000 + 100 * nI q + nI i] := (if_pos hwy : m_p8 B N E q i = _).trans (by rw [show (8 : Int32) * 10000 + 100 * nI q + nI i = nI (80000 + 100 * q + i) from tv 8 q i])
        refine gx_aload_n K d_Rev_tellCycles_38 rfl rfl ?_
        refine gx_bipush (v := 8) K d_Rev_tellCycles_39 rfl ?_
        refine gx_iload_n K d_Rev_tellCycles_41 rfl rfl ?_
        refine gx_iload_n K d_Rev_tellCycles_42 rfl rfl ?_
        refine gx_Vdv K (z_Rev_tell (Y := va_up Y 2 (f_rol B N E (Y 2) (q + 1))) hN (lst_lt hi hfi hbq)) Y_Rev_tell (ci := 5) rfl (q0 := 12) rfl k586 ks35 k584 rfl ⟨gle rfl, gle rfl⟩ ⟨gle rfl, gle rfl⟩ (gle rfl) d_Rev_tellCycles_43 ?_
        refine gx_iinc (v := nI (i + 1)) K d_Rev_tellCycles_46 rfl (nI_add _ _) (gle rfl) rfl ?_
        refine gx_goto K d_Rev_tellCycles_49 rfl ?_
        exact gx_back [true, true, true] rfl (by rw [lst_yes (f := (fun c => m_p8 B N E q c)) hfi]; rfl) ihi
    · skip
      refine gx_iload_n K d_Rev_tellCycles_14 rfl rfl ?_
      refine gx_aload_n K d_Rev_tellCycles_15 rfl rfl ?_
      refine gx_get K f_Rev_31 (q0 := 12) rfl rfl d_Rev_tellCycles_16 ?_
      refine gx_getN K f_Rev_158 (q0 := 1) rfl rfl d_Rev_tellCycles_19 ?_
      refine gx_icmp_geT K d_Rev_tellCycles_22 rfl (Int32.le_refl _) ?_
      refine gx_iinc (v := nI (q + 1)) K d_Rev_tellCycles_52 rfl (nI_add _ _) (gle rfl) rfl ?_
      refine gx_goto K d_Rev_tellCycles_55 rfl ?_
      exact gx_back [true, true, false] rfl (by rw [List.append_assoc]; rfl) ihq
  · skip
    refine gx_iload_n K d_Rev_tellCycles_2 rfl rfl ?_
    refine gx_iconst (v := 3) K d_Rev_tellCycles_3 rfl ?_
    refine gx_icmp_geT K d_Rev_tellCycles_4 rfl (by decide) ?_
    exact gx_vret K hr hlk d_Rev_tellCycles_58 ⟨rfl, rfl⟩

set_option maxRecDepth 100000 in
set_option maxHeartbeats 1000000 in
theorem z_Rev_refresh0 {l : Launch} {D : va_G} {ty : Nat → ClassId} {tt : Nat} {a : Nat → Nat} {N : Nat → Nat} {r : Nat → Int32} {en re : Int32} {O : Nat → Nat → Option Nat} {z : Nat} {tx : Nat → Int32} {X : Nat → Nat → Bool} {Y : Nat → Nat → Int32} {fc : Nat} {pt : Int32} {tot : Int64} {hv : Bool} {rest : va_W} (hN : mN N)  : Cd l y_Rev_refresh c_Rev_refresh 1 none 5 D ty tt [.ref (a 12)] (fbW a ty N r en re O z tx X Y fc false pt tot hv rest) none (fbW a ty N r en re O z tx X Y fc false pt tot hv rest) := by
  obtain ⟨n0, n1, n2, n3, n4, n5⟩ := id hN
  refine Ct_of (by decide) (gle rfl) (fun p e s m args below meth c K hr hlk hin => ?_)
  refine gx_aload_n K d_Rev_refresh_0 rfl rfl ?_
  refine gx_get K f_Rev_39 (q0 := 12) rfl rfl d_Rev_refresh_1 ?_
  refine gx_if_neF K d_Rev_refresh_4 rfl ((by decide : b2i false = 0)) ?_
  exact gx_vret K hr hlk d_Rev_refresh_7 ⟨rfl, rfl⟩

noncomputable def y_all (B : Nat → Nat → Bool) (N : Nat → Nat) (E : Nat → Nat → Int32) (V : Nat → Int64) (Y : Nat → Nat → Int32) : Nat → Nat → Int32 := va_up (va_up (y_mark B N E Y) 2 (f_rol B N E (Y 2) 3)) 3 (fl (Y 3) (m_probs B N E V))
theorem rf_fin {a : Nat → Nat} {ty : Nat → ClassId} {N : Nat → Nat} {r : Nat → Int32} {en re : Int32} {O : Nat → Nat → Option Nat} {z : Nat} {tx : Nat → Int32} {X : Nat → Nat → Bool} {Y : Nat → Nat → Int32} {pt : Int32} {tot : Int64} {hv : Bool} {rest : va_W} {B : Nat → Nat → Bool} {E : Nat → Nat → Int32} {V : Nat → Int64} {ps : List Int32} (h : ps = m_probs B N E V) : (fbW a ty N r en re O z tx X (va_up (va_up (y_mark B N E Y) 2 (f_rol B N E (Y 2) 3)) 3 (fl (Y 3) ps)) ps.length false pt tot hv rest) = (fbW a ty N r en re O z tx X (y_all B N E V Y) (m_probs B N E V).length false pt tot hv rest) := by
  subst h
  rfl
set_option maxRecDepth 100000 in
set_option maxHeartbeats 1000000 in
theorem z_Rev_refresh1 {l : Launch} {D : va_G} {ty : Nat → ClassId} {tt : Nat} {a : Nat → Nat} {N : Nat → Nat} {r : Nat → Int32} {en re : Int32} {O : Nat → Nat → Option Nat} {z : Nat} {tx : Nat → Int32} {X : Nat → Nat → Bool} {Y : Nat → Nat → Int32} {fc : Nat} {pt : Int32} {tot : Int64} {hv : Bool} {rest : va_W} (hN : mN N)  {B : Nat → Nat → Bool} {E : Nat → Nat → Int32} {V : Nat → Int64} (G : cI B N E V O rest re) (hcf : ∀ j, j < N 5 → c_fault E j (ix (E 19 j)) (m_known B E (ix (E 19 j))) = m_fault B E j) (hn0 : ∀ j, j < N 1 → ¬ E 9 j = 0) (hP : (m_probs B N E V).length ≤ 180) (hG : ∀ q f, q < 3 → f < N 5 → (0 < G_p B N E (nI q) f ↔ m_bound B N E (nI q) f = true)) (hG2 : ∀ q f, q < 3 → f < N 5 → m_bound B N E (nI q) f = true → (!(m_vague E f) && (!(G_v B N E (nI q) f) && decide (r_c (G_t B N E V (nI q) f) (k_ten (7 - m_places (E 22 f) (E 23 f) (V f))) = 10 * m_rounded E V f))) = m_agrees B N E V (nI q) f) : Cd l y_Rev_refresh c_Rev_refresh 1 none 5 D ty tt [.ref (a 12)] (fbW a ty N r en re O z tx X Y fc true pt tot hv rest) none (fbW a ty N r en re O z tx (x_mark B N E X) (y_all B N E V Y) ((m_probs B N E V).length) false ((s_at B N E V (pt, tot, hv) (3 * N 5)).1) ((s_at B N E V (pt, tot, hv) (3 * N 5)).2.1) ((s_at B N E V (pt, tot, hv) (3 * N 5)).2.2) rest) := by
  obtain ⟨n0, n1, n2, n3, n4, n5⟩ := id hN
  obtain ⟨pC, pA, pX, pU, pF, I, hA, hF, hre, hV⟩ := id G
  have hps : ((((((([] : List Int32) ++ lstN (fun q => lstN (fun f => m_p1 B E (q + 1) f) (N 5)) 4) ++ lstN (fun f => m_p5 N E f) (N 5)) ++ lstN (fun a0 => m_p6 B E a0) (N 1)) ++ lstN (fun a0 => m_p7 B N E a0) (N 1)) ++ lstN (fun q => lstN (fun c => m_p8 B N E q c) (N 0)) 3) ++ lstN (fun q => lstN (fun f => m_p9 B N E V q f) (N 5)) 3) = m_probs B N E V := by
    unfold m_probs
    simp only [List.nil_append, List.append_assoc]
  have hlen : (((((((([] : List Int32) ++ lstN (fun q => lstN (fun f => m_p1 B E (q + 1) f) (N 5)) 4) ++ lstN (fun f => m_p5 N E f) (N 5)) ++ lstN (fun a0 => m_p6 B E a0) (N 1)) ++ lstN (fun a0 => m_p7 B N E a0) (N 1)) ++ lstN (fun q => lstN (fun c => m_p8 B N E q c) (N 0)) 3) ++ lstN (fun q => lstN (fun f => m_p9 B N E V q f) (N 5)) 3)).length ≤ 180 := by rw [hps]; exact hP
  simp only [List.length_append, List.length_nil] at hlen
  refine Ct_of (by decide) (gle rfl) (fun p e s m args below meth c K hr hlk hin => ?_)
  refine gx_aload_n K d_Rev_refresh_0 rfl rfl ?_
  refine gx_get K f_Rev_39 (q0 := 12) rfl rfl d_Rev_refresh_1 ?_
  refine gx_if_neT K d_Rev_refresh_4 rfl ((by decide : (b2i true) ≠ 0)) ?_
  refine gx_aload_n K d_Rev_refresh_8 rfl rfl ?_
  refine gx_iconst (v := b2i false) K d_Rev_refresh_9 rfl ?_
  refine gx_put K f_Rev_39 ft_Rev rfl (q0 := 12) rfl (b2i_narrow _) (b2i_fits _) (gle rfl) d_Rev_refresh_10 ?_
  refine gx_ws (w1 := (fbW a ty N r en re O z tx X Y fc false pt tot hv rest)) rfl ?_
  refine gx_aload_n K d_Rev_refresh_13 rfl rfl ?_
  refine gx_iconst (v := 0) K d_Rev_refresh_14 rfl ?_
  refine gx_put K f_Rev_43 ft_Rev rfl (q0 := 12) rfl rfl rfl (gle rfl) d_Rev_refresh_15 ?_
  refine gx_ws (w1 := (fbW a ty N r en re O z tx X Y (0) false pt tot hv rest)) rfl ?_
  refine gx_aload_n K d_Rev_refresh_18 rfl rfl ?_
  refine gx_Vdv K (z_Rev_markArcs hN G) Y_Rev_markArcs (ci := 5) rfl (q0 := 12) rfl k517 ks19 k515 rfl ⟨gle rfl, gle rfl⟩ ⟨gle rfl, gle rfl⟩ (gle rfl) d_Rev_refresh_19 ?_
  refine gx_aload_n K d_Rev_refresh_22 rfl rfl ?_
  refine gx_Vdv K (z_Rev_markFacts hN G) Y_Rev_markFacts (ci := 5) rfl (q0 := 12) rfl k542 ks25 k540 rfl ⟨gle rfl, gle rfl⟩ ⟨gle rfl, gle rfl⟩ (gle rfl) d_Rev_refresh_23 ?_
  refine gx_ws (w1 := (fbW a ty N r en re O z tx (x_mark B N E X) (va_up (y_mark B N E Y) 3 (fl (Y 3) (([] : List Int32)))) ((([] : List Int32)).length) false pt tot hv rest)) (by rw [show fl (Y 3) [] = (y_mark B N E Y) 3 from rfl, gUpS]; rfl) ?_
  refine gx_aload_n K d_Rev_refresh_26 rfl rfl ?_
  refine gx_Vdv K (z_Rev_tellFaults (Y := y_mark B N E Y) hN G (by simp only [List.length_append, List.length_nil]; omega) (fun j hj => (fillI_at _ _ _ j hj).trans (hcf j hj))) Y_Rev_tellFaults (ci := 5) rfl (q0 := 12) rfl k582 ks34 k580 rfl ⟨gle rfl, gle rfl⟩ ⟨gle rfl, gle rfl⟩ (gle rfl) d_Rev_refresh_27 ?_
  refine gx_aload_n K d_Rev_refresh_30 rfl rfl ?_
  refine gx_Vdv K (z_Rev_tellTwins (Y := y_mark B N E Y) hN G (by simp only [List.length_append, List.length_nil]; omega) (fun j hj => fillI_at _ _ _ j hj)) Y_Rev_tellTwins (ci := 5) rfl (q0 := 12) rfl k590 ks36 k588 rfl ⟨gle rfl, gle rfl⟩ ⟨gle rfl, gle rfl⟩ (gle rfl) d_Rev_refresh_31 ?_
  refine gx_aload_n K d_Rev_refresh_34 rfl rfl ?_
  refine gx_Vdv K (z_Rev_tellLooseArcs (Y := y_mark B N E Y) hN G (by simp only [List.length_append, List.length_nil]; omega) (fun j hj => fillB_at _ _ _ j hj)) Y_Rev_tellLooseArcs (ci := 5) rfl (q0 := 12) rfl k594 ks37 k592 rfl ⟨gle rfl, gle rfl⟩ ⟨gle rfl, gle rfl⟩ (gle rfl) d_Rev_refresh_35 ?_
  refine gx_aload_n K d_Rev_refresh_38 rfl rfl ?_
  refine gx_Vdv K (z_Rev_tellSigns (Y := y_mark B N E Y) hN G (by simp only [List.length_append, List.length_nil]; omega) (fun j hj => fillB_at _ _ _ j hj) hn0) Y_Rev_tellSigns (ci := 5) rfl (q0 := 12) rfl k599 ks38 k597 rfl ⟨gle rfl, gle rfl⟩ ⟨gle rfl, gle rfl⟩ (gle rfl) d_Rev_refresh_39 ?_
  refine gx_aload_n K d_Rev_refresh_42 rfl rfl ?_
  refine gx_Vdv K (z_Rev_tellCycles (Y := y_mark B N E Y) hN G (by simp only [List.length_append, List.length_nil]; omega) (fun j hj => fillB_at _ _ _ j hj)) Y_Rev_tellCycles (ci := 5) rfl (q0 := 12) rfl k607 ks40 k605 rfl ⟨gle rfl, gle rfl⟩ ⟨gle rfl, gle rfl⟩ (gle rfl) d_Rev_refresh_43 ?_
  refine gx_aload_n K d_Rev_refresh_46 rfl rfl ?_
  refine gx_Vdv K (z_Rev_tellTotals (Y := va_up (y_mark B N E Y) 2 (f_rol B N E (Y 2) 3)) hN G (by simp only [List.length_append, List.length_nil]; omega) (fun j hj => (fillI_at _ _ _ j hj).trans (hcf j hj)) (fun j hj => fillI_at _ _ _ j hj) (fun j hj => fillB_at _ _ _ j hj) hG hG2) Y_Rev_tellTotals (ci := 5) rfl (q0 := 12) rfl k623 ks44 k621 rfl ⟨gle rfl, gle rfl⟩ ⟨gle rfl, gle rfl⟩ (gle rfl) d_Rev_refresh_47 ?_
  exact gx_vret K hr hlk d_Rev_refresh_50 ⟨rfl, rf_fin hps⟩

