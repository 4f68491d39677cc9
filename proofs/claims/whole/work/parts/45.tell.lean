/-- the list of problems as the class keeps it -/
def fl (g : Nat → Int32) (ps : List Int32) : Nat → Int32 := fun j => (ps[j]?).getD (g j)
theorem fl_add (g : Nat → Int32) (ps : List Int32) (x : Int32) : upd (fl g ps) ps.length x = fl g (ps ++ [x]) := by
  funext j
  unfold fl
  by_cases e : j = ps.length
  · rw [e, pk_us, List.getElem?_append_right (Nat.le_refl _), Nat.sub_self]; rfl
  · rw [pk_un e]
    by_cases h : j < ps.length
    · rw [List.getElem?_append_left h]
    · rw [List.getElem?_eq_none (by omega), List.getElem?_eq_none (by rw [List.length_append]; simp; omega)]
theorem fl_at {g : Nat → Int32} {ps : List Int32} {j : Nat} {d : Int32} (h : j < ps.length) : fl g ps j = (ps[j]?).getD d := by
  unfold fl
  rw [List.getElem?_eq_getElem h]
  rfl
theorem lst_len {f : Nat → List Int32} {i : Nat} : ∀ d, (lstN f i).length ≤ (lstN f (i + d)).length
  | 0 => Nat.le_refl _
  | d + 1 => by
    have := lst_len (f := f) (i := i) d
    show _ ≤ (lstN f (i + d) ++ f (i + d)).length
    rw [List.length_append]
    omega
theorem lst_lt {A : List Int32} {f : Nat → List Int32} {i n : Nat} {x : Int32} (hi : i < n) (h : f i = [x]) (hb : (A ++ lstN f n).length ≤ 180) : (A ++ lstN f i).length < 180 := by
  have h1 := lst_len (f := f) (i := i + 1) (n - (i + 1))
  rw [show i + 1 + (n - (i + 1)) = n by omega] at h1
  have h2 : (lstN f (i + 1)).length = (lstN f i).length + 1 := by
    show (lstN f i ++ f i).length = _
    rw [h, List.length_append]
    rfl
  rw [List.length_append] at hb ⊢
  omega
theorem lst_le {A : List Int32} {f : Nat → List Int32} {i n : Nat} (hi : i ≤ n) (hb : (A ++ lstN f n).length ≤ 180) : (A ++ lstN f i).length ≤ 180 := by
  have h1 := lst_len (f := f) (i := i) (n - i)
  rw [show i + (n - i) = n by omega] at h1
  rw [List.length_append] at hb ⊢
  omega
theorem tv (k x y : Nat) : nI k * 10000 + 100 * nI x + nI y = nI (10000 * k + 100 * x + y) := by
  rw [show (10000 : Int32) = nI 10000 from rfl, show (100 : Int32) = nI 100 from rfl, pk_mul, pk_mul, nI_add, nI_add, Nat.mul_comm k]
theorem loN_ge {P : Nat → Bool} : ∀ n, n < 2 ^ 31 → loN P n = -1 ∨ 0 ≤ loN P n
  | 0, _ => Or.inl rfl
  | n + 1, h => by
    unfold loN
    split
    · split
      · exact Or.inr (nI_pos' (by omega))
      · exact Or.inl rfl
    · rename_i h1
      exact Or.inr (Int32.not_lt.mp h1)
set_option maxRecDepth 100000 in
set_option maxHeartbeats 1000000 in
theorem z_Rev_tell {l : Launch} {D : va_G} {ty : Nat → ClassId} {tt : Nat} {a : Nat → Nat} {N : Nat → Nat} {r : Nat → Int32} {en re : Int32} {O : Nat → Nat → Option Nat} {z : Nat} {tx : Nat → Int32} {X : Nat → Nat → Bool} {Y : Nat → Nat → Int32} {sl : Bool} {pt : Int32} {tot : Int64} {hv : Bool} {rest : va_W} (hN : mN N) {kd x y : Int32} {ps : List Int32} (hl : ps.length < 180) : Cd l y_Rev_tell c_Rev_tell 4 none 0 D ty tt [.ref (a 12), .int kd, .int x, .int y] (fbW a ty N r en re O z tx X (va_up Y 3 (fl (Y 3) (ps))) ((ps).length) sl pt tot hv rest) none (fbW a ty N r en re O z tx X (va_up Y 3 (fl (Y 3) (ps ++ [kd * 10000 + 100 * x + y]))) ((ps ++ [kd * 10000 + 100 * x + y]).length) sl pt tot hv rest) := by
  obtain ⟨n0, n1, n2, n3, n4, n5⟩ := id hN
  refine Ct_of (by decide) (gle rfl) (fun p e s m args below meth c K hr hlk hin => ?_)
  refine gx_aload_n K d_Rev_tell_0 rfl rfl ?_
  refine gx_get K f_Rev_43 (q0 := 12) rfl rfl d_Rev_tell_1 ?_
  refine gx_sipush (v := 180) K d_Rev_tell_4 rfl ?_
  refine gx_icmp_geF K d_Rev_tell_7 rfl (nI_ge hl (by decide)) ?_
  refine gx_aload_n K d_Rev_tell_10 rfl rfl ?_
  refine gx_get K f_Rev_28 (q0 := 12) rfl rfl d_Rev_tell_11 ?_
  refine gx_aload_n K d_Rev_tell_14 rfl rfl ?_
  refine gx_get K f_Rev_43 (q0 := 12) rfl rfl d_Rev_tell_15 ?_
  refine gx_iload_n K d_Rev_tell_18 rfl rfl ?_
  refine gx_sipush (v := 10000) K d_Rev_tell_19 rfl ?_
  refine gx_imul K d_Rev_tell_22 ?_
  refine gx_bipush (v := 100) K d_Rev_tell_23 rfl ?_
  refine gx_iload_n K d_Rev_tell_25 rfl rfl ?_
  refine gx_imul K d_Rev_tell_26 ?_
  refine gx_iadd K d_Rev_tell_27 ?_
  refine gx_iload_n K d_Rev_tell_28 rfl rfl ?_
  refine gx_iadd K d_Rev_tell_29 ?_
  refine gx_iast K (q0 := 18) rfl rfl (by omega) (by decide) d_Rev_tell_30 ?_
  refine gx_aload_n K d_Rev_tell_31 rfl rfl ?_
  refine gx_dup K d_Rev_tell_32 rfl ?_
  refine gx_get K f_Rev_43 (q0 := 12) rfl rfl d_Rev_tell_33 ?_
  refine gx_iconst (v := 1) K d_Rev_tell_36 rfl ?_
  refine gx_iaddN K (ps.length) (1) d_Rev_tell_37 ?_
  refine gx_put K f_Rev_43 ft_Rev rfl (q0 := 12) rfl rfl rfl (gle rfl) d_Rev_tell_38 ?_
  exact gx_vret K hr hlk d_Rev_tell_41 ⟨rfl, by rw [← fl_add, List.length_append]; rfl⟩

theorem p5_no1 {N : Nat → Nat} {E : Nat → Nat → Int32} {i : Nat} {t : Int32} (ht : t = m_twin N E i) (h : t = -1) : m_p5 N E i = [] := if_neg (fun q => by rw [← ht, h] at q; exact absurd q.1 (by decide))
theorem p5_no2 {N : Nat → Nat} {E : Nat → Nat → Int32} {i : Nat} {t : Int32} (ht : t = m_twin N E i) (h : nI i ≤ t) : m_p5 N E i = [] := if_neg (fun q => by rw [← ht] at q; exact Int32.not_lt.mpr h q.2)
theorem p5_yes {N : Nat → Nat} {E : Nat → Nat → Int32} {i : Nat} {t : Int32} (ht : t = m_twin N E i) (h : ¬ t = -1) (h2 : ¬ nI i ≤ t) (hn : N 5 < 2 ^ 31) : m_p5 N E i = [5 * 10000 + 100 * nI i + t] := by
  unfold m_p5
  rw [if_pos ⟨(loN_ge (P := fun g => m_twins E i g) (N 5) hn).resolve_left (fun q => h (ht.trans q)), by rw [← ht]; exact Int32.not_le.mp h2⟩, ← ht]
  congr 1
  rw [show (5 : Int32) * 10000 = nI 50000 from rfl, show (100 : Int32) = nI 100 from rfl, pk_mul, nI_add]
set_option maxRecDepth 100000 in
set_option maxHeartbeats 1000000 in
theorem z_Rev_tellTwins {l : Launch} {D : va_G} {ty : Nat → ClassId} {tt : Nat} {a : Nat → Nat} {N : Nat → Nat} {r : Nat → Int32} {en re : Int32} {O : Nat → Nat → Option Nat} {z : Nat} {tx : Nat → Int32} {X : Nat → Nat → Bool} {Y : Nat → Nat → Int32} {sl : Bool} {pt : Int32} {tot : Int64} {hv : Bool} {rest : va_W} (hN : mN N) {ps : List Int32} {B : Nat → Nat → Bool} {E : Nat → Nat → Int32} {V : Nat → Int64} (G : cI B N E V O rest re) (hb : (ps ++ lstN (fun f => m_p5 N E f) (N 5)).length ≤ 180) (hY1 : ∀ j, j < N 5 → Y 1 j = m_twin N E j) : Cd l y_Rev_tellTwins c_Rev_tellTwins 2 none 1 D ty tt [.ref (a 12)] (fbW a ty N r en re O z tx X (va_up Y 3 (fl (Y 3) (ps))) ((ps).length) sl pt tot hv rest) none (fbW a ty N r en re O z tx X (va_up Y 3 (fl (Y 3) (ps ++ lstN (fun f => m_p5 N E f) (N 5)))) ((ps ++ lstN (fun f => m_p5 N E f) (N 5)).length) sl pt tot hv rest) := by
  obtain ⟨n0, n1, n2, n3, n4, n5⟩ := id hN
  obtain ⟨pC, pA, pX, pU, pF, I, hA, hF, hre, hV⟩ := id G
  refine Ct_of (by decide) (gle rfl) (fun p e s m args below meth c K hr hlk hin => ?_)
  refine gx_iconst (v := 0) K d_Rev_tellTwins_0 rfl ?_
  refine gx_istore_n K d_Rev_tellTwins_1 rfl (gle rfl) rfl ?_
  refine gx_loop [true, true] (N 5) (fun i => (fbW a ty N r en re O z tx X (va_up Y 3 (fl (Y 3) (ps ++ lstN (fun f => m_p5 N E f) i))) ((ps ++ lstN (fun f => m_p5 N E f) i).length) sl pt tot hv rest)) (fun i => [some (.ref (a 12)), some (.int (nI i))]) (by rw [show lstN (fun f => m_p5 N E f) 0 = [] from rfl, List.append_nil]) rfl (fun i hi ihi => ?_) ?_
  · skip
    refine gx_iload_n K d_Rev_tellTwins_2 rfl rfl ?_
    refine gx_aload_n K d_Rev_tellTwins_3 rfl rfl ?_
    refine gx_get K f_Rev_35 (q0 := 12) rfl rfl d_Rev_tellTwins_4 ?_
    refine gx_getN K f_Rev_103 (q0 := 6) rfl rfl d_Rev_tellTwins_7 ?_
    refine gx_icmp_geF K d_Rev_tellTwins_10 rfl (nI_ge hi (by omega)) ?_
    refine gx_aload_n K d_Rev_tellTwins_13 rfl rfl ?_
    refine gx_get K f_Rev_22 (q0 := 12) rfl rfl d_Rev_tellTwins_14 ?_
    refine gx_iload_n K d_Rev_tellTwins_17 rfl rfl ?_
    refine gx_iald K (q0 := 16) rfl rfl (by omega) (by decide) d_Rev_tellTwins_18 ?_
    refine gx_iconst (v := -1) K d_Rev_tellTwins_19 rfl ?_
    refine gx_icmp_eq K d_Rev_tellTwins_20 rfl (fun h20 => ?_) (fun h20 => ?_)
    · skip
      refine gx_iinc (v := nI (i + 1)) K d_Rev_tellTwins_45 rfl (nI_add _ _) (gle rfl) rfl ?_
      refine gx_goto K d_Rev_tellTwins_48 rfl ?_
      exact gx_back [true, true] rfl (by rw [lst_no (f := (fun f => m_p5 N E f)) (i := i) (p5_no1 (hY1 i hi) h20)]) ihi
    · skip
      refine gx_aload_n K d_Rev_tellTwins_23 rfl rfl ?_
      refine gx_get K f_Rev_22 (q0 := 12) rfl rfl d_Rev_tellTwins_24 ?_
      refine gx_iload_n K d_Rev_tellTwins_27 rfl rfl ?_
      refine gx_iald K (q0 := 16) rfl rfl (by omega) (by decide) d_Rev_tellTwins_28 ?_
      refine gx_iload_n K d_Rev_tellTwins_29 rfl rfl ?_
      refine gx_icmp_ge K d_Rev_tellTwins_30 rfl (fun h30 => ?_) (fun h30 => ?_)
      · skip
        refine gx_iinc (v := nI (i + 1)) K d_Rev_tellTwins_45 rfl (nI_add _ _) (gle rfl) rfl ?_
        refine gx_goto K d_Rev_tellTwins_48 rfl ?_
        exact gx_back [true, true] rfl (by rw [lst_no (f := (fun f => m_p5 N E f)) (i := i) (p5_no2 (hY1 i hi) h30)]) ihi
      · skip
        have hfi : (fun f => m_p5 N E f) i = [5 * 10000 + 100 * nI i + Y 1 i] := p5_yes (hY1 i hi) h20 h30 (by omega)
        refine gx_aload_n K d_Rev_tellTwins_33 rfl rfl ?_
        refine gx_iconst (v := 5) K d_Rev_tellTwins_34 rfl ?_
        refine gx_iload_n K d_Rev_tellTwins_35 rfl rfl ?_
        refine gx_aload_n K d_Rev_tellTwins_36 rfl rfl ?_
        refine gx_get K f_Rev_22 (q0 := 12) rfl rfl d_Rev_tellTwins_37 ?_
        refine gx_iload_n K d_Rev_tellTwins_40 rfl rfl ?_
        refine gx_iald K (q0 := 16) rfl rfl (by omega) (by decide) d_Rev_tellTwins_41 ?_
        refine gx_Vdv K (z_Rev_tell hN (lst_lt hi hfi hb)) Y_Rev_tell (ci := 5) rfl (q0 := 12) rfl k586 ks35 k584 rfl ⟨gle rfl, gle rfl⟩ ⟨gle rfl, gle rfl⟩ (gle rfl) d_Rev_tellTwins_42 ?_
        refine gx_iinc (v := nI (i + 1)) K d_Rev_tellTwins_45 rfl (nI_add _ _) (gle rfl) rfl ?_
        refine gx_goto K d_Rev_tellTwins_48 rfl ?_
        exact gx_back [true, true] rfl (by rw [lst_yes (f := (fun f => m_p5 N E f)) hfi]; rfl) ihi
  · skip
    refine gx_iload_n K d_Rev_tellTwins_2 rfl rfl ?_
    refine gx_aload_n K d_Rev_tellTwins_3 rfl rfl ?_
    refine gx_get K f_Rev_35 (q0 := 12) rfl rfl d_Rev_tellTwins_4 ?_
    refine gx_getN K f_Rev_103 (q0 := 6) rfl rfl d_Rev_tellTwins_7 ?_
    refine gx_icmp_geT K d_Rev_tellTwins_10 rfl (Int32.le_refl _) ?_
    exact gx_vret K hr hlk d_Rev_tellTwins_51 ⟨rfl, rfl⟩

set_option maxRecDepth 100000 in
set_option maxHeartbeats 1000000 in
theorem z_Rev_tellLooseArcs {l : Launch} {D : va_G} {ty : Nat → ClassId} {tt : Nat} {a : Nat → Nat} {N : Nat → Nat} {r : Nat → Int32} {en re : Int32} {O : Nat → Nat → Option Nat} {z : Nat} {tx : Nat → Int32} {X : Nat → Nat → Bool} {Y : Nat → Nat → Int32} {sl : Bool} {pt : Int32} {tot : Int64} {hv : Bool} {rest : va_W} (hN : mN N) {ps : List Int32} {B : Nat → Nat → Bool} {E : Nat → Nat → Int32} {V : Nat → Int64} (G : cI B N E V O rest re) (hb : (ps ++ lstN (fun a0 => m_p6 B E a0) (N 1)).length ≤ 180) (hX : ∀ j, j < N 1 → X 0 j = m_counts B E j) : Cd l y_Rev_tellLooseArcs c_Rev_tellLooseArcs 2 none 2 D ty tt [.ref (a 12)] (fbW a ty N r en re O z tx X (va_up Y 3 (fl (Y 3) (ps))) ((ps).length) sl pt tot hv rest) none (fbW a ty N r en re O z tx X (va_up Y 3 (fl (Y 3) (ps ++ lstN (fun a0 => m_p6 B E a0) (N 1)))) ((ps ++ lstN (fun a0 => m_p6 B E a0) (N 1)).length) sl pt tot hv rest) := by
  obtain ⟨n0, n1, n2, n3, n4, n5⟩ := id hN
  obtain ⟨pC, pA, pX, pU, pF, I, hA, hF, hre, hV⟩ := id G
  refine Ct_of (by decide) (gle rfl) (fun p e s m args below meth c K hr hlk hin => ?_)
  refine gx_iconst (v := 0) K d_Rev_tellLooseArcs_0 rfl ?_
  refine gx_istore_n K d_Rev_tellLooseArcs_1 rfl (gle rfl) rfl ?_
  refine gx_loop [true, true] (N 1) (fun i => (fbW a ty N r en re O z tx X (va_up Y 3 (fl (Y 3) (ps ++ lstN (fun a0 => m_p6 B E a0) i))) ((ps ++ lstN (fun a0 => m_p6 B E a0) i).length) sl pt tot hv rest)) (fun i => [some (.ref (a 12)), some (.int (nI i))]) (by rw [show lstN (fun a0 => m_p6 B E a0) 0 = [] from rfl, List.append_nil]) rfl (fun i hi ihi => ?_) ?_
  · skip
    refine gx_iload_n K d_Rev_tellLooseArcs_2 rfl rfl ?_
    refine gx_aload_n K d_Rev_tellLooseArcs_3 rfl rfl ?_
    refine gx_get K f_Rev_31 (q0 := 12) rfl rfl d_Rev_tellLooseArcs_4 ?_
    refine gx_getN K f_Rev_71 (q0 := 1) rfl rfl d_Rev_tellLooseArcs_7 ?_
    refine gx_icmp_geF K d_Rev_tellLooseArcs_10 rfl (nI_ge hi (by omega)) ?_
    refine gx_aload_n K d_Rev_tellLooseArcs_13 rfl rfl ?_
    refine gx_get K f_Rev_9 (q0 := 12) rfl rfl d_Rev_tellLooseArcs_14 ?_
    refine gx_iload_n K d_Rev_tellLooseArcs_17 rfl rfl ?_
    refine gx_zld K (q0 := 13) rfl rfl (by omega) (by decide) d_Rev_tellLooseArcs_18 ?_
    refine gx_if_neB K d_Rev_tellLooseArcs_19 rfl (fun h19 => ?_) (fun h19 => ?_)
    · skip
      refine gx_iinc (v := nI (i + 1)) K d_Rev_tellLooseArcs_55 rfl (nI_add _ _) (gle rfl) rfl ?_
      refine gx_goto K d_Rev_tellLooseArcs_58 rfl ?_
      exact gx_back [true, true] rfl (by rw [lst_no (f := (fun a0 => m_p6 B E a0)) (i := i) (if_neg (fun q => by rw [← hX i hi, h19] at q; exact absurd q.2 (by decide)))]) ihi
    · skip
      refine gx_aload_n K d_Rev_tellLooseArcs_22 rfl rfl ?_
      refine gx_get K f_Rev_31 (q0 := 12) rfl rfl d_Rev_tellLooseArcs_23 ?_
      refine gx_getN K f_Rev_136 (q0 := 1) rfl rfl d_Rev_tellLooseArcs_26 ?_
      refine gx_aload_n K d_Rev_tellLooseArcs_29 rfl rfl ?_
      refine gx_get K f_Rev_31 (q0 := 12) rfl rfl d_Rev_tellLooseArcs_30 ?_
      refine gx_getN K f_Rev_76 (q0 := 1) rfl rfl d_Rev_tellLooseArcs_33 ?_
      refine gx_iload_n K d_Rev_tellLooseArcs_36 rfl rfl ?_
      refine gx_aald K (t := 5) rfl (q0 := 5) rfl rfl (by omega) (by decide) d_Rev_tellLooseArcs_37 ?_
      obtain ⟨q37, k37, z37, j37, hO37, hk37, gk37⟩ := pA (i) (by omega)
      rw [hO37]
      refine gx_getN K f_Rev_140 (fb_pl hk37) rfl d_Rev_tellLooseArcs_38 ?_
      refine gx_VNd K (z_Doc_isReachedN hN (I.2.1 (i)).1 (I.2.1 (i)).2) Y_Doc_isReached (ci := 2) rfl (q0 := 2) rfl k234 ks2 k596 rfl ⟨gle rfl, gle rfl⟩ ⟨gle rfl, gle rfl⟩ (gle rfl) d_Rev_tellLooseArcs_41 ?_
      refine gx_if_eqB K d_Rev_tellLooseArcs_44 rfl (fun h44 => ?_) (fun h44 => ?_)
      · skip
        refine gx_iinc (v := nI (i + 1)) K d_Rev_tellLooseArcs_55 rfl (nI_add _ _) (gle rfl) rfl ?_
        refine gx_goto K d_Rev_tellLooseArcs_58 rfl ?_
        exact gx_back [true, true] rfl (by rw [lst_no (f := (fun a0 => m_p6 B E a0)) (i := i) (if_neg (fun q => by rw [← hre _ (I.2.1 i).2, h44] at q; exact absurd q.1 (by decide)))]) ihi
      · skip
        have hfi : (fun a0 => m_p6 B E a0) i = [6 * 10000 + 100 * nI i + 0] := (if_pos ⟨(hre _ (I.2.1 i).2).symm.trans h44, (hX i hi).symm.trans h19⟩ : m_p6 B E i = _).trans (by rw [show (6 : Int32) * 10000 + 100 * nI i + 0 = nI (60000 + 100 * i) from tv 6 i 0])
        refine gx_aload_n K d_Rev_tellLooseArcs_47 rfl rfl ?_
        refine gx_bipush (v := 6) K d_Rev_tellLooseArcs_48 rfl ?_
        refine gx_iload_n K d_Rev_tellLooseArcs_50 rfl rfl ?_
        refine gx_iconst (v := 0) K d_Rev_tellLooseArcs_51 rfl ?_
        refine gx_Vdv K (z_Rev_tell hN (lst_lt hi hfi hb)) Y_Rev_tell (ci := 5) rfl (q0 := 12) rfl k586 ks35 k584 rfl ⟨gle rfl, gle rfl⟩ ⟨gle rfl, gle rfl⟩ (gle rfl) d_Rev_tellLooseArcs_52 ?_
        refine gx_iinc (v := nI (i + 1)) K d_Rev_tellLooseArcs_55 rfl (nI_add _ _) (gle rfl) rfl ?_
        refine gx_goto K d_Rev_tellLooseArcs_58 rfl ?_
        exact gx_back [true, true] rfl (by rw [lst_yes (f := (fun a0 => m_p6 B E a0)) hfi]) ihi
  · skip
    refine gx_iload_n K d_Rev_tellLooseArcs_2 rfl rfl ?_
    refine gx_aload_n K d_Rev_tellLooseArcs_3 rfl rfl ?_
    refine gx_get K f_Rev_31 (q0 := 12) rfl rfl d_Rev_tellLooseArcs_4 ?_
    refine gx_getN K f_Rev_71 (q0 := 1) rfl rfl d_Rev_tellLooseArcs_7 ?_
    refine gx_icmp_geT K d_Rev_tellLooseArcs_10 rfl (Int32.le_refl _) ?_
    exact gx_vret K hr hlk d_Rev_tellLooseArcs_61 ⟨rfl, rfl⟩

theorem ws_eq {E : Nat → Nat → Int32} {a : Nat} (h : ¬ E 9 a = 0) : c_ws E a = (!decide (E 2 (ix (E 7 a)) = 0) && (!decide (E 2 (ix (E 8 a)) = 0) && (decide (E 2 (ix (E 7 a)) = E 2 (ix (E 8 a))) == decide (E 9 a < 0)))) := by
  unfold c_ws
  congr 2
  by_cases e : E 2 (ix (E 7 a)) = E 2 (ix (E 8 a))
  · rw [if_pos e, decide_eq_true e]
    cases decide (E 9 a < 0) <;> rfl
  · rw [if_neg e, decide_eq_false e]
    by_cases h1 : E 9 a < 0
    · rw [decide_eq_true h1, decide_eq_false (fun q => by have h2 := Int32.lt_iff_toInt_lt.mp h1; have h3 := Int32.lt_iff_toInt_lt.mp q; omega)]
      rfl
    · rw [decide_eq_false h1, decide_eq_true]
      · rfl
      · have h2 := Int32.le_iff_toInt_le.mp (Int32.not_lt.mp h1)
        rw [Int32.lt_iff_toInt_lt]
        rcases Int.lt_or_eq_of_le h2 with h3 | h3
        · exact h3
        · exact absurd (Int32.toInt_inj.mp h3.symm) h
theorem wr_eq {B : Nat → Nat → Bool} {N : Nat → Nat} {E : Nat → Nat → Int32} {a : Nat} (h : ¬ E 9 a = 0) : m_wrong B N E a = (decide (E 6 a = 0) && (m_left B N E a && c_ws E a)) := by
  rw [ws_eq h]
  rfl
set_option maxRecDepth 100000 in
set_option maxHeartbeats 1000000 in
theorem z_Rev_tellSigns {l : Launch} {D : va_G} {ty : Nat → ClassId} {tt : Nat} {a : Nat → Nat} {N : Nat → Nat} {r : Nat → Int32} {en re : Int32} {O : Nat → Nat → Option Nat} {z : Nat} {tx : Nat → Int32} {X : Nat → Nat → Bool} {Y : Nat → Nat → Int32} {sl : Bool} {pt : Int32} {tot : Int64} {hv : Bool} {rest : va_W} (hN : mN N) {ps : List Int32} {B : Nat → Nat → Bool} {E : Nat → Nat → Int32} {V : Nat → Int64} (G : cI B N E V O rest re) (hb : (ps ++ lstN (fun a0 => m_p7 B N E a0) (N 1)).length ≤ 180) (hX1 : ∀ j, j < N 1 → X 1 j = m_left B N E j) (hn0 : ∀ j, j < N 1 → ¬ E 9 j = 0) : Cd l y_Rev_tellSigns c_Rev_tellSigns 3 none 1 D ty tt [.ref (a 12)] (fbW a ty N r en re O z tx X (va_up Y 3 (fl (Y 3) (ps))) ((ps).length) sl pt tot hv rest) none (fbW a ty N r en re O z tx X (va_up Y 3 (fl (Y 3) (ps ++ lstN (fun a0 => m_p7 B N E a0) (N 1)))) ((ps ++ lstN (fun a0 => m_p7 B N E a0) (N 1)).length) sl pt tot hv rest) := by
  obtain ⟨n0, n1, n2, n3, n4, n5⟩ := id hN
  obtain ⟨pC, pA, pX, pU, pF, I, hA, hF, hre, hV⟩ := id G
  refine Ct_of (by decide) (gle rfl) (fun p e s m args below meth c K hr hlk hin => ?_)
  refine gx_iconst (v := 0) K d_Rev_tellSigns_0 rfl ?_
  refine gx_istore_n K d_Rev_tellSigns_1 rfl (gle rfl) rfl ?_
  refine gx_loop [true, true, false] (N 1) (fun i => (fbW a ty N r en re O z tx X (va_up Y 3 (fl (Y 3) (ps ++ lstN (fun a0 => m_p7 B N E a0) i))) ((ps ++ lstN (fun a0 => m_p7 B N E a0) i).length) sl pt tot hv rest)) (fun i => [some (.ref (a 12)), some (.int (nI i)), none]) (by rw [show lstN (fun a0 => m_p7 B N E a0) 0 = [] from rfl, List.append_nil]) rfl (fun i hi ihi => ?_) ?_
  · skip
    refine gx_iload_n K d_Rev_tellSigns_2 rfl rfl ?_
    refine gx_aload_n K d_Rev_tellSigns_3 rfl rfl ?_
    refine gx_get K f_Rev_31 (q0 := 12) rfl rfl d_Rev_tellSigns_4 ?_
    refine gx_getN K f_Rev_71 (q0 := 1) rfl rfl d_Rev_tellSigns_7 ?_
    refine gx_icmp_geF K d_Rev_tellSigns_10 rfl (nI_ge hi (by omega)) ?_
    refine gx_aload_n K d_Rev_tellSigns_13 rfl rfl ?_
    refine gx_get K f_Rev_31 (q0 := 12) rfl rfl d_Rev_tellSigns_14 ?_
    refine gx_getN K f_Rev_76 (q0 := 1) rfl rfl d_Rev_tellSigns_17 ?_
    refine gx_iload_n K d_Rev_tellSigns_20 rfl rfl ?_
    refine gx_aald K (t := 5) rfl (q0 := 5) rfl rfl (by omega) (by decide) d_Rev_tellSigns_21 ?_
    obtain ⟨q21, k21, z21, j21, hO21, hk21, gk21⟩ := pA (i) (by omega)
    rw [hO21]
    refine gx_astore_n K d_Rev_tellSigns_22 rfl (gle rfl) rfl ?_
    refine gx_aload_n K d_Rev_tellSigns_23 rfl rfl ?_
    refine gx_get K f_Rev_15 (q0 := 12) rfl rfl d_Rev_tellSigns_24 ?_
    refine gx_iload_n K d_Rev_tellSigns_27 rfl rfl ?_
    refine gx_zld K (q0 := 14) rfl rfl (by omega) (by decide) d_Rev_tellSigns_28 ?_
    refine gx_if_eqB K d_Rev_tellSigns_29 rfl (fun h29 => ?_) (fun h29 => ?_)
    · skip
      refine gx_iinc (v := nI (i + 1)) K d_Rev_tellSigns_58 rfl (nI_add _ _) (gle rfl) rfl ?_
      refine gx_goto K d_Rev_tellSigns_61 rfl ?_
      exact gx_back [true, true, false] rfl (by rw [lst_no (f := (fun a0 => m_p7 B N E a0)) (i := i) (if_neg (by rw [wr_eq (hn0 i hi), ← hX1 i hi, show X 1 i = false from h29]; simp))]) ihi
    · skip
      refine gx_aload_n K d_Rev_tellSigns_32 rfl rfl ?_
      refine gx_getN K f_Rev_148 (fb_pl hk21) rfl d_Rev_tellSigns_33 ?_
      refine gx_if_ne K d_Rev_tellSigns_36 rfl (fun h36 => ?_) (fun h36 => ?_)
      · skip
        refine gx_iinc (v := nI (i + 1)) K d_Rev_tellSigns_58 rfl (nI_add _ _) (gle rfl) rfl ?_
        refine gx_goto K d_Rev_tellSigns_61 rfl ?_
        exact gx_back [true, true, false] rfl (by rw [lst_no (f := (fun a0 => m_p7 B N E a0)) (i := i) (if_neg (by rw [wr_eq (hn0 i hi), decide_eq_false h36]; simp))]) ihi
      · skip
        refine gx_aload_n K d_Rev_tellSigns_39 rfl rfl ?_
        refine gx_get K f_Rev_31 (q0 := 12) rfl rfl d_Rev_tellSigns_40 ?_
        refine gx_aload_n K d_Rev_tellSigns_43 rfl rfl ?_
        refine gx_VNd K (z_Tax_hasWrongSign hN G (by omega) hk21) Y_Tax_hasWrongSign (ci := 1) rfl (q0 := 1) rfl k603 ks39 k601 rfl ⟨gle rfl, gle rfl⟩ ⟨gle rfl, gle rfl⟩ (gle rfl) d_Rev_tellSigns_44 ?_
        refine gx_if_eqB K d_Rev_tellSigns_47 rfl (fun h47 => ?_) (fun h47 => ?_)
        · skip
          refine gx_iinc (v := nI (i + 1)) K d_Rev_tellSigns_58 rfl (nI_add _ _) (gle rfl) rfl ?_
          refine gx_goto K d_Rev_tellSigns_61 rfl ?_
          exact gx_back [true, true, false] rfl (by rw [lst_no (f := (fun a0 => m_p7 B N E a0)) (i := i) (if_neg (by rw [wr_eq (hn0 i hi), h47]; simp))]) ihi
        · skip
          have hfi : (fun a0 => m_p7 B N E a0) i = [7 * 10000 + 100 * nI i + 0] := (if_pos (by rw [wr_eq (hn0 i hi), ← hX1 i hi, decide_eq_true h36, show X 1 i = true from h29, h47]; rfl) : m_p7 B N E i = _).trans (by rw [show (7 : Int32) * 10000 + 100 * nI i + 0 = nI (70000 + 100 * i) from tv 7 i 0])
          refine gx_aload_n K d_Rev_tellSigns_50 rfl rfl ?_
          refine gx_bipush (v := 7) K d_Rev_tellSigns_51 rfl ?_
          refine gx_iload_n K d_Rev_tellSigns_53 rfl rfl ?_
          refine gx_iconst (v := 0) K d_Rev_tellSigns_54 rfl ?_
          refine gx_Vdv K (z_Rev_tell hN (lst_lt hi hfi hb)) Y_Rev_tell (ci := 5) rfl (q0 := 12) rfl k586 ks35 k584 rfl ⟨gle rfl, gle rfl⟩ ⟨gle rfl, gle rfl⟩ (gle rfl) d_Rev_tellSigns_55 ?_
          refine gx_iinc (v := nI (i + 1)) K d_Rev_tellSigns_58 rfl (nI_add _ _) (gle rfl) rfl ?_
          refine gx_goto K d_Rev_tellSigns_61 rfl ?_
          exact gx_back [true, true, false] rfl (by rw [lst_yes (f := (fun a0 => m_p7 B N E a0)) hfi]) ihi
  · skip
    refine gx_iload_n K d_Rev_tellSigns_2 rfl rfl ?_
    refine gx_aload_n K d_Rev_tellSigns_3 rfl rfl ?_
    refine gx_get K f_Rev_31 (q0 := 12) rfl rfl d_Rev_tellSigns_4 ?_
    refine gx_getN K f_Rev_71 (q0 := 1) rfl rfl d_Rev_tellSigns_7 ?_
    refine gx_icmp_geT K d_Rev_tellSigns_10 rfl (Int32.le_refl _) ?_
    exact gx_vret K hr hlk d_Rev_tellSigns_64 ⟨rfl, rfl⟩

set_option maxRecDepth 100000 in
set_option maxHeartbeats 1000000 in
theorem z_Rev_tellFaults {l : Launch} {D : va_G} {ty : Nat → ClassId} {tt : Nat} {a : Nat → Nat} {N : Nat → Nat} {r : Nat → Int32} {en re : Int32} {O : Nat → Nat → Option Nat} {z : Nat} {tx : Nat → Int32} {X : Nat → Nat → Bool} {Y : Nat → Nat → Int32} {sl : Bool} {pt : Int32} {tot : Int64} {hv : Bool} {rest : va_W} (hN : mN N) {ps : List Int32} {B : Nat → Nat → Bool} {E : Nat → Nat → Int32} {V : Nat → Int64} (G : cI B N E V O rest re) (hb : (ps ++ lstN (fun q => lstN (fun f => m_p1 B E (q + 1) f) (N 5)) 4).length ≤ 180) (hY0 : ∀ j, j < N 5 → Y 0 j = m_fault B E j) : Cd l y_Rev_tellFaults c_Rev_tellFaults 3 none 1 D ty tt [.ref (a 12)] (fbW a ty N r en re O z tx X (va_up Y 3 (fl (Y 3) (ps))) ((ps).length) sl pt tot hv rest) none (fbW a ty N r en re O z tx X (va_up Y 3 (fl (Y 3) (ps ++ lstN (fun q => lstN (fun f => m_p1 B E (q + 1) f) (N 5)) 4))) ((ps ++ lstN (fun q => lstN (fun f => m_p1 B E (q + 1) f) (N 5)) 4).length) sl pt tot hv rest) := by
  obtain ⟨n0, n1, n2, n3, n4, n5⟩ := id hN
  obtain ⟨pC, pA, pX, pU, pF, I, hA, hF, hre, hV⟩ := id G
  refine Ct_of (by decide) (gle rfl) (fun p e s m args below meth c K hr hlk hin => ?_)
  refine gx_iconst (v := 1) K d_Rev_tellFaults_0 rfl ?_
  refine gx_istore_n K d_Rev_tellFaults_1 rfl (gle rfl) rfl ?_
  refine gx_loop [true, true, false] 4 (fun q => (fbW a ty N r en re O z tx X (va_up Y 3 (fl (Y 3) (ps ++ lstN (fun q => lstN (fun f => m_p1 B E (q + 1) f) (N 5)) q))) ((ps ++ lstN (fun q => lstN (fun f => m_p1 B E (q + 1) f) (N 5)) q).length) sl pt tot hv rest)) (fun q => [some (.ref (a 12)), some (.int (nI (q + 1))), none]) (by rw [show lstN (fun q => lstN (fun f => m_p1 B E (q + 1) f) (N 5)) 0 = [] from rfl, List.append_nil]) rfl (fun q hq ihq => ?_) ?_
  · skip
    have hbq : ((ps ++ lstN (fun q => lstN (fun f => m_p1 B E (q + 1) f) (N 5)) q) ++ lstN (fun f => m_p1 B E (q + 1) f) (N 5)).length ≤ 180 := by
      rw [List.append_assoc]
      exact lst_le (f := (fun q => lstN (fun f => m_p1 B E (q + 1) f) (N 5))) (i := q + 1) (by omega) hb
    refine gx_iload_n K d_Rev_tellFaults_2 rfl rfl ?_
    refine gx_iconst (v := 4) K d_Rev_tellFaults_3 rfl ?_
    refine gx_icmp_gtF K d_Rev_tellFaults_4 rfl (nI_nlt (a := 4) (b := q + 1) (by omega) (by omega)) ?_
    refine gx_iconst (v := 0) K d_Rev_tellFaults_7 rfl ?_
    refine gx_istore_n K d_Rev_tellFaults_8 rfl (gle rfl) rfl ?_
    refine gx_loop [true, true, true] (N 5) (fun i => (fbW a ty N r en re O z tx X (va_up Y 3 (fl (Y 3) ((ps ++ lstN (fun q => lstN (fun f => m_p1 B E (q + 1) f) (N 5)) q) ++ lstN (fun f => m_p1 B E (q + 1) f) i))) (((ps ++ lstN (fun q => lstN (fun f => m_p1 B E (q + 1) f) (N 5)) q) ++ lstN (fun f => m_p1 B E (q + 1) f) i).length) sl pt tot hv rest)) (fun i => [some (.ref (a 12)), some (.int (nI (q + 1))), some (.int (nI i))]) (by rw [show lstN (fun f => m_p1 B E (q + 1) f) 0 = [] from rfl, List.append_nil]) rfl (fun i hi ihi => ?_) ?_
    · skip
      refine gx_iload_n K d_Rev_tellFaults_9 rfl rfl ?_
      refine gx_aload_n K d_Rev_tellFaults_10 rfl rfl ?_
      refine gx_get K f_Rev_35 (q0 := 12) rfl rfl d_Rev_tellFaults_11 ?_
      refine gx_getN K f_Rev_103 (q0 := 6) rfl rfl d_Rev_tellFaults_14 ?_
      refine gx_icmp_geF K d_Rev_tellFaults_17 rfl (nI_ge hi (by omega)) ?_
      refine gx_aload_n K d_Rev_tellFaults_20 rfl rfl ?_
      refine gx_get K f_Rev_18 (q0 := 12) rfl rfl d_Rev_tellFaults_21 ?_
      refine gx_iload_n K d_Rev_tellFaults_24 rfl rfl ?_
      refine gx_iald K (q0 := 15) rfl rfl (by omega) (by decide) d_Rev_tellFaults_25 ?_
      refine gx_iload_n K d_Rev_tellFaults_26 rfl rfl ?_
      refine gx_icmp_ne K d_Rev_tellFaults_27 rfl (fun h27 => ?_) (fun h27 => ?_)
      · skip
        refine gx_iinc (v := nI (i + 1)) K d_Rev_tellFaults_37 rfl (nI_add _ _) (gle rfl) rfl ?_
        refine gx_goto K d_Rev_tellFaults_40 rfl ?_
        exact gx_back [true, true, true] rfl (by rw [lst_no (f := (fun f => m_p1 B E (q + 1) f)) (i := i) (if_neg (fun r => h27 ((hY0 i hi).trans r)))]) ihi
      · skip
        have hfi : (fun f => m_p1 B E (q + 1) f) i = [nI (q + 1) * 10000 + 100 * nI i + 0] := (if_pos ((hY0 i hi).symm.trans h27) : m_p1 B E (q + 1) i = _).trans (by rw [show nI (q + 1) * 10000 + 100 * nI i + 0 = nI (10000 * (q + 1) + 100 * i) from tv (q + 1) i 0])
        refine gx_aload_n K d_Rev_tellFaults_30 rfl rfl ?_
        refine gx_iload_n K d_Rev_tellFaults_31 rfl rfl ?_
        refine gx_iload_n K d_Rev_tellFaults_32 rfl rfl ?_
        refine gx_iconst (v := 0) K d_Rev_tellFaults_33 rfl ?_
        refine gx_Vdv K (z_Rev_tell hN (lst_lt hi hfi hbq)) Y_Rev_tell (ci := 5) rfl (q0 := 12) rfl k586 ks35 k584 rfl ⟨gle rfl, gle rfl⟩ ⟨gle rfl, gle rfl⟩ (gle rfl) d_Rev_tellFaults_34 ?_
        refine gx_iinc (v := nI (i + 1)) K d_Rev_tellFaults_37 rfl (nI_add _ _) (gle rfl) rfl ?_
        refine gx_goto K d_Rev_tellFaults_40 rfl ?_
        exact gx_back [true, true, true] rfl (by rw [lst_yes (f := (fun f => m_p1 B E (q + 1) f)) hfi]) ihi
    · skip
      refine gx_iload_n K d_Rev_tellFaults_9 rfl rfl ?_
      refine gx_aload_n K d_Rev_tellFaults_10 rfl rfl ?_
      refine gx_get K f_Rev_35 (q0 := 12) rfl rfl d_Rev_tellFaults_11 ?_
      refine gx_getN K f_Rev_103 (q0 := 6) rfl rfl d_Rev_tellFaults_14 ?_
      refine gx_icmp_geT K d_Rev_tellFaults_17 rfl (Int32.le_refl _) ?_
      refine gx_iinc (v := nI ((q + 1) + 1)) K d_Rev_tellFaults_43 rfl (nI_add _ _) (gle rfl) rfl ?_
      refine gx_goto K d_Rev_tellFaults_46 rfl ?_
      exact gx_back [true, true, false] rfl (by rw [List.append_assoc]; rfl) ihq
  · skip
    refine gx_iload_n K d_Rev_tellFaults_2 rfl rfl ?_
    refine gx_iconst (v := 4) K d_Rev_tellFaults_3 rfl ?_
    refine gx_icmp_gtT K d_Rev_tellFaults_4 rfl (by decide) ?_
    exact gx_vret K hr hlk d_Rev_tellFaults_49 ⟨rfl, rfl⟩

