section CG
variable {B B2 : Nat → Nat → Bool} {N : Nat → Nat} {E : Nat → Nat → Int32} {V : Nat → Int64}
theorem left_cg (h2 : B 2 = B2 2) (h3 : B 3 = B2 3) (a : Nat) : m_left B N E a = m_left B2 N E a := by
  simp only [m_left, m_beat, m_counts, m_known, h2, h3]
theorem on_cg (h2 : B 2 = B2 2) (h3 : B 3 = B2 3) (r : Int32) (a : Nat) : w_on B N E r a = w_on B2 N E r a := by
  simp only [w_on, left_cg h2 h3]
theorem ar_cg (h2 : B 2 = B2 2) (h3 : B 3 = B2 3) (r : Int32) (f : Nat → Bool) : ∀ n, w_ar B N E r f n = w_ar B2 N E r f n
  | 0 => rfl
  | n + 1 => by
    simp only [w_ar, on_cg h2 h3, ar_cg h2 h3 r f n]
theorem fin_cg (h2 : B 2 = B2 2) (h3 : B 3 = B2 3) (r : Int32) (f : Nat → Bool) : w_fin B N E r f = w_fin B2 N E r f := by
  unfold w_fin
  rw [ar_cg h2 h3]
theorem F_cg (h2 : B 2 = B2 2) (h3 : B 3 = B2 3) (r : Int32) (f : Nat → Bool) : w_F B N E r f = w_F B2 N E r f := by
  rw [w_F_eq]
  exact fin_cg h2 h3 r f
theorem single_cg (h2 : B 2 = B2 2) (f : Nat) : m_single B N E f = m_single B2 N E f := by
  unfold m_single m_fault m_known
  rw [h2]
theorem part_cg (h2 : B 2 = B2 2) (h3 : B 3 = B2 3) (r : Int32) (f a g : Nat) : m_part B N E r f a g = m_part B2 N E r f a g := by
  simp only [m_part, left_cg h2 h3, single_cg h2]
theorem is_cg (h2 : B 2 = B2 2) (h3 : B 3 = B2 3) (r : Int32) (f k : Nat) : m_is B N E r f k = m_is B2 N E r f k := by
  simp only [m_is, part_cg h2 h3]
theorem bound_cg (h2 : B 2 = B2 2) (h3 : B 3 = B2 3) (r : Int32) (f : Nat) : m_bound B N E r f = m_bound B2 N E r f := by
  simp only [m_bound, is_cg h2 h3, single_cg h2]
theorem agrees_cg (h2 : B 2 = B2 2) (h3 : B 3 = B2 3) (r : Int32) (f : Nat) : m_agrees B N E V r f = m_agrees B2 N E V r f := by
  have e : m_is B N E r f = m_is B2 N E r f := funext (fun k => is_cg h2 h3 r f k)
  unfold m_agrees m_sum
  rw [e]
end CG
theorem lstN_app {f : Nat → List Int32} {n : Nat} : ∀ d, lstN f (n + d) = lstN f n ++ lstN (fun i => f (n + i)) d
  | 0 => (List.append_nil _).symm
  | d + 1 => by
    show lstN f (n + d) ++ f (n + d) = _
    rw [lstN_app d]
    simp only [lstN]
    rw [List.append_assoc]
theorem lstN_pairs {f : Nat → Nat → List Int32} {w : Nat} (hw : 0 < w) : ∀ n, lstN (fun k => f (k / w) (k % w)) (w * n) = lstN (fun i => lstN (fun j => f i j) w) n
  | 0 => rfl
  | n + 1 => by
    rw [Nat.mul_succ, lstN_app, lstN_pairs hw n]
    simp only [lstN]
    congr 1
    apply lstN_congr
    intro j hj
    rw [Nat.mul_add_div hw, Nat.mul_add_mod, Nat.div_eq_of_lt hj, Nat.mod_eq_of_lt hj, Nat.add_zero]
theorem lstN_nil {f : Nat → List Int32} : ∀ n, (∀ i, i < n → f i = []) → lstN f n = []
  | 0, _ => rfl
  | n + 1, h => by
    show lstN f n ++ f n = []
    rw [lstN_nil n (fun i hi => h i (by omega)), h n (by omega)]
    rfl
theorem lstN_cut {p : Nat → List Int32} {m n : Nat} (h : m ≤ n) : lstN (fun f => if f < m then p f else []) n = lstN p m := by
  obtain ⟨d, rfl⟩ : ∃ d, n = m + d := ⟨n - m, by omega⟩
  rw [lstN_app, lstN_nil d (fun i _ => if_neg (by omega)), List.append_nil]
  exact lstN_congr (fun i hi => if_pos hi)
def g9 (B : Nat → Nat → Bool) (N : Nat → Nat) (E : Nat → Nat → Int32) (V : Nat → Int64) (k : Nat) : List Int32 := if k % 20 < N 5 then m_p9 B N E V (k / 20) (k % 20) else []
theorem g9_all {B : Nat → Nat → Bool} {N : Nat → Nat} {E : Nat → Nat → Int32} {V : Nat → Int64} (h : N 5 ≤ 20) : lstN (fun k => g9 B N E V k) 60 = lstN (fun r => lstN (fun f => m_p9 B N E V r f) (N 5)) 3 := by
  have h1 := lstN_pairs (f := fun r f => if f < N 5 then m_p9 B N E V r f else []) (w := 20) (by decide) 3
  exact h1.trans (lstN_congr (fun r _ => lstN_cut h))
theorem probs_eq {B : Nat → Nat → Bool} {N : Nat → Nat} {E : Nat → Nat → Int32} {V : Nat → Int64} (h : N 5 ≤ 20) : ((((([] ++ lstN (fun q => lstN (fun f => m_p1 B E (q + 1) f) (N 5)) 4) ++ lstN (fun f => m_p5 N E f) (N 5)) ++ lstN (fun a => m_p6 B E a) (N 1)) ++ lstN (fun a => m_p7 B N E a) (N 1)) ++ lstN (fun r => lstN (fun c => m_p8 B N E r c) (N 0)) 3) ++ lstN (fun k => g9 B N E V k) 60 = m_probs B N E V := by
  rw [g9_all h]
  unfold m_probs
  simp only [List.nil_append, List.append_assoc]
set_option maxRecDepth 100000 in
set_option maxHeartbeats 1000000 in
theorem z_Mod_all {l : Launch} {D : va_G} {ty : Nat → ClassId} {tt : Nat} {b : Nat → Nat} {B : Nat → Nat → Bool} {N : Nat → Nat} {E : Nat → Nat → Int32} {J : Nat → Int32} {ph : Bool} {V : Nat → Int64} {rd : Int64} {rest : va_W} (I : mI E) (hN : mN N) {k : Int32} (hV : mV E V) : Cd l y_Mod_all c_Mod_all 5 (some .int) 7 D ty tt [.ref (b 0), .int k] (mdW b ty B N E J ph V rd rest) (some (.int (nI (m_probs (va_up B 2 (d_fo B)) N E V).length))) (mdW b ty (va_up (va_up B 2 (d_fo B)) 4 (w_rol (va_up B 2 (d_fo B)) N E 3)) N E (mJ J k (m_probs (va_up B 2 (d_fo B)) N E V)) ph V rd rest) := by
  obtain ⟨n0, n1, n2, n3, n4, n5⟩ := id hN
  refine Ct_of (by decide) (gle rfl) (fun p e s m args below meth c K hr hlk hin => ?_)
  refine gx_aload_n K d_Mod_all_0 rfl rfl ?_
  refine gx_Vdv K (z_Mod_discover I hN) Y_Mod_discover (ci := 12) rfl (q0 := 0) rfl k844 ks51 k842 rfl ⟨gle rfl, gle rfl⟩ ⟨gle rfl, gle rfl⟩ (gle rfl) d_Mod_all_1 ?_
  generalize va_up B 2 (d_fo B) = B1
  refine gx_aload_n K d_Mod_all_4 rfl rfl ?_
  refine gx_iconst (v := 0) K d_Mod_all_5 rfl ?_
  refine gx_put K f_Mod_220 ft_Mod rfl (q0 := 0) rfl rfl rfl (gle rfl) d_Mod_all_6 ?_
  refine gx_aload_n K d_Mod_all_9 rfl rfl ?_
  refine gx_iload_n K d_Mod_all_10 rfl rfl ?_
  refine gx_put K f_Mod_223 ft_Mod rfl (q0 := 0) rfl rfl rfl (gle rfl) d_Mod_all_11 ?_
  refine gx_aload_n K d_Mod_all_14 rfl rfl ?_
  refine gx_iconst (v := -1) K d_Mod_all_15 rfl ?_
  refine gx_put K f_Mod_226 ft_Mod rfl (q0 := 0) rfl rfl rfl (gle rfl) d_Mod_all_16 ?_
  refine gx_ws (w1 := (mdW b ty (B1) N E (mJ J k []) ph V rd rest)) rfl ?_
  refine gx_aload_n K d_Mod_all_19 rfl rfl ?_
  refine gx_Vdv K (z_Mod_factProblems I hN (ps := [])) Y_Mod_factProblems (ci := 12) rfl (q0 := 0) rfl k991 ks70 k989 rfl ⟨gle rfl, gle rfl⟩ ⟨gle rfl, gle rfl⟩ (gle rfl) d_Mod_all_20 ?_
  refine gx_iconst (v := 0) K d_Mod_all_23 rfl ?_
  refine gx_istore_n K d_Mod_all_24 rfl (gle rfl) rfl ?_
  refine gx_loop [true, true, true, false, false] (N 1) (fun i => (mdW b ty (B1) N E (mJ J k ((([] ++ lstN (fun q => lstN (fun f => m_p1 B1 E (q + 1) f) (N 5)) 4) ++ lstN (fun f => m_p5 N E f) (N 5)) ++ lstN (fun a => m_p6 B1 E a) i)) ph V rd rest)) (fun i => [some (.ref (b 0)), some (.int k), some (.int (nI i)), none, none]) (by rw [show lstN (fun a => m_p6 B1 E a) 0 = [] from rfl, List.append_nil]) rfl (fun i hi ihi => ?_) ?_
  · skip
    refine gx_iload_n K d_Mod_all_25 rfl rfl ?_
    refine gx_aload_n K d_Mod_all_26 rfl rfl ?_
    refine gx_get K f_Mod_136 (q0 := 0) rfl rfl d_Mod_all_27 ?_
    refine gx_icmp_geF K d_Mod_all_30 rfl (nI_ge hi (by omega)) ?_
    refine gx_aload_n K d_Mod_all_33 rfl rfl ?_
    refine gx_get K f_Mod_16 (q0 := 0) rfl rfl d_Mod_all_34 ?_
    refine gx_aload_n K d_Mod_all_37 rfl rfl ?_
    refine gx_get K f_Mod_32 (q0 := 0) rfl rfl d_Mod_all_38 ?_
    refine gx_iload_n K d_Mod_all_41 rfl rfl ?_
    refine gx_iald K (q0 := 8) rfl rfl (by omega) (by decide) d_Mod_all_42 ?_
    refine gx_zld K (q0 := 3) rfl (I.2.1 (i)).1 (I.2.1 (i)).2 (by decide) d_Mod_all_43 ?_
    refine gx_if_eqB K d_Mod_all_44 rfl (fun h44 => ?_) (fun h44 => ?_)
    · skip
      refine gx_iinc (v := nI (i + 1)) K d_Mod_all_66 rfl (nI_add _ _) (gle rfl) rfl ?_
      refine gx_goto K d_Mod_all_69 rfl ?_
      exact gx_back [true, true, true, false, false] rfl (by rw [lst_no (f := (fun a => m_p6 B1 E a)) (i := i) (if_neg (fun q => by rw [h44] at q; exact absurd q.1 (by decide)))]) ihi
    · skip
      refine gx_aload_n K d_Mod_all_47 rfl rfl ?_
      refine gx_iload_n K d_Mod_all_48 rfl rfl ?_
      refine gx_Vd K (z_Mod_counts I hN rfl (by omega)) Y_Mod_counts (ci := 12) rfl (q0 := 0) rfl k892 ks55 k890 rfl ⟨gle rfl, gle rfl⟩ ⟨gle rfl, gle rfl⟩ (gle rfl) d_Mod_all_49 ?_
      refine gx_if_neB K d_Mod_all_52 rfl (fun h52 => ?_) (fun h52 => ?_)
      · skip
        refine gx_iinc (v := nI (i + 1)) K d_Mod_all_66 rfl (nI_add _ _) (gle rfl) rfl ?_
        refine gx_goto K d_Mod_all_69 rfl ?_
        exact gx_back [true, true, true, false, false] rfl (by rw [lst_no (f := (fun a => m_p6 B1 E a)) (i := i) (if_neg (fun q => by rw [h52] at q; exact absurd q.2 (by decide)))]) ihi
      · skip
        refine gx_aload_n K d_Mod_all_55 rfl rfl ?_
        refine gx_ldc K d_Mod_all_56 k998 ?_
        refine gx_bipush (v := 100) K d_Mod_all_58 rfl ?_
        refine gx_iload_n K d_Mod_all_60 rfl rfl ?_
        refine gx_imulN K (100) (i) d_Mod_all_61 ?_
        refine gx_iaddN K (60000) ((100 * i)) d_Mod_all_62 ?_
        refine gx_Vdv K (z_Mod_meet I hN) Y_Mod_meet (ci := 12) rfl (q0 := 0) rfl k995 ks71 k993 rfl ⟨gle rfl, gle rfl⟩ ⟨gle rfl, gle rfl⟩ (gle rfl) d_Mod_all_63 ?_
        refine gx_iinc (v := nI (i + 1)) K d_Mod_all_66 rfl (nI_add _ _) (gle rfl) rfl ?_
        refine gx_goto K d_Mod_all_69 rfl ?_
        exact gx_back [true, true, true, false, false] rfl (by rw [lst_yes (f := (fun a => m_p6 B1 E a)) (i := i) (if_pos ⟨h44, h52⟩)]) ihi
  · skip
    refine gx_iload_n K d_Mod_all_25 rfl rfl ?_
    refine gx_aload_n K d_Mod_all_26 rfl rfl ?_
    refine gx_get K f_Mod_136 (q0 := 0) rfl rfl d_Mod_all_27 ?_
    refine gx_icmp_geT K d_Mod_all_30 rfl (Int32.le_refl _) ?_
    refine gx_iconst (v := 0) K d_Mod_all_72 rfl ?_
    refine gx_istore_n K d_Mod_all_73 rfl (gle rfl) rfl ?_
    refine gx_loop [true, true, true, false, false] (N 1) (fun i => (mdW b ty (B1) N E (mJ J k (((([] ++ lstN (fun q => lstN (fun f => m_p1 B1 E (q + 1) f) (N 5)) 4) ++ lstN (fun f => m_p5 N E f) (N 5)) ++ lstN (fun a => m_p6 B1 E a) (N 1)) ++ lstN (fun a => m_p7 B1 N E a) i)) ph V rd rest)) (fun i => [some (.ref (b 0)), some (.int k), some (.int (nI i)), none, none]) (by rw [show lstN (fun a => m_p7 B1 N E a) 0 = [] from rfl, List.append_nil]) rfl (fun i hi ihi => ?_) ?_
    · skip
      refine gx_iload_n K d_Mod_all_74 rfl rfl ?_
      refine gx_aload_n K d_Mod_all_75 rfl rfl ?_
      refine gx_get K f_Mod_136 (q0 := 0) rfl rfl d_Mod_all_76 ?_
      refine gx_icmp_geF K d_Mod_all_79 rfl (nI_ge hi (by omega)) ?_
      refine gx_aload_n K d_Mod_all_82 rfl rfl ?_
      refine gx_iload_n K d_Mod_all_83 rfl rfl ?_
      refine gx_Vd K (z_Mod_wrongSign I hN rfl (by omega)) Y_Mod_wrongSign (ci := 12) rfl (q0 := 0) rfl k1001 ks72 k999 rfl ⟨gle rfl, gle rfl⟩ ⟨gle rfl, gle rfl⟩ (gle rfl) d_Mod_all_84 ?_
      refine gx_if_eqB K d_Mod_all_87 rfl (fun h87 => ?_) (fun h87 => ?_)
      · skip
        refine gx_iinc (v := nI (i + 1)) K d_Mod_all_101 rfl (nI_add _ _) (gle rfl) rfl ?_
        refine gx_goto K d_Mod_all_104 rfl ?_
        exact gx_back [true, true, true, false, false] rfl (by rw [lst_no (f := (fun a => m_p7 B1 N E a)) (i := i) (if_neg (fun q => by rw [h87] at q; exact absurd q (by decide)))]) ihi
      · skip
        refine gx_aload_n K d_Mod_all_90 rfl rfl ?_
        refine gx_ldc K d_Mod_all_91 k1003 ?_
        refine gx_bipush (v := 100) K d_Mod_all_93 rfl ?_
        refine gx_iload_n K d_Mod_all_95 rfl rfl ?_
        refine gx_imulN K (100) (i) d_Mod_all_96 ?_
        refine gx_iaddN K (70000) ((100 * i)) d_Mod_all_97 ?_
        refine gx_Vdv K (z_Mod_meet I hN) Y_Mod_meet (ci := 12) rfl (q0 := 0) rfl k995 ks71 k993 rfl ⟨gle rfl, gle rfl⟩ ⟨gle rfl, gle rfl⟩ (gle rfl) d_Mod_all_98 ?_
        refine gx_iinc (v := nI (i + 1)) K d_Mod_all_101 rfl (nI_add _ _) (gle rfl) rfl ?_
        refine gx_goto K d_Mod_all_104 rfl ?_
        exact gx_back [true, true, true, false, false] rfl (by rw [lst_yes (f := (fun a => m_p7 B1 N E a)) (i := i) (if_pos h87)]) ihi
    · skip
      refine gx_iload_n K d_Mod_all_74 rfl rfl ?_
      refine gx_aload_n K d_Mod_all_75 rfl rfl ?_
      refine gx_get K f_Mod_136 (q0 := 0) rfl rfl d_Mod_all_76 ?_
      refine gx_icmp_geT K d_Mod_all_79 rfl (Int32.le_refl _) ?_
      refine gx_iconst (v := 0) K d_Mod_all_107 rfl ?_
      refine gx_istore_n K d_Mod_all_108 rfl (gle rfl) rfl ?_
      refine gx_loop [true, true, true, false, false] (3) (fun rr => (mdW b ty (va_up B1 4 (w_rol B1 N E rr)) N E (mJ J k ((((([] ++ lstN (fun q => lstN (fun f => m_p1 B1 E (q + 1) f) (N 5)) 4) ++ lstN (fun f => m_p5 N E f) (N 5)) ++ lstN (fun a => m_p6 B1 E a) (N 1)) ++ lstN (fun a => m_p7 B1 N E a) (N 1)) ++ lstN (fun r => lstN (fun c => m_p8 B1 N E r c) (N 0)) rr)) ph V rd rest)) (fun rr => [some (.ref (b 0)), some (.int k), some (.int (nI rr)), none, none]) (by rw [show lstN (fun r => lstN (fun c => m_p8 B1 N E r c) (N 0)) 0 = [] from rfl, List.append_nil, show va_up B1 4 (w_rol B1 N E 0) = B1 from gUpS B1 4]) rfl (fun rr hrr ihrr => ?_) ?_
      · skip
        refine gx_iload_n K d_Mod_all_109 rfl rfl ?_
        refine gx_iconst (v := 3) K d_Mod_all_110 rfl ?_
        refine gx_icmp_geF K d_Mod_all_111 rfl (nI_ge (b := 3) hrr (by decide)) ?_
        refine gx_aload_n K d_Mod_all_114 rfl rfl ?_
        refine gx_iload_n K d_Mod_all_115 rfl rfl ?_
        refine gx_Vdv K (z_Mod_ways I hN) Y_Mod_ways (ci := 12) rfl (q0 := 0) rfl k1006 ks73 k1004 rfl ⟨gle rfl, gle rfl⟩ ⟨gle rfl, gle rfl⟩ (gle rfl) d_Mod_all_116 ?_
        refine gx_ws (w1 := (mdW b ty (va_up B1 4 (w_rol B1 N E (rr + 1))) N E (mJ J k ((((([] ++ lstN (fun q => lstN (fun f => m_p1 B1 E (q + 1) f) (N 5)) 4) ++ lstN (fun f => m_p5 N E f) (N 5)) ++ lstN (fun a => m_p6 B1 E a) (N 1)) ++ lstN (fun a => m_p7 B1 N E a) (N 1)) ++ lstN (fun r => lstN (fun c => m_p8 B1 N E r c) (N 0)) rr)) ph V rd rest)) (by rw [gUpU, F_cg (B := va_up B1 4 (w_rol B1 N E rr)) (B2 := B1) rfl rfl]; rfl) ?_
        refine gx_iconst (v := 0) K d_Mod_all_119 rfl ?_
        refine gx_istore_n K d_Mod_all_120 rfl (gle rfl) rfl ?_
        refine gx_loop [true, true, true, true, false] (N 0) (fun i => (mdW b ty (va_up B1 4 (w_rol B1 N E (rr + 1))) N E (mJ J k (((((([] ++ lstN (fun q => lstN (fun f => m_p1 B1 E (q + 1) f) (N 5)) 4) ++ lstN (fun f => m_p5 N E f) (N 5)) ++ lstN (fun a => m_p6 B1 E a) (N 1)) ++ lstN (fun a => m_p7 B1 N E a) (N 1)) ++ lstN (fun r => lstN (fun c => m_p8 B1 N E r c) (N 0)) rr) ++ lstN (fun c => m_p8 B1 N E rr c) i)) ph V rd rest)) (fun i => [some (.ref (b 0)), some (.int k), some (.int (nI rr)), some (.int (nI i)), none]) (by rw [show lstN (fun c => m_p8 B1 N E rr c) 0 = [] from rfl, List.append_nil]) rfl (fun i hi ihi => ?_) ?_
        · skip
          refine gx_iload_n K d_Mod_all_121 rfl rfl ?_
          refine gx_aload_n K d_Mod_all_122 rfl rfl ?_
          refine gx_get K f_Mod_109 (q0 := 0) rfl rfl d_Mod_all_123 ?_
          refine gx_icmp_geF K d_Mod_all_126 rfl (nI_ge hi (by omega)) ?_
          refine gx_aload_n K d_Mod_all_129 rfl rfl ?_
          refine gx_get K f_Mod_99 (q0 := 0) rfl rfl d_Mod_all_130 ?_
          refine gx_bipush (v := 17) K d_Mod_all_133 rfl ?_
          refine gx_iload_n K d_Mod_all_135 rfl rfl ?_
          refine gx_imulN K (17) (i) d_Mod_all_136 ?_
          refine gx_zld K (q0 := 30) rfl rfl (by omega) (by decide) d_Mod_all_137 ?_
          refine gx_if_eqB K d_Mod_all_138 rfl (fun h138 => ?_) (fun h138 => ?_)
          · skip
            refine gx_iinc (v := nI (i + 1)) K d_Mod_all_154 rfl (nI_add _ _) (gle rfl) rfl ?_
            refine gx_goto K d_Mod_all_157 rfl ?_
            exact gx_back [true, true, true, true, false] rfl (by rw [lst_no (f := (fun c => m_p8 B1 N E rr c)) (i := i) (if_neg (by rw [← w_F_at (B := B1) (N := N) I (nI rr) (w_rol B1 N E rr) (show i < 16 by omega), show w_F B1 N E (nI rr) (w_rol B1 N E rr) (17 * i) = false from h138]; decide))]) ihi
          · skip
            refine gx_aload_n K d_Mod_all_141 rfl rfl ?_
            refine gx_ldc K d_Mod_all_142 k1008 ?_
            refine gx_bipush (v := 100) K d_Mod_all_144 rfl ?_
            refine gx_iload_n K d_Mod_all_146 rfl rfl ?_
            refine gx_imulN K (100) (rr) d_Mod_all_147 ?_
            refine gx_iaddN K (80000) ((100 * rr)) d_Mod_all_148 ?_
            refine gx_iload_n K d_Mod_all_149 rfl rfl ?_
            refine gx_iaddN K ((80000 + (100 * rr))) (i) d_Mod_all_150 ?_
            refine gx_Vdv K (z_Mod_meet I hN) Y_Mod_meet (ci := 12) rfl (q0 := 0) rfl k995 ks71 k993 rfl ⟨gle rfl, gle rfl⟩ ⟨gle rfl, gle rfl⟩ (gle rfl) d_Mod_all_151 ?_
            refine gx_iinc (v := nI (i + 1)) K d_Mod_all_154 rfl (nI_add _ _) (gle rfl) rfl ?_
            refine gx_goto K d_Mod_all_157 rfl ?_
            exact gx_back [true, true, true, true, false] rfl (by rw [lst_yes (f := (fun c => m_p8 B1 N E rr c)) (i := i) (if_pos (by rw [← w_F_at (B := B1) (N := N) I (nI rr) (w_rol B1 N E rr) (show i < 16 by omega)]; exact h138))]) ihi
        · skip
          refine gx_iload_n K d_Mod_all_121 rfl rfl ?_
          refine gx_aload_n K d_Mod_all_122 rfl rfl ?_
          refine gx_get K f_Mod_109 (q0 := 0) rfl rfl d_Mod_all_123 ?_
          refine gx_icmp_geT K d_Mod_all_126 rfl (Int32.le_refl _) ?_
          refine gx_iinc (v := nI (rr + 1)) K d_Mod_all_160 rfl (nI_add _ _) (gle rfl) rfl ?_
          refine gx_goto K d_Mod_all_163 rfl ?_
          exact gx_back [true, true, true, false, false] rfl (by rw [List.append_assoc]; rfl) ihrr
      · skip
        refine gx_iload_n K d_Mod_all_109 rfl rfl ?_
        refine gx_iconst (v := 3) K d_Mod_all_110 rfl ?_
        refine gx_icmp_geT K d_Mod_all_111 rfl (Int32.le_refl _) ?_
        refine gx_iconst (v := 0) K d_Mod_all_166 rfl ?_
        refine gx_istore_n K d_Mod_all_167 rfl (gle rfl) rfl ?_
        refine gx_loop [true, true, true, false, false] (60) (fun i => (mdW b ty (va_up B1 4 (w_rol B1 N E 3)) N E (mJ J k (((((([] ++ lstN (fun q => lstN (fun f => m_p1 B1 E (q + 1) f) (N 5)) 4) ++ lstN (fun f => m_p5 N E f) (N 5)) ++ lstN (fun a => m_p6 B1 E a) (N 1)) ++ lstN (fun a => m_p7 B1 N E a) (N 1)) ++ lstN (fun r => lstN (fun c => m_p8 B1 N E r c) (N 0)) 3) ++ lstN (fun k => g9 B1 N E V k) i)) ph V rd rest)) (fun i => [some (.ref (b 0)), some (.int k), some (.int (nI i)), none, none]) (by rw [show lstN (fun k => g9 B1 N E V k) 0 = [] from rfl, List.append_nil]) rfl (fun i hi ihi => ?_) ?_
        · skip
          refine gx_iload_n K d_Mod_all_168 rfl rfl ?_
          refine gx_bipush (v := 60) K d_Mod_all_169 rfl ?_
          refine gx_icmp_geF K d_Mod_all_171 rfl (nI_ge (b := 60) hi (by decide)) ?_
          refine gx_iload_n K d_Mod_all_174 rfl rfl ?_
          refine gx_bipush (v := 20) K d_Mod_all_175 rfl ?_
          refine gx_idivN K (i) (20) (by omega) (by omega) (by omega) d_Mod_all_177 ?_
          refine gx_istore_n K d_Mod_all_178 rfl (gle rfl) rfl ?_
          refine gx_iload_n K d_Mod_all_179 rfl rfl ?_
          refine gx_bipush (v := 20) K d_Mod_all_180 rfl ?_
          refine gx_iremN K (i) (20) (by omega) (by omega) (by omega) d_Mod_all_182 ?_
          refine gx_istore K d_Mod_all_183 (gle rfl) rfl ?_
          refine gx_iload K d_Mod_all_185 rfl ?_
          refine gx_aload_n K d_Mod_all_187 rfl rfl ?_
          refine gx_get K f_Mod_165 (q0 := 0) rfl rfl d_Mod_all_188 ?_
          refine gx_icmp_ge K d_Mod_all_191 rfl (fun h191 => ?_) (fun h191 => ?_)
          · skip
            have h191n : N 5 ≤ (i % 20) := (nI_leI (a := N 5) (b := (i % 20)) (by omega) (by omega)).mp h191
            refine gx_iinc (v := nI (i + 1)) K d_Mod_all_228 rfl (nI_add _ _) (gle rfl) rfl ?_
            refine gx_goto K d_Mod_all_231 rfl ?_
            exact gx_back [true, true, true, false, false] rfl (by rw [lst_no (f := (fun k => g9 B1 N E V k)) (i := i) (if_neg (Nat.not_lt.mpr h191n))]) ihi
          · skip
            have h191n : ¬ N 5 ≤ (i % 20) := fun q => h191 ((nI_leI (a := N 5) (b := (i % 20)) (by omega) (by omega)).mpr q)
            refine gx_aload_n K d_Mod_all_194 rfl rfl ?_
            refine gx_iload_n K d_Mod_all_195 rfl rfl ?_
            refine gx_iload K d_Mod_all_196 rfl ?_
            refine gx_Vd K (z_Mod_bound I hN rfl (by omega)) Y_Mod_bound (ci := 12) rfl (q0 := 0) rfl k955 ks62 k953 rfl ⟨gle rfl, gle rfl⟩ ⟨gle rfl, gle rfl⟩ (gle rfl) d_Mod_all_198 ?_
            refine gx_if_eqB K d_Mod_all_201 rfl (fun h201 => ?_) (fun h201 => ?_)
            · skip
              refine gx_iinc (v := nI (i + 1)) K d_Mod_all_228 rfl (nI_add _ _) (gle rfl) rfl ?_
              refine gx_goto K d_Mod_all_231 rfl ?_
              exact gx_back [true, true, true, false, false] rfl (by rw [lst_no (f := (fun k => g9 B1 N E V k)) (i := i) (by show (if i % 20 < N 5 then m_p9 B1 N E V (i / 20) (i % 20) else []) = []; rw [if_pos (Nat.not_le.mp h191n)]; exact if_neg (fun q => by rw [← bound_cg (B := va_up B1 4 (w_rol B1 N E 3)) (B2 := B1) rfl rfl, h201] at q; exact absurd q.1 (by decide)))]) ihi
            · skip
              refine gx_aload_n K d_Mod_all_204 rfl rfl ?_
              refine gx_iload_n K d_Mod_all_205 rfl rfl ?_
              refine gx_iload K d_Mod_all_206 rfl ?_
              refine gx_Vd K (z_Mod_agrees I hN rfl (by omega) hV) Y_Mod_agrees (ci := 12) rfl (q0 := 0) rfl k1011 ks74 k1009 rfl ⟨gle rfl, gle rfl⟩ ⟨gle rfl, gle rfl⟩ (gle rfl) d_Mod_all_208 ?_
              refine gx_if_neB K d_Mod_all_211 rfl (fun h211 => ?_) (fun h211 => ?_)
              · skip
                refine gx_iinc (v := nI (i + 1)) K d_Mod_all_228 rfl (nI_add _ _) (gle rfl) rfl ?_
                refine gx_goto K d_Mod_all_231 rfl ?_
                exact gx_back [true, true, true, false, false] rfl (by rw [lst_no (f := (fun k => g9 B1 N E V k)) (i := i) (by show (if i % 20 < N 5 then m_p9 B1 N E V (i / 20) (i % 20) else []) = []; rw [if_pos (Nat.not_le.mp h191n)]; exact if_neg (fun q => by rw [← agrees_cg (B := va_up B1 4 (w_rol B1 N E 3)) (B2 := B1) rfl rfl, h211] at q; exact absurd q.2 (by decide)))]) ihi
              · skip
                refine gx_aload_n K d_Mod_all_214 rfl rfl ?_
                refine gx_ldc K d_Mod_all_215 k1017 ?_
                refine gx_bipush (v := 100) K d_Mod_all_217 rfl ?_
                refine gx_iload_n K d_Mod_all_219 rfl rfl ?_
                refine gx_imulN K (100) ((i / 20)) d_Mod_all_220 ?_
                refine gx_iaddN K (90000) ((100 * (i / 20))) d_Mod_all_221 ?_
                refine gx_iload K d_Mod_all_222 rfl ?_
                refine gx_iaddN K ((90000 + (100 * (i / 20)))) ((i % 20)) d_Mod_all_224 ?_
                refine gx_Vdv K (z_Mod_meet I hN) Y_Mod_meet (ci := 12) rfl (q0 := 0) rfl k995 ks71 k993 rfl ⟨gle rfl, gle rfl⟩ ⟨gle rfl, gle rfl⟩ (gle rfl) d_Mod_all_225 ?_
                refine gx_iinc (v := nI (i + 1)) K d_Mod_all_228 rfl (nI_add _ _) (gle rfl) rfl ?_
                refine gx_goto K d_Mod_all_231 rfl ?_
                exact gx_back [true, true, true, false, false] rfl (by rw [lst_yes (f := (fun k => g9 B1 N E V k)) (i := i) (by show (if i % 20 < N 5 then m_p9 B1 N E V (i / 20) (i % 20) else []) = [_]; rw [if_pos (Nat.not_le.mp h191n)]; exact if_pos ⟨(bound_cg (B := va_up B1 4 (w_rol B1 N E 3)) (B2 := B1) rfl rfl _ _).symm.trans h201, (agrees_cg (B := va_up B1 4 (w_rol B1 N E 3)) (B2 := B1) rfl rfl _ _).symm.trans h211⟩)]) ihi
        · skip
          refine gx_iload_n K d_Mod_all_168 rfl rfl ?_
          refine gx_bipush (v := 60) K d_Mod_all_169 rfl ?_
          refine gx_icmp_geT K d_Mod_all_171 rfl (Int32.le_refl _) ?_
          refine gx_aload_n K d_Mod_all_234 rfl rfl ?_
          refine gx_get K f_Mod_220 (q0 := 0) rfl rfl d_Mod_all_235 ?_
          exact gx_iret K hr hlk d_Mod_all_238 ⟨gRi (congrArg (fun q => nI (List.length q)) (probs_eq n5)), congrArg (fun q => (mdW b ty (va_up B1 4 (w_rol B1 N E 3)) N E (mJ J k q) ph V rd rest)) (probs_eq n5)⟩

