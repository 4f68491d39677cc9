/-- the lowest from the top down: of the last i below n -/
def loF (P : Nat → Bool) (n : Nat) : Nat → Int32
  | 0 => -1
  | i + 1 => if P (n - (i + 1)) = true then nI (n - (i + 1)) else loF P n i
theorem loN_no {P : Nat → Bool} : ∀ n, (∀ j, j < n → P j = false) → loN P n = -1
  | 0, _ => rfl
  | n + 1, h => by
    unfold loN
    rw [loN_no n (fun j hj => h j (by omega)), if_pos (by decide), if_neg (by rw [h n (by omega)]; decide)]
theorem loN_at {P : Nat → Bool} {g : Nat} (hg : P g = true) (hl : ∀ j, j < g → P j = false) : ∀ n, g < n → n < 2 ^ 31 → loN P n = nI g
  | 0, h, _ => absurd h (Nat.not_lt_zero _)
  | n + 1, h, hn => by
    unfold loN
    by_cases e : g = n
    · subst e
      rw [loN_no g hl, if_pos (by decide), if_pos hg]
    · rw [loN_at hg hl n (by omega) (by omega), if_neg (nI_pos (by omega))]
theorem loF_spec {P : Nat → Bool} {n : Nat} : ∀ i, i ≤ n → (loF P n i = -1 ∧ ∀ j, n - i ≤ j → j < n → P j = false) ∨ ∃ g, n - i ≤ g ∧ g < n ∧ loF P n i = nI g ∧ P g = true ∧ ∀ j, n - i ≤ j → j < g → P j = false
  | 0, _ => Or.inl ⟨rfl, fun j h1 h2 => by omega⟩
  | i + 1, h => by
    by_cases hp : P (n - (i + 1)) = true
    · exact Or.inr ⟨n - (i + 1), Nat.le_refl _, by omega, if_pos hp, hp, fun j h1 h2 => by omega⟩
    · have hp' : P (n - (i + 1)) = false := by simpa using hp
      have e : loF P n (i + 1) = loF P n i := if_neg hp
      rcases loF_spec (P := P) (n := n) i (by omega) with ⟨h1, h2⟩ | ⟨g, h1, h2, h3, h4, h5⟩
      · refine Or.inl ⟨by rw [e, h1], fun j h3 h4 => ?_⟩
        by_cases q : j = n - (i + 1)
        · rw [q]; exact hp'
        · exact h2 j (by omega) h4
      · refine Or.inr ⟨g, by omega, h2, by rw [e, h3], h4, fun j h6 h7 => ?_⟩
        by_cases q : j = n - (i + 1)
        · rw [q]; exact hp'
        · exact h5 j (by omega) h7
theorem loF_loN {P : Nat → Bool} {n : Nat} (hn : n < 2 ^ 31) : loF P n n = loN P n := by
  rcases loF_spec (P := P) (n := n) n (Nat.le_refl _) with ⟨h1, h2⟩ | ⟨g, h1, h2, h3, h4, h5⟩
  · rw [h1, loN_no n (fun j hj => h2 j (by omega) hj)]
  · rw [h3, loN_at h4 (fun j hj => h5 j (by omega) hj) n h2 hn]
theorem gDn {n i : Nat} (h : i < n) : nI (n - i) - 1 = nI (n - (i + 1)) := by
  rw [show (1 : Int32) = nI 1 from rfl, pk_sub (by omega), show n - i - 1 = n - (i + 1) by omega]
theorem gM1 (x : Int32) : x + Int32.ofInt (-1) = x - 1 := by
  rw [Int32.sub_eq_add_neg]
  rfl
set_option maxRecDepth 100000 in
set_option maxHeartbeats 4000000 in
theorem z_Mod_twin {l : Launch} {D : va_G} {ty : Nat → ClassId} {tt : Nat} {b : Nat → Nat} {B : Nat → Nat → Bool} {N : Nat → Nat} {E : Nat → Nat → Int32} {J : Nat → Int32} {ph : Bool} {V : Nat → Int64} {rd : Int64} {rest : va_W} (I : mI E) (hN : mN N) {x : Int32} {a : Nat} (hx : x = nI a) (ha : a < 20) : Cd l y_Mod_twin c_Mod_twin 4 (some .int) 2 D ty tt [.ref (b 0), .int x] (mdW b ty B N E J ph V rd rest) (some (.int (m_twin N E a))) (mdW b ty B N E J ph V rd rest) := by
  obtain ⟨n0, n1, n2, n3, n4, n5⟩ := id hN
  subst hx
  refine Ct_of (by decide) (gle rfl) (fun p e s m args below meth c K hr hlk hin => ?_)
  refine gx_iconst (v := -1) K d_Mod_twin_0 rfl ?_
  refine gx_istore_n K d_Mod_twin_1 rfl (gle rfl) rfl ?_
  refine gx_aload_n K d_Mod_twin_2 rfl rfl ?_
  refine gx_get K f_Mod_165 (q0 := 0) rfl rfl d_Mod_twin_3 ?_
  refine gx_iconst (v := 1) K d_Mod_twin_6 rfl ?_
  refine gx_isub K d_Mod_twin_7 ?_
  refine gx_istore_n K d_Mod_twin_8 rfl (gle rfl) rfl ?_
  refine gx_loop [true, true, true, true] (N 5) (fun i => (mdW b ty B N E J ph V rd rest)) (fun i => [some (.ref (b 0)), some (.int (nI a)), some (.int (loF (fun d => m_twins E a d) (N 5) i)), some (.int (nI (N 5 - i) - 1))]) rfl rfl (fun i hi ihi => ?_) ?_
  · skip
    rw [gDn hi]
    refine gx_iload_n K d_Mod_twin_9 rfl rfl ?_
    refine gx_if_ltF K d_Mod_twin_10 rfl (nI_pos (by omega)) ?_
    refine gx_cutI (X := loF (fun d => m_twins E a d) (N 5) (i + 1)) 27 ?_ (fun j27 => ?_)
    · skip
      refine gx_istore_n K d_Mod_twin_27 rfl (gle rfl) rfl ?_
      refine gx_iinc (v := nI (N 5 - (i + 1)) - 1) K d_Mod_twin_28 rfl (gM1 _) (gle rfl) rfl ?_
      refine gx_goto K d_Mod_twin_31 rfl ?_
      exact gx_back [true, true, true, true] rfl rfl ihi
    · skip
      refine gx_aload_n K d_Mod_twin_13 rfl rfl ?_
      refine gx_iload_n K d_Mod_twin_14 rfl rfl ?_
      refine gx_iload_n K d_Mod_twin_15 rfl rfl ?_
      refine gx_Vd K (z_Mod_twins I hN rfl (by omega) rfl (by omega)) Y_Mod_twins (ci := 12) rfl (q0 := 0) rfl k975 ks67 k973 rfl ⟨gle rfl, gle rfl⟩ ⟨gle rfl, gle rfl⟩ (gle rfl) d_Mod_twin_16 ?_
      refine gx_if_eqB K d_Mod_twin_19 rfl (fun h19 => ?_) (fun h19 => ?_)
      · skip
        refine gx_iload_n K d_Mod_twin_26 rfl rfl ?_
        exact j27 _ (by simp [loF, h19])
      · skip
        refine gx_iload_n K d_Mod_twin_22 rfl rfl ?_
        refine gx_goto K d_Mod_twin_23 rfl ?_
        exact j27 _ (by simp [loF, h19])
  · skip
    refine gx_iload_n K d_Mod_twin_9 rfl rfl ?_
    refine gx_if_ltT K d_Mod_twin_10 rfl (by rw [Nat.sub_self]; decide) ?_
    refine gx_iload_n K d_Mod_twin_34 rfl rfl ?_
    exact gx_iret K hr hlk d_Mod_twin_35 ⟨gRi (loF_loN (by omega)), rfl⟩

set_option maxRecDepth 100000 in
set_option maxHeartbeats 4000000 in
theorem z_Mod_single {l : Launch} {D : va_G} {ty : Nat → ClassId} {tt : Nat} {b : Nat → Nat} {B : Nat → Nat → Bool} {N : Nat → Nat} {E : Nat → Nat → Int32} {J : Nat → Int32} {ph : Bool} {V : Nat → Int64} {rd : Int64} {rest : va_W} (I : mI E) (hN : mN N) {x : Int32} {a : Nat} (hx : x = nI a) (ha : a < 20) : Cd l y_Mod_single c_Mod_single 2 (some .boolean) 3 D ty tt [.ref (b 0), .int x] (mdW b ty B N E J ph V rd rest) (some (.int (b2i (m_single B N E a)))) (mdW b ty B N E J ph V rd rest) := by
  obtain ⟨n0, n1, n2, n3, n4, n5⟩ := id hN
  subst hx
  refine Ct_of (by decide) (gle rfl) (fun p e s m args below meth c K hr hlk hin => ?_)
  refine gx_aload_n K d_Mod_single_0 rfl rfl ?_
  refine gx_get K f_Mod_23 (q0 := 0) rfl rfl d_Mod_single_1 ?_
  refine gx_aload_n K d_Mod_single_4 rfl rfl ?_
  refine gx_get K f_Mod_80 (q0 := 0) rfl rfl d_Mod_single_5 ?_
  refine gx_iload_n K d_Mod_single_8 rfl rfl ?_
  refine gx_iald K (q0 := 24) rfl rfl (by omega) (by decide) d_Mod_single_9 ?_
  refine gx_iald K (q0 := 5) rfl (I.2.2.2.2.1 (a)).1 (I.2.2.2.2.1 (a)).2 (by decide) d_Mod_single_10 ?_
  refine gx_if_eq K d_Mod_single_11 rfl (fun h11 => ?_) (fun h11 => ?_)
  · skip
    refine gx_iconst (v := b2i false) K d_Mod_single_34 rfl ?_
    exact gx_zret K hr hlk d_Mod_single_35 ⟨gRb (by simp [m_single, m_text, h11]), rfl⟩
  · skip
    refine gx_aload_n K d_Mod_single_14 rfl rfl ?_
    refine gx_iload_n K d_Mod_single_15 rfl rfl ?_
    refine gx_Vd K (z_Mod_fault I hN rfl (by omega)) Y_Mod_fault (ci := 12) rfl (q0 := 0) rfl k967 ks65 k965 rfl ⟨gle rfl, gle rfl⟩ ⟨gle rfl, gle rfl⟩ (gle rfl) d_Mod_single_16 ?_
    refine gx_if_ne K d_Mod_single_19 rfl (fun h19 => ?_) (fun h19 => ?_)
    · skip
      refine gx_iconst (v := b2i false) K d_Mod_single_34 rfl ?_
      exact gx_zret K hr hlk d_Mod_single_35 ⟨gRb (by simp [m_single, m_text, h11, h19]), rfl⟩
    · skip
      refine gx_aload_n K d_Mod_single_22 rfl rfl ?_
      refine gx_iload_n K d_Mod_single_23 rfl rfl ?_
      refine gx_Vd K (z_Mod_twin I hN rfl (by omega)) Y_Mod_twin (ci := 12) rfl (q0 := 0) rfl k971 ks66 k969 rfl ⟨gle rfl, gle rfl⟩ ⟨gle rfl, gle rfl⟩ (gle rfl) d_Mod_single_24 ?_
      refine gx_if_ge K d_Mod_single_27 rfl (fun h27 => ?_) (fun h27 => ?_)
      · skip
        refine gx_iconst (v := b2i false) K d_Mod_single_34 rfl ?_
        exact gx_zret K hr hlk d_Mod_single_35 ⟨gRb (by simp [m_single, m_text, h11, h19, h27, Int32.not_lt.mpr h27]), rfl⟩
      · skip
        refine gx_iconst (v := b2i true) K d_Mod_single_30 rfl ?_
        refine gx_goto K d_Mod_single_31 rfl ?_
        exact gx_zret K hr hlk d_Mod_single_35 ⟨gRb (by simp [m_single, m_text, h11, h19, h27, Int32.not_le.mp h27]), rfl⟩

set_option maxRecDepth 100000 in
set_option maxHeartbeats 4000000 in
theorem z_Mod_part {l : Launch} {D : va_G} {ty : Nat → ClassId} {tt : Nat} {b : Nat → Nat} {B : Nat → Nat → Bool} {N : Nat → Nat} {E : Nat → Nat → Int32} {J : Nat → Int32} {ph : Bool} {V : Nat → Int64} {rd : Int64} {rest : va_W} (I : mI E) (hN : mN N) {r : Int32} {xf xa xg : Int32} {f a g : Nat} (hxf : xf = nI f) (hf : f < 20) (hxa : xa = nI a) (ha : a < 32) (hxg : xg = nI g) (hg : g < 20) : Cd l y_Mod_part c_Mod_part 6 (some .boolean) 4 D ty tt [.ref (b 0), .int r, .int xf, .int xa, .int xg] (mdW b ty B N E J ph V rd rest) (some (.int (b2i (m_part B N E r f a g)))) (mdW b ty B N E J ph V rd rest) := by
  obtain ⟨n0, n1, n2, n3, n4, n5⟩ := id hN
  subst hxf
  subst hxa
  subst hxg
  refine Ct_of (by decide) (gle rfl) (fun p e s m args below meth c K hr hlk hin => ?_)
  refine gx_cut (X := decide (E 6 a = 0) && (decide (E 5 a = r) && (decide (E 7 a = E 19 f) && decide (E 8 a = E 19 g)))) 55 ?_ (fun j55 => ?_)
  · skip
    refine gx_istore K d_Mod_part_55 (gle rfl) rfl ?_
    refine gx_iload K d_Mod_part_57 rfl ?_
    refine gx_if_eqB K d_Mod_part_59 rfl (fun h59 => ?_) (fun h59 => ?_)
    · skip
      refine gx_iconst (v := b2i false) K d_Mod_part_123 rfl ?_
      exact gx_zret K hr hlk d_Mod_part_124 ⟨gRb (by simp [m_part, h59]), rfl⟩
    · skip
      refine gx_aload_n K d_Mod_part_62 rfl rfl ?_
      refine gx_aload_n K d_Mod_part_63 rfl rfl ?_
      refine gx_get K f_Mod_83 (q0 := 0) rfl rfl d_Mod_part_64 ?_
      refine gx_iload_n K d_Mod_part_67 rfl rfl ?_
      refine gx_iald K (q0 := 25) rfl rfl (by omega) (by decide) d_Mod_part_68 ?_
      refine gx_aload_n K d_Mod_part_69 rfl rfl ?_
      refine gx_get K f_Mod_83 (q0 := 0) rfl rfl d_Mod_part_70 ?_
      refine gx_iload K d_Mod_part_73 rfl ?_
      refine gx_iald K (q0 := 25) rfl rfl (by omega) (by decide) d_Mod_part_75 ?_
      refine gx_Vd K (z_Mod_equalContexts I hN (I.2.2.2.2.2.1 (f)).1 (I.2.2.2.2.2.1 (f)).2 (I.2.2.2.2.2.1 (g)).1 (I.2.2.2.2.2.1 (g)).2) Y_Mod_equalContexts (ci := 12) rfl (q0 := 0) rfl k860 ks52 k858 rfl ⟨gle rfl, gle rfl⟩ ⟨gle rfl, gle rfl⟩ (gle rfl) d_Mod_part_76 ?_
      refine gx_if_eqB K d_Mod_part_79 rfl (fun h79 => ?_) (fun h79 => ?_)
      · skip
        refine gx_iconst (v := b2i false) K d_Mod_part_123 rfl ?_
        exact gx_zret K hr hlk d_Mod_part_124 ⟨gRb (by simp [m_part, h59, h79]), rfl⟩
      · skip
        refine gx_aload_n K d_Mod_part_82 rfl rfl ?_
        refine gx_aload_n K d_Mod_part_83 rfl rfl ?_
        refine gx_get K f_Mod_86 (q0 := 0) rfl rfl d_Mod_part_84 ?_
        refine gx_iload_n K d_Mod_part_87 rfl rfl ?_
        refine gx_iald K (q0 := 26) rfl rfl (by omega) (by decide) d_Mod_part_88 ?_
        refine gx_aload_n K d_Mod_part_89 rfl rfl ?_
        refine gx_get K f_Mod_86 (q0 := 0) rfl rfl d_Mod_part_90 ?_
        refine gx_iload K d_Mod_part_93 rfl ?_
        refine gx_iald K (q0 := 26) rfl rfl (by omega) (by decide) d_Mod_part_95 ?_
        refine gx_Vd K (z_Mod_equalUnits I hN (I.2.2.2.2.2.2 (f)) (I.2.2.2.2.2.2 (g))) Y_Mod_equalUnits (ci := 12) rfl (q0 := 0) rfl k872 ks53 k870 rfl ⟨gle rfl, gle rfl⟩ ⟨gle rfl, gle rfl⟩ (gle rfl) d_Mod_part_96 ?_
        refine gx_if_eqB K d_Mod_part_99 rfl (fun h99 => ?_) (fun h99 => ?_)
        · skip
          refine gx_iconst (v := b2i false) K d_Mod_part_123 rfl ?_
          exact gx_zret K hr hlk d_Mod_part_124 ⟨gRb (by simp [m_part, h59, h79, h99]), rfl⟩
        · skip
          refine gx_aload_n K d_Mod_part_102 rfl rfl ?_
          refine gx_iload_n K d_Mod_part_103 rfl rfl ?_
          refine gx_Vd K (z_Mod_isLeft I hN rfl (by omega)) Y_Mod_isLeft (ci := 12) rfl (q0 := 0) rfl k888 ks54 k886 rfl ⟨gle rfl, gle rfl⟩ ⟨gle rfl, gle rfl⟩ (gle rfl) d_Mod_part_104 ?_
          refine gx_if_eqB K d_Mod_part_107 rfl (fun h107 => ?_) (fun h107 => ?_)
          · skip
            refine gx_iconst (v := b2i false) K d_Mod_part_123 rfl ?_
            exact gx_zret K hr hlk d_Mod_part_124 ⟨gRb (by simp [m_part, h59, h79, h99, h107]), rfl⟩
          · skip
            refine gx_aload_n K d_Mod_part_110 rfl rfl ?_
            refine gx_iload K d_Mod_part_111 rfl ?_
            refine gx_Vd K (z_Mod_single I hN rfl (by omega)) Y_Mod_single (ci := 12) rfl (q0 := 0) rfl k963 ks64 k961 rfl ⟨gle rfl, gle rfl⟩ ⟨gle rfl, gle rfl⟩ (gle rfl) d_Mod_part_113 ?_
            refine gx_if_eqB K d_Mod_part_116 rfl (fun h116 => ?_) (fun h116 => ?_)
            · skip
              refine gx_iconst (v := b2i false) K d_Mod_part_123 rfl ?_
              exact gx_zret K hr hlk d_Mod_part_124 ⟨gRb (by simp [m_part, h59, h79, h99, h107, h116]), rfl⟩
            · skip
              refine gx_iconst (v := b2i true) K d_Mod_part_119 rfl ?_
              refine gx_goto K d_Mod_part_120 rfl ?_
              exact gx_zret K hr hlk d_Mod_part_124 ⟨gRb (by simp [m_part, h59, h79, h99, h107, h116]), rfl⟩
  · skip
    refine gx_aload_n K d_Mod_part_0 rfl rfl ?_
    refine gx_get K f_Mod_38 (q0 := 0) rfl rfl d_Mod_part_1 ?_
    refine gx_iload_n K d_Mod_part_4 rfl rfl ?_
    refine gx_iald K (q0 := 10) rfl rfl (by omega) (by decide) d_Mod_part_5 ?_
    refine gx_if_ne K d_Mod_part_6 rfl (fun h6 => ?_) (fun h6 => ?_)
    · skip
      refine gx_iconst (v := b2i false) K d_Mod_part_54 rfl ?_
      exact j55 _ (by simp [h6])
    · skip
      refine gx_aload_n K d_Mod_part_9 rfl rfl ?_
      refine gx_get K f_Mod_35 (q0 := 0) rfl rfl d_Mod_part_10 ?_
      refine gx_iload_n K d_Mod_part_13 rfl rfl ?_
      refine gx_iald K (q0 := 9) rfl rfl (by omega) (by decide) d_Mod_part_14 ?_
      refine gx_iload_n K d_Mod_part_15 rfl rfl ?_
      refine gx_icmp_ne K d_Mod_part_16 rfl (fun h16 => ?_) (fun h16 => ?_)
      · skip
        refine gx_iconst (v := b2i false) K d_Mod_part_54 rfl ?_
        exact j55 _ (by simp [h6, h16])
      · skip
        refine gx_aload_n K d_Mod_part_19 rfl rfl ?_
        refine gx_get K f_Mod_41 (q0 := 0) rfl rfl d_Mod_part_20 ?_
        refine gx_iload_n K d_Mod_part_23 rfl rfl ?_
        refine gx_iald K (q0 := 11) rfl rfl (by omega) (by decide) d_Mod_part_24 ?_
        refine gx_aload_n K d_Mod_part_25 rfl rfl ?_
        refine gx_get K f_Mod_80 (q0 := 0) rfl rfl d_Mod_part_26 ?_
        refine gx_iload_n K d_Mod_part_29 rfl rfl ?_
        refine gx_iald K (q0 := 24) rfl rfl (by omega) (by decide) d_Mod_part_30 ?_
        refine gx_icmp_ne K d_Mod_part_31 rfl (fun h31 => ?_) (fun h31 => ?_)
        · skip
          refine gx_iconst (v := b2i false) K d_Mod_part_54 rfl ?_
          exact j55 _ (by simp [h6, h16, h31])
        · skip
          refine gx_aload_n K d_Mod_part_34 rfl rfl ?_
          refine gx_get K f_Mod_44 (q0 := 0) rfl rfl d_Mod_part_35 ?_
          refine gx_iload_n K d_Mod_part_38 rfl rfl ?_
          refine gx_iald K (q0 := 12) rfl rfl (by omega) (by decide) d_Mod_part_39 ?_
          refine gx_aload_n K d_Mod_part_40 rfl rfl ?_
          refine gx_get K f_Mod_80 (q0 := 0) rfl rfl d_Mod_part_41 ?_
          refine gx_iload K d_Mod_part_44 rfl ?_
          refine gx_iald K (q0 := 24) rfl rfl (by omega) (by decide) d_Mod_part_46 ?_
          refine gx_icmp_ne K d_Mod_part_47 rfl (fun h47 => ?_) (fun h47 => ?_)
          · skip
            refine gx_iconst (v := b2i false) K d_Mod_part_54 rfl ?_
            exact j55 _ (by simp [h6, h16, h31, h47])
          · skip
            refine gx_iconst (v := b2i true) K d_Mod_part_50 rfl ?_
            refine gx_goto K d_Mod_part_51 rfl ?_
            exact j55 _ (by simp [h6, h16, h31, h47])

set_option maxRecDepth 100000 in
set_option maxHeartbeats 4000000 in
theorem z_Mod_wrongSign {l : Launch} {D : va_G} {ty : Nat → ClassId} {tt : Nat} {b : Nat → Nat} {B : Nat → Nat → Bool} {N : Nat → Nat} {E : Nat → Nat → Int32} {J : Nat → Int32} {ph : Bool} {V : Nat → Int64} {rd : Int64} {rest : va_W} (I : mI E) (hN : mN N) {x : Int32} {a : Nat} (hx : x = nI a) (ha : a < 32) : Cd l y_Mod_wrongSign c_Mod_wrongSign 4 (some .boolean) 3 D ty tt [.ref (b 0), .int x] (mdW b ty B N E J ph V rd rest) (some (.int (b2i (m_wrong B N E a)))) (mdW b ty B N E J ph V rd rest) := by
  obtain ⟨n0, n1, n2, n3, n4, n5⟩ := id hN
  subst hx
  refine Ct_of (by decide) (gle rfl) (fun p e s m args below meth c K hr hlk hin => ?_)
  refine gx_aload_n K d_Mod_wrongSign_0 rfl rfl ?_
  refine gx_get K f_Mod_26 (q0 := 0) rfl rfl d_Mod_wrongSign_1 ?_
  refine gx_aload_n K d_Mod_wrongSign_4 rfl rfl ?_
  refine gx_get K f_Mod_41 (q0 := 0) rfl rfl d_Mod_wrongSign_5 ?_
  refine gx_iload_n K d_Mod_wrongSign_8 rfl rfl ?_
  refine gx_iald K (q0 := 11) rfl rfl (by omega) (by decide) d_Mod_wrongSign_9 ?_
  refine gx_iald K (q0 := 6) rfl (I.2.2.1 (a)).1 (I.2.2.1 (a)).2 (by decide) d_Mod_wrongSign_10 ?_
  refine gx_istore_n K d_Mod_wrongSign_11 rfl (gle rfl) rfl ?_
  refine gx_aload_n K d_Mod_wrongSign_12 rfl rfl ?_
  refine gx_get K f_Mod_26 (q0 := 0) rfl rfl d_Mod_wrongSign_13 ?_
  refine gx_aload_n K d_Mod_wrongSign_16 rfl rfl ?_
  refine gx_get K f_Mod_44 (q0 := 0) rfl rfl d_Mod_wrongSign_17 ?_
  refine gx_iload_n K d_Mod_wrongSign_20 rfl rfl ?_
  refine gx_iald K (q0 := 12) rfl rfl (by omega) (by decide) d_Mod_wrongSign_21 ?_
  refine gx_iald K (q0 := 6) rfl (I.2.2.2.1 (a)).1 (I.2.2.2.1 (a)).2 (by decide) d_Mod_wrongSign_22 ?_
  refine gx_istore_n K d_Mod_wrongSign_23 rfl (gle rfl) rfl ?_
  refine gx_aload_n K d_Mod_wrongSign_24 rfl rfl ?_
  refine gx_get K f_Mod_38 (q0 := 0) rfl rfl d_Mod_wrongSign_25 ?_
  refine gx_iload_n K d_Mod_wrongSign_28 rfl rfl ?_
  refine gx_iald K (q0 := 10) rfl rfl (by omega) (by decide) d_Mod_wrongSign_29 ?_
  refine gx_if_ne K d_Mod_wrongSign_30 rfl (fun h30 => ?_) (fun h30 => ?_)
  · skip
    refine gx_iconst (v := b2i false) K d_Mod_wrongSign_80 rfl ?_
    exact gx_zret K hr hlk d_Mod_wrongSign_81 ⟨gRb (by simp [m_wrong, h30] <;> simp_all), rfl⟩
  · skip
    refine gx_aload_n K d_Mod_wrongSign_33 rfl rfl ?_
    refine gx_iload_n K d_Mod_wrongSign_34 rfl rfl ?_
    refine gx_Vd K (z_Mod_isLeft I hN rfl (by omega)) Y_Mod_isLeft (ci := 12) rfl (q0 := 0) rfl k888 ks54 k886 rfl ⟨gle rfl, gle rfl⟩ ⟨gle rfl, gle rfl⟩ (gle rfl) d_Mod_wrongSign_35 ?_
    refine gx_if_eqB K d_Mod_wrongSign_38 rfl (fun h38 => ?_) (fun h38 => ?_)
    · skip
      refine gx_iconst (v := b2i false) K d_Mod_wrongSign_80 rfl ?_
      exact gx_zret K hr hlk d_Mod_wrongSign_81 ⟨gRb (by simp [m_wrong, h30, h38] <;> simp_all), rfl⟩
    · skip
      refine gx_iload_n K d_Mod_wrongSign_41 rfl rfl ?_
      refine gx_if_eq K d_Mod_wrongSign_42 rfl (fun h42 => ?_) (fun h42 => ?_)
      · skip
        refine gx_iconst (v := b2i false) K d_Mod_wrongSign_80 rfl ?_
        exact gx_zret K hr hlk d_Mod_wrongSign_81 ⟨gRb (by simp [m_wrong, h30, h38, h42] <;> simp_all), rfl⟩
      · skip
        refine gx_iload_n K d_Mod_wrongSign_45 rfl rfl ?_
        refine gx_if_eq K d_Mod_wrongSign_46 rfl (fun h46 => ?_) (fun h46 => ?_)
        · skip
          refine gx_iconst (v := b2i false) K d_Mod_wrongSign_80 rfl ?_
          exact gx_zret K hr hlk d_Mod_wrongSign_81 ⟨gRb (by simp [m_wrong, h30, h38, h42, h46] <;> simp_all), rfl⟩
        · skip
          refine gx_cut (X := decide (E 2 (ix (E 7 a)) = E 2 (ix (E 8 a)))) 59 ?_ (fun j59 => ?_)
          · skip
            refine gx_aload_n K d_Mod_wrongSign_59 rfl rfl ?_
            refine gx_get K f_Mod_47 (q0 := 0) rfl rfl d_Mod_wrongSign_60 ?_
            refine gx_iload_n K d_Mod_wrongSign_63 rfl rfl ?_
            refine gx_iald K (q0 := 13) rfl rfl (by omega) (by decide) d_Mod_wrongSign_64 ?_
            refine gx_if_ge K d_Mod_wrongSign_65 rfl (fun h65 => ?_) (fun h65 => ?_)
            · skip
              refine gx_iconst (v := b2i false) K d_Mod_wrongSign_72 rfl ?_
              refine gx_icmp_neB K d_Mod_wrongSign_73 rfl (fun h73 => ?_) (fun h73 => ?_)
              · skip
                refine gx_iconst (v := b2i false) K d_Mod_wrongSign_80 rfl ?_
                exact gx_zret K hr hlk d_Mod_wrongSign_81 ⟨gRb (by simp [m_wrong, h30, h38, h42, h46, h65, Int32.not_lt.mpr h65, h73] <;> simp_all), rfl⟩
              · skip
                refine gx_iconst (v := b2i true) K d_Mod_wrongSign_76 rfl ?_
                refine gx_goto K d_Mod_wrongSign_77 rfl ?_
                exact gx_zret K hr hlk d_Mod_wrongSign_81 ⟨gRb (by simp [m_wrong, h30, h38, h42, h46, h65, Int32.not_lt.mpr h65, h73] <;> simp_all), rfl⟩
            · skip
              refine gx_iconst (v := b2i true) K d_Mod_wrongSign_68 rfl ?_
              refine gx_goto K d_Mod_wrongSign_69 rfl ?_
              refine gx_icmp_neB K d_Mod_wrongSign_73 rfl (fun h73 => ?_) (fun h73 => ?_)
              · skip
                refine gx_iconst (v := b2i false) K d_Mod_wrongSign_80 rfl ?_
                exact gx_zret K hr hlk d_Mod_wrongSign_81 ⟨gRb (by simp [m_wrong, h30, h38, h42, h46, h65, Int32.not_le.mp h65, h73] <;> simp_all), rfl⟩
              · skip
                refine gx_iconst (v := b2i true) K d_Mod_wrongSign_76 rfl ?_
                refine gx_goto K d_Mod_wrongSign_77 rfl ?_
                exact gx_zret K hr hlk d_Mod_wrongSign_81 ⟨gRb (by simp [m_wrong, h30, h38, h42, h46, h65, Int32.not_le.mp h65, h73] <;> simp_all), rfl⟩
          · skip
            refine gx_iload_n K d_Mod_wrongSign_49 rfl rfl ?_
            refine gx_iload_n K d_Mod_wrongSign_50 rfl rfl ?_
            refine gx_icmp_ne K d_Mod_wrongSign_51 rfl (fun h51 => ?_) (fun h51 => ?_)
            · skip
              refine gx_iconst (v := b2i false) K d_Mod_wrongSign_58 rfl ?_
              exact j59 _ (by simp [h30, h38, h42, h46, h51])
            · skip
              refine gx_iconst (v := b2i true) K d_Mod_wrongSign_54 rfl ?_
              refine gx_goto K d_Mod_wrongSign_55 rfl ?_
              exact j59 _ (by simp [h30, h38, h42, h46, h51])

set_option maxRecDepth 100000 in
set_option maxHeartbeats 4000000 in
theorem z_Mod_bound {l : Launch} {D : va_G} {ty : Nat → ClassId} {tt : Nat} {b : Nat → Nat} {B : Nat → Nat → Bool} {N : Nat → Nat} {E : Nat → Nat → Int32} {J : Nat → Int32} {ph : Bool} {V : Nat → Int64} {rd : Int64} {rest : va_W} (I : mI E) (hN : mN N) {r : Int32} {xf : Int32} {f : Nat} (hxf : xf = nI f) (hf : f < 20) : Cd l y_Mod_bound c_Mod_bound 5 (some .boolean) 5 D ty tt [.ref (b 0), .int r, .int xf] (mdW b ty B N E J ph V rd rest) (some (.int (b2i (m_bound B N E r f)))) (mdW b ty B N E J ph V rd rest) := by
  obtain ⟨n0, n1, n2, n3, n4, n5⟩ := id hN
  subst hxf
  refine Ct_of (by decide) (gle rfl) (fun p e s m args below meth c K hr hlk hin => ?_)
  refine gx_iconst (v := 0) K d_Mod_bound_0 rfl ?_
  refine gx_istore_n K d_Mod_bound_1 rfl (gle rfl) rfl ?_
  refine gx_iconst (v := 0) K d_Mod_bound_2 rfl ?_
  refine gx_istore K d_Mod_bound_3 (gle rfl) rfl ?_
  refine gx_loop [true, true, true, true, true] (32 * N 5) (fun i => (mdW b ty B N E J ph V rd rest)) (fun i => [some (.ref (b 0)), some (.int r), some (.int (nI f)), some (.int (b2i (anyB (fun k => m_is B N E r f k) i))), some (.int (nI i))]) rfl rfl (fun i hi ihi => ?_) ?_
  · skip
    refine gx_iload K d_Mod_bound_5 rfl ?_
    refine gx_bipush (v := 32) K d_Mod_bound_7 rfl ?_
    refine gx_aload_n K d_Mod_bound_9 rfl rfl ?_
    refine gx_get K f_Mod_165 (q0 := 0) rfl rfl d_Mod_bound_10 ?_
    refine gx_imulN K (32) (N 5) d_Mod_bound_13 ?_
    refine gx_icmp_geF K d_Mod_bound_14 rfl (nI_ge hi (by omega)) ?_
    refine gx_cut (X := anyB (fun k => m_is B N E r f k) i || (decide (i % 32 < N 1) && m_part B N E r f (i % 32) (i / 32))) 57 ?_ (fun j57 => ?_)
    · skip
      refine gx_istore_n K d_Mod_bound_57 rfl (gle rfl) rfl ?_
      refine gx_iinc (v := nI (i + 1)) K d_Mod_bound_58 rfl (nI_add _ _) (gle rfl) rfl ?_
      refine gx_goto K d_Mod_bound_61 rfl ?_
      exact gx_back [true, true, true, true, true] rfl rfl ihi
    · skip
      refine gx_iload_n K d_Mod_bound_17 rfl rfl ?_
      refine gx_if_neB K d_Mod_bound_18 rfl (fun h18 => ?_) (fun h18 => ?_)
      · skip
        refine gx_iconst (v := b2i true) K d_Mod_bound_52 rfl ?_
        refine gx_goto K d_Mod_bound_53 rfl ?_
        exact j57 _ (by simp [h18])
      · skip
        refine gx_iload K d_Mod_bound_21 rfl ?_
        refine gx_bipush (v := 32) K d_Mod_bound_23 rfl ?_
        refine gx_iremN K (i) (32) (by omega) (by omega) (by omega) d_Mod_bound_25 ?_
        refine gx_aload_n K d_Mod_bound_26 rfl rfl ?_
        refine gx_get K f_Mod_136 (q0 := 0) rfl rfl d_Mod_bound_27 ?_
        refine gx_icmp_ge K d_Mod_bound_30 rfl (fun h30 => ?_) (fun h30 => ?_)
        · skip
          have h30n : N 1 ≤ (i % 32) := (nI_leI (a := N 1) (b := (i % 32)) (by omega) (by omega)).mp h30
          refine gx_iconst (v := b2i false) K d_Mod_bound_56 rfl ?_
          exact j57 _ (by simp [h18, h30, h30n, Nat.not_lt.mpr h30n, Int32.not_lt.mpr h30])
        · skip
          have h30n : ¬ N 1 ≤ (i % 32) := fun q => h30 ((nI_leI (a := N 1) (b := (i % 32)) (by omega) (by omega)).mpr q)
          refine gx_aload_n K d_Mod_bound_33 rfl rfl ?_
          refine gx_iload_n K d_Mod_bound_34 rfl rfl ?_
          refine gx_iload_n K d_Mod_bound_35 rfl rfl ?_
          refine gx_iload K d_Mod_bound_36 rfl ?_
          refine gx_bipush (v := 32) K d_Mod_bound_38 rfl ?_
          refine gx_iremN K (i) (32) (by omega) (by omega) (by omega) d_Mod_bound_40 ?_
          refine gx_iload K d_Mod_bound_41 rfl ?_
          refine gx_bipush (v := 32) K d_Mod_bound_43 rfl ?_
          refine gx_idivN K (i) (32) (by omega) (by omega) (by omega) d_Mod_bound_45 ?_
          refine gx_Vd K (z_Mod_part I hN rfl (by omega) rfl (by omega) rfl (by omega)) Y_Mod_part (ci := 12) rfl (q0 := 0) rfl k959 ks63 k957 rfl ⟨gle rfl, gle rfl⟩ ⟨gle rfl, gle rfl⟩ (gle rfl) d_Mod_bound_46 ?_
          refine gx_if_eqB K d_Mod_bound_49 rfl (fun h49 => ?_) (fun h49 => ?_)
          · skip
            refine gx_iconst (v := b2i false) K d_Mod_bound_56 rfl ?_
            exact j57 _ (by simp [h18, h30, h30n, Nat.not_le.mp h30n, Int32.not_le.mp h30, h49])
          · skip
            refine gx_iconst (v := b2i true) K d_Mod_bound_52 rfl ?_
            refine gx_goto K d_Mod_bound_53 rfl ?_
            exact j57 _ (by simp [h18, h30, h30n, Nat.not_le.mp h30n, Int32.not_le.mp h30, h49])
  · skip
    refine gx_iload K d_Mod_bound_5 rfl ?_
    refine gx_bipush (v := 32) K d_Mod_bound_7 rfl ?_
    refine gx_aload_n K d_Mod_bound_9 rfl rfl ?_
    refine gx_get K f_Mod_165 (q0 := 0) rfl rfl d_Mod_bound_10 ?_
    refine gx_imulN K (32) (N 5) d_Mod_bound_13 ?_
    refine gx_icmp_geT K d_Mod_bound_14 rfl (Int32.le_refl _) ?_
    refine gx_iload_n K d_Mod_bound_64 rfl rfl ?_
    refine gx_if_eqB K d_Mod_bound_65 rfl (fun h65 => ?_) (fun h65 => ?_)
    · skip
      refine gx_iconst (v := b2i false) K d_Mod_bound_80 rfl ?_
      exact gx_zret K hr hlk d_Mod_bound_81 ⟨gRb (by simp [m_bound, h65]), rfl⟩
    · skip
      refine gx_aload_n K d_Mod_bound_68 rfl rfl ?_
      refine gx_iload_n K d_Mod_bound_69 rfl rfl ?_
      refine gx_Vd K (z_Mod_single I hN rfl (by omega)) Y_Mod_single (ci := 12) rfl (q0 := 0) rfl k963 ks64 k961 rfl ⟨gle rfl, gle rfl⟩ ⟨gle rfl, gle rfl⟩ (gle rfl) d_Mod_bound_70 ?_
      refine gx_if_eqB K d_Mod_bound_73 rfl (fun h73 => ?_) (fun h73 => ?_)
      · skip
        refine gx_iconst (v := b2i false) K d_Mod_bound_80 rfl ?_
        exact gx_zret K hr hlk d_Mod_bound_81 ⟨gRb (by simp [m_bound, h65, h73]), rfl⟩
      · skip
        refine gx_iconst (v := b2i true) K d_Mod_bound_76 rfl ?_
        refine gx_goto K d_Mod_bound_77 rfl ?_
        exact gx_zret K hr hlk d_Mod_bound_81 ⟨gRb (by simp [m_bound, h65, h73]), rfl⟩

