theorem gTen (i : Nat) : (10 : Int64) * Int64.ofNat (10 ^ i) = Int64.ofNat (10 ^ (i + 1)) := by
  rw [Nat.pow_succ, Int64.ofNat_mul, Int64.mul_comm]
  rfl
set_option maxRecDepth 100000 in
set_option maxHeartbeats 4000000 in
theorem z_Mod_ten {l : Launch} {D : va_G} {ty : Nat → ClassId} {tt : Nat} (ws : va_W) {x : Int32} {q : Nat} (hx : x = nI q) (hq : q ≤ 16) : Cd l y_Mod_ten c_Mod_ten 4 (some .long) 0 D ty tt [.int x] ws (some (.long (Int64.ofNat (10 ^ q)))) ws := by
  subst hx
  refine Ct_of (by decide) (gle rfl) (fun p e s m args below meth c K hr hlk hin => ?_)
  refine gx_lconst (v := 1) K d_Mod_ten_0 rfl ?_
  refine gx_lstore_n K d_Mod_ten_1 rfl (gle rfl) rfl ?_
  refine gx_iconst (v := 0) K d_Mod_ten_2 rfl ?_
  refine gx_istore_n K d_Mod_ten_3 rfl (gle rfl) rfl ?_
  refine gx_loop [true, true, false, true] (q) (fun i => ws) (fun i => [some (.int (nI q)), some (.long (Int64.ofNat (10 ^ i))), none, some (.int (nI i))]) rfl rfl (fun i hi ihi => ?_) ?_
  · skip
    refine gx_iload_n K d_Mod_ten_4 rfl rfl ?_
    refine gx_iload_n K d_Mod_ten_5 rfl rfl ?_
    refine gx_icmp_geF K d_Mod_ten_6 rfl (nI_ge hi (by omega)) ?_
    refine gx_ldc2 K d_Mod_ten_9 k914 ?_
    refine gx_lload_n K d_Mod_ten_12 rfl rfl ?_
    refine gx_lmul K d_Mod_ten_13 ?_
    rw [gTen]
    refine gx_lstore_n K d_Mod_ten_14 rfl (gle rfl) rfl ?_
    refine gx_iinc (v := nI (i + 1)) K d_Mod_ten_15 rfl (nI_add _ _) (gle rfl) rfl ?_
    refine gx_goto K d_Mod_ten_18 rfl ?_
    exact gx_back [true, true, false, true] rfl rfl ihi
  · skip
    refine gx_iload_n K d_Mod_ten_4 rfl rfl ?_
    refine gx_iload_n K d_Mod_ten_5 rfl rfl ?_
    refine gx_icmp_geT K d_Mod_ten_6 rfl (Int32.le_refl _) ?_
    refine gx_lload_n K d_Mod_ten_21 rfl rfl ?_
    exact gx_lret K hr hlk d_Mod_ten_22 ⟨rfl, rfl⟩

set_option maxRecDepth 100000 in
set_option maxHeartbeats 4000000 in
theorem z_Mod_round {l : Launch} {D : va_G} {ty : Nat → ClassId} {tt : Nat} (ws : va_W) (x u : Int64) (hu0 : ¬ u = 0) : Cd l y_Mod_round c_Mod_round 9 (some .long) 0 D ty tt [.long x, .long u] ws (some (.long (r_m x u))) ws := by
  refine Ct_of (by decide) (gle rfl) (fun p e s m args below meth c K hr hlk hin => ?_)
  refine gx_lload_n K d_Mod_round_0 rfl rfl ?_
  refine gx_lload_n K d_Mod_round_1 rfl rfl ?_
  refine gx_ldiv K d_Mod_round_2 (hu0) ?_
  refine gx_lstore K d_Mod_round_3 (gle rfl) rfl ?_
  refine gx_cutL (X := r_q x u) 22 ?_ (fun j22 => ?_)
  · skip
    refine gx_lstore K d_Mod_round_22 (gle rfl) rfl ?_
    refine gx_lload_n K d_Mod_round_24 rfl rfl ?_
    refine gx_lload K d_Mod_round_25 rfl ?_
    refine gx_lload_n K d_Mod_round_27 rfl rfl ?_
    refine gx_lmul K d_Mod_round_28 ?_
    refine gx_lsub K d_Mod_round_29 ?_
    refine gx_lstore K d_Mod_round_30 (gle rfl) rfl ?_
    refine gx_cut (X := decide (u < 2 * (x - r_q x u * u) ∨ (2 * (x - r_q x u * u) = u ∧ ¬ r_q x u - r_q x u / 2 * 2 = 0))) 70 ?_ (fun j70 => ?_)
    · skip
      refine gx_istore K d_Mod_round_70 (gle rfl) rfl ?_
      refine gx_iload K d_Mod_round_72 rfl ?_
      refine gx_if_eqB K d_Mod_round_74 rfl (fun h74 => ?_) (fun h74 => ?_)
      · skip
        refine gx_lload K d_Mod_round_86 rfl ?_
        refine gx_lload_n K d_Mod_round_88 rfl rfl ?_
        refine gx_lmul K d_Mod_round_89 ?_
        exact gx_lret K hr hlk d_Mod_round_90 ⟨gRl (by unfold r_m; first | rw [if_pos (of_decide_eq_true h74)] | rw [if_neg (of_decide_eq_false h74)]), rfl⟩
      · skip
        refine gx_lload K d_Mod_round_77 rfl ?_
        refine gx_lconst (v := 1) K d_Mod_round_79 rfl ?_
        refine gx_ladd K d_Mod_round_80 ?_
        refine gx_lload_n K d_Mod_round_81 rfl rfl ?_
        refine gx_lmul K d_Mod_round_82 ?_
        refine gx_goto K d_Mod_round_83 rfl ?_
        exact gx_lret K hr hlk d_Mod_round_90 ⟨gRl (by unfold r_m; first | rw [if_pos (of_decide_eq_true h74)] | rw [if_neg (of_decide_eq_false h74)]), rfl⟩
    · skip
      refine gx_ldc2 K d_Mod_round_32 k948 ?_
      refine gx_lload K d_Mod_round_35 rfl ?_
      refine gx_lmul K d_Mod_round_37 ?_
      refine gx_lload_n K d_Mod_round_38 rfl rfl ?_
      refine gx_lcmp K d_Mod_round_39 ?_
      refine gx_ifl_gt K d_Mod_round_40 rfl (fun h40 => ?_) (fun h40 => ?_)
      · skip
        refine gx_iconst (v := b2i true) K d_Mod_round_65 rfl ?_
        refine gx_goto K d_Mod_round_66 rfl ?_
        exact j70 _ (by simp [h40, Int64.not_le.mpr h40])
      · skip
        refine gx_ldc2 K d_Mod_round_43 k948 ?_
        refine gx_lload K d_Mod_round_46 rfl ?_
        refine gx_lmul K d_Mod_round_48 ?_
        refine gx_lload_n K d_Mod_round_49 rfl rfl ?_
        refine gx_lcmp K d_Mod_round_50 ?_
        refine gx_ifl_ne K d_Mod_round_51 rfl (fun h51 => ?_) (fun h51 => ?_)
        · skip
          refine gx_iconst (v := b2i false) K d_Mod_round_69 rfl ?_
          exact j70 _ (by simp [h40, Int64.not_lt.mp h40, h51])
        · skip
          refine gx_lload K d_Mod_round_54 rfl ?_
          refine gx_ldc2 K d_Mod_round_56 k948 ?_
          refine gx_lrem K d_Mod_round_59 (by decide) ?_
          refine gx_lconst (v := 0) K d_Mod_round_60 rfl ?_
          refine gx_lcmp K d_Mod_round_61 ?_
          refine gx_ifl_eq K d_Mod_round_62 rfl (fun h62 => ?_) (fun h62 => ?_)
          · skip
            refine gx_iconst (v := b2i false) K d_Mod_round_69 rfl ?_
            exact j70 _ (by simp [h40, Int64.not_lt.mp h40, h51, h62])
          · skip
            refine gx_iconst (v := b2i true) K d_Mod_round_65 rfl ?_
            refine gx_goto K d_Mod_round_66 rfl ?_
            exact j70 _ (by simp [h40, Int64.not_lt.mp h40, h51, h62])
  · skip
    refine gx_lload_n K d_Mod_round_5 rfl rfl ?_
    refine gx_lload_n K d_Mod_round_6 rfl rfl ?_
    refine gx_lrem K d_Mod_round_7 (hu0) ?_
    refine gx_lconst (v := 0) K d_Mod_round_8 rfl ?_
    refine gx_lcmp K d_Mod_round_9 ?_
    refine gx_ifl_ge K d_Mod_round_10 rfl (fun h10 => ?_) (fun h10 => ?_)
    · skip
      refine gx_lload K d_Mod_round_20 rfl ?_
      exact j22 _ (by simp [r_q, h10, Int64.not_lt.mpr h10])
    · skip
      refine gx_lload K d_Mod_round_13 rfl ?_
      refine gx_lconst (v := 1) K d_Mod_round_15 rfl ?_
      refine gx_lsub K d_Mod_round_16 ?_
      refine gx_goto K d_Mod_round_17 rfl ?_
      exact j22 _ (by simp [r_q, h10, Int64.not_le.mp h10])

