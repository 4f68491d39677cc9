theorem gRb {a b : Bool} (h : a = b) : some (Value.int (b2i a)) = some (Value.int (b2i b)) := by rw [h]
theorem gRi {a b : Int32} (h : a = b) : some (Value.int a) = some (Value.int b) := by rw [h]
theorem gRl {a b : Int64} (h : a = b) : some (Value.long a) = some (Value.long b) := by rw [h]
set_option maxRecDepth 100000 in
set_option maxHeartbeats 4000000 in
theorem z_FB_within {l : Launch} {D : va_G} {ty : Nat → ClassId} {tt : Nat} (ws : va_W) (x lo hi : Int32) : Cd l y_FB_within c_FB_within 3 (some .boolean) 0 D ty tt [.int x, .int lo, .int hi] ws (some (.int (b2i (m_in x lo hi)))) ws := by
  refine Ct_of (by decide) (gle rfl) (fun p e s m args below meth c K hr hlk hin => ?_)
  refine gx_iload_n K d_FB_within_0 rfl rfl ?_
  refine gx_iload_n K d_FB_within_1 rfl rfl ?_
  refine gx_icmp_lt K d_FB_within_2 rfl (fun h2 => ?_) (fun h2 => ?_)
  · skip
    refine gx_iconst (v := b2i false) K d_FB_within_14 rfl ?_
    exact gx_zret K hr hlk d_FB_within_15 ⟨gRb (by simp [m_in, h2, Int32.not_le.mpr h2]), rfl⟩
  · skip
    refine gx_iload_n K d_FB_within_5 rfl rfl ?_
    refine gx_iload_n K d_FB_within_6 rfl rfl ?_
    refine gx_icmp_gt K d_FB_within_7 rfl (fun h7 => ?_) (fun h7 => ?_)
    · skip
      refine gx_iconst (v := b2i false) K d_FB_within_14 rfl ?_
      exact gx_zret K hr hlk d_FB_within_15 ⟨gRb (by simp [m_in, h2, Int32.not_lt.mp h2, h7, Int32.not_le.mpr h7]), rfl⟩
    · skip
      refine gx_iconst (v := b2i true) K d_FB_within_10 rfl ?_
      refine gx_goto K d_FB_within_11 rfl ?_
      exact gx_zret K hr hlk d_FB_within_15 ⟨gRb (by simp [m_in, h2, Int32.not_lt.mp h2, h7, Int32.not_lt.mp h7]), rfl⟩

set_option maxRecDepth 100000 in
set_option maxHeartbeats 4000000 in
theorem z_Mod_in {l : Launch} {D : va_G} {ty : Nat → ClassId} {tt : Nat} (ws : va_W) (x lo hi : Int32) : Cd l y_Mod_in c_Mod_in 3 (some .boolean) 0 D ty tt [.int x, .int lo, .int hi] ws (some (.int (b2i (m_in x lo hi)))) ws := by
  refine Ct_of (by decide) (gle rfl) (fun p e s m args below meth c K hr hlk hin => ?_)
  refine gx_iload_n K d_Mod_in_0 rfl rfl ?_
  refine gx_iload_n K d_Mod_in_1 rfl rfl ?_
  refine gx_icmp_lt K d_Mod_in_2 rfl (fun h2 => ?_) (fun h2 => ?_)
  · skip
    refine gx_iconst (v := b2i false) K d_Mod_in_14 rfl ?_
    exact gx_zret K hr hlk d_Mod_in_15 ⟨gRb (by simp [m_in, h2, Int32.not_le.mpr h2]), rfl⟩
  · skip
    refine gx_iload_n K d_Mod_in_5 rfl rfl ?_
    refine gx_iload_n K d_Mod_in_6 rfl rfl ?_
    refine gx_icmp_gt K d_Mod_in_7 rfl (fun h7 => ?_) (fun h7 => ?_)
    · skip
      refine gx_iconst (v := b2i false) K d_Mod_in_14 rfl ?_
      exact gx_zret K hr hlk d_Mod_in_15 ⟨gRb (by simp [m_in, h2, Int32.not_lt.mp h2, h7, Int32.not_le.mpr h7]), rfl⟩
    · skip
      refine gx_iconst (v := b2i true) K d_Mod_in_10 rfl ?_
      refine gx_goto K d_Mod_in_11 rfl ?_
      exact gx_zret K hr hlk d_Mod_in_15 ⟨gRb (by simp [m_in, h2, Int32.not_lt.mp h2, h7, Int32.not_lt.mp h7]), rfl⟩

