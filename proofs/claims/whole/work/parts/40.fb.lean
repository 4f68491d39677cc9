/-- the class's world: its objects and arrays, and behind them a pool of objects that never change -/
def fbW (a : Nat → Nat) (ty : Nat → ClassId) (N : Nat → Nat) (r : Nat → Int32) (en re : Int32) (O : Nat → Nat → Option Nat) (z : Nat) (tx : Nat → Int32) (X : Nat → Nat → Bool) (Y : Nat → Nat → Int32) (fc : Nat) (sl : Bool) (pt : Int32) (tot : Int64) (hv : Bool) (rest : va_W) : va_W := (a 0, .inr (0, [.ref (a 1), .ref (a 6), .ref (a 12)])) :: (a 1, .inr (1, [.ref (a 2), .ref (a 4), .int (nI (N 0)), .ref (a 5), .int (nI (N 1)), .ref z])) :: (a 2, .inr (2, [.ref (a 3), .int en, .int re])) :: (a 3, .inl (ty 0, 8, .inl r)) :: (a 4, .inl (ty 4, 16, .inr (.inr (.inr (.inr (O 0)))))) :: (a 5, .inl (ty 5, 32, .inr (.inr (.inr (.inr (O 1)))))) :: (a 6, .inr (3, [.ref (a 7), .int (nI (N 2)), .ref (a 8), .int (nI (N 3)), .ref (a 9), .int (nI (N 5)), .ref (a 10)])) :: (a 7, .inl (ty 6, 12, .inr (.inr (.inr (.inr (O 2)))))) :: (a 8, .inl (ty 7, 8, .inr (.inr (.inr (.inr (O 3)))))) :: (a 9, .inl (ty 8, 20, .inr (.inr (.inr (.inr (O 4)))))) :: (a 10, .inr (4, [.ref (a 11), .int (nI (N 4))])) :: (a 11, .inl (ty 3, 20, .inl tx)) :: (a 12, .inr (5, [.ref (a 1), .ref (a 6), .ref (a 13), .ref (a 14), .ref (a 15), .ref (a 16), .ref (a 17), .ref (a 18), .int (nI fc), .int (b2i sl), .int pt, .long tot, .int (b2i hv)])) :: (a 13, .inl (ty 2, 32, .inl (fun j => b2i (X 0 j)))) :: (a 14, .inl (ty 2, 32, .inl (fun j => b2i (X 1 j)))) :: (a 15, .inl (ty 0, 20, .inl (Y 0))) :: (a 16, .inl (ty 0, 20, .inl (Y 1))) :: (a 17, .inl (ty 0, 16, .inl (Y 2))) :: (a 18, .inl (ty 0, 180, .inl (Y 3))) :: rest
theorem fb_pl {a : Nat → Nat} {ty : Nat → ClassId} {N : Nat → Nat} {r : Nat → Int32} {en re : Int32} {O : Nat → Nat → Option Nat} {z : Nat} {tx : Nat → Int32} {X : Nat → Nat → Bool} {Y : Nat → Nat → Int32} {fc : Nat} {sl : Bool} {pt : Int32} {tot : Int64} {hv : Bool} {rest : va_W} {k : Nat} {x : Nat × va_E} (h : rest[k]? = some x) : (fbW a ty N r en re O z tx X Y fc sl pt tot hv rest)[k + 19]? = some x := h
section PL
variable (O : Nat → Nat → Option Nat) (B : Nat → Nat → Bool) (E : Nat → Nat → Int32) (V : Nat → Int64) (rest : va_W)
def o_ctx (x : Nat) : va_E := .inr (9, [.int (E 11 x), .int (E 12 x), .int (E 13 x), .int (E 14 x)])
def o_uni (u : Nat) : va_E := .inr (10, [.int (E 15 u), .int (E 16 u), .int (E 17 u)])
def pCon (n : Nat) : Prop := ∀ c, c < n → ∃ q k : Nat, O 0 c = some q ∧ rest[k]? = some (q, .inr (6, [.int (E 0 c), .int (E 1 c), .int (E 2 c), .int (E 3 c)]))
def pArc (n : Nat) : Prop := ∀ c, c < n → ∃ q k z j : Nat, O 1 c = some q ∧ rest[k]? = some (q, .inr (8, [.int (E 4 c), .int (E 6 c), .int (E 7 c), .int (E 8 c), .int (E 9 c), .ref z])) ∧ rest[j]? = some (z, .inr (7, [.int (E 5 c), .int (E 10 c), .int (b2i (B 3 c))]))
def pCtx (n : Nat) : Prop := ∀ c, c < n → ∃ q k : Nat, O 2 c = some q ∧ rest[k]? = some (q, .inr (9, [.int (E 11 c), .int (E 12 c), .int (E 13 c), .int (E 14 c)]))
def pUni (n : Nat) : Prop := ∀ c, c < n → ∃ q k : Nat, O 3 c = some q ∧ rest[k]? = some (q, .inr (10, [.int (E 15 c), .int (E 16 c), .int (E 17 c)]))
/-- a fact's unit: none, or one of the pool -/
def pUn (u : Value) (x : Int32) : Prop := (x = -1 ∧ u = .null) ∨ ∃ y l : Nat, ¬ x < 0 ∧ u = .ref y ∧ rest[l]? = some (y, .inr (10, [.int (E 15 (ix x)), .int (E 16 (ix x)), .int (E 17 (ix x))]))
def pFac (n : Nat) : Prop := ∀ c, c < n → ∃ (q k x i : Nat) (u : Value), O 4 c = some q ∧ rest[k]? = some (q, .inr (11, [.int (E 19 c), .ref x, u, .int (E 22 c), .int (E 23 c), .long (V c), .int (m_places (E 22 c) (E 23 c) (V c)), .long (m_rounded E V c)])) ∧ rest[i]? = some (x, .inr (9, [.int (E 11 (ix (E 20 c))), .int (E 12 (ix (E 20 c))), .int (E 13 (ix (E 20 c))), .int (E 14 (ix (E 20 c)))])) ∧ pUn E rest u (E 21 c)
end PL
theorem bitx {y x : Int32} (hx : rg x 8) : (y >>> (x &&& 31) &&& 1) = 0 ↔ bt y (ix x) = false := by
  have h := b_bit y (n := ix x) (by have := hx.2; omega)
  rwa [← hx.1] at h
theorem in7 {d : Nat} (h : d < 8) : m_in (nI d) 0 7 = true := by
  unfold m_in
  rw [decide_eq_true (nI_pos' (by omega)), decide_eq_true (by rw [show (7 : Int32) = nI 7 from rfl]; exact (nI_leI (by omega) (by omega)).mpr (by omega))]
  rfl
set_option maxRecDepth 100000 in
set_option maxHeartbeats 1000000 in
theorem z_Doc_isReached {l : Launch} {D : va_G} {ty : Nat → ClassId} {tt : Nat} {a : Nat → Nat} {N : Nat → Nat} {r : Nat → Int32} {en re : Int32} {O : Nat → Nat → Option Nat} {z : Nat} {tx : Nat → Int32} {X : Nat → Nat → Bool} {Y : Nat → Nat → Int32} {fc : Nat} {sl : Bool} {pt : Int32} {tot : Int64} {hv : Bool} {rest : va_W} (hN : mN N) (x : Int32) : Cd l y_Doc_isReached c_Doc_isReached 2 (some .boolean) 1 D ty tt [.ref (a 2), .int x] (fbW a ty N r en re O z tx X Y fc sl pt tot hv rest) (some (.int (b2i (m_in x 0 7 && bt re (ix x))))) (fbW a ty N r en re O z tx X Y fc sl pt tot hv rest) := by
  obtain ⟨n0, n1, n2, n3, n4, n5⟩ := id hN
  refine Ct_of (by decide) (gle rfl) (fun p e s m args below meth c K hr hlk hin => ?_)
  refine gx_iload_n K d_Doc_isReached_0 rfl rfl ?_
  refine gx_iconst (v := 0) K d_Doc_isReached_1 rfl ?_
  refine gx_bipush (v := 7) K d_Doc_isReached_2 rfl ?_
  refine gx_SNd K (z_FB_within _ _ _ _) Y_FB_within k226 k225 rfl ⟨gle rfl, gle rfl⟩ ⟨gle rfl, gle rfl⟩ (gle rfl) d_Doc_isReached_4 ?_
  refine gx_if_eqB K d_Doc_isReached_7 rfl (fun h7 => ?_) (fun h7 => ?_)
  · skip
    refine gx_iconst (v := b2i false) K d_Doc_isReached_25 rfl ?_
    exact gx_zret K hr hlk d_Doc_isReached_26 ⟨gRb (by rw [h7]; rfl), rfl⟩
  · skip
    have rx : rg x 8 := in_rg h7 (n := 8) rfl (by decide)
    refine gx_aload_n K d_Doc_isReached_10 rfl rfl ?_
    refine gx_get K f_Doc_30 (q0 := 2) rfl rfl d_Doc_isReached_11 ?_
    refine gx_iload_n K d_Doc_isReached_14 rfl rfl ?_
    refine gx_ishr K d_Doc_isReached_15 ?_
    refine gx_iconst (v := 1) K d_Doc_isReached_16 rfl ?_
    refine gx_iand K d_Doc_isReached_17 ?_
    refine gx_if_eq K d_Doc_isReached_18 rfl (fun h18 => ?_) (fun h18 => ?_)
    · skip
      refine gx_iconst (v := b2i false) K d_Doc_isReached_25 rfl ?_
      exact gx_zret K hr hlk d_Doc_isReached_26 ⟨gRb (by rw [(bitx rx).mp h18, Bool.and_false]), rfl⟩
    · skip
      refine gx_iconst (v := b2i true) K d_Doc_isReached_21 rfl ?_
      refine gx_goto K d_Doc_isReached_22 rfl ?_
      exact gx_zret K hr hlk d_Doc_isReached_26 ⟨gRb (by rw [h7, show bt re (ix x) = true from by cases q : bt re (ix x); exact absurd ((bitx rx).mpr q) h18; rfl]; rfl), rfl⟩

theorem z_Doc_isReachedN {l : Launch} {D : va_G} {ty : Nat → ClassId} {tt : Nat} {a : Nat → Nat} {N : Nat → Nat} {r : Nat → Int32} {en re : Int32} {O : Nat → Nat → Option Nat} {z : Nat} {tx : Nat → Int32} {X : Nat → Nat → Bool} {Y : Nat → Nat → Int32} {fc : Nat} {sl : Bool} {pt : Int32} {tot : Int64} {hv : Bool} {rest : va_W} (hN : mN N) {x : Int32} {d : Nat} (hx : x = nI d) (hd : d < 8) : Cd l y_Doc_isReached c_Doc_isReached 2 (some .boolean) 1 D ty tt [.ref (a 2), .int x] (fbW a ty N r en re O z tx X Y fc sl pt tot hv rest) (some (.int (b2i (bt re d)))) (fbW a ty N r en re O z tx X Y fc sl pt tot hv rest) := by
  subst hx
  have h := z_Doc_isReached (l := l) (D := D) (ty := ty) (tt := tt) (a := a) (r := r) (en := en) (re := re) (O := O) (z := z) (tx := tx) (X := X) (Y := Y) (fc := fc) (sl := sl) (pt := pt) (tot := tot) (hv := hv) (rest := rest) hN (nI d)
  rwa [in7 hd, ix_nI (by omega), Bool.true_and] at h
set_option maxRecDepth 100000 in
set_option maxHeartbeats 1000000 in
theorem z_Doc_spread {l : Launch} {D : va_G} {ty : Nat → ClassId} {tt : Nat} {a : Nat → Nat} {N : Nat → Nat} {r : Nat → Int32} {en re : Int32} {O : Nat → Nat → Option Nat} {z : Nat} {tx : Nat → Int32} {X : Nat → Nat → Bool} {Y : Nat → Nat → Int32} {fc : Nat} {sl : Bool} {pt : Int32} {tot : Int64} {hv : Bool} {rest : va_W} (hN : mN N)  : Cd l y_Doc_spread c_Doc_spread 3 none 2 D ty tt [.ref (a 2)] (fbW a ty N r en re O z tx X Y fc sl pt tot hv rest) none (fbW a ty N r en (c_rd r re 7) O z tx X Y fc sl pt tot hv rest) := by
  obtain ⟨n0, n1, n2, n3, n4, n5⟩ := id hN
  refine Ct_of (by decide) (gle rfl) (fun p e s m args below meth c K hr hlk hin => ?_)
  refine gx_iconst (v := 1) K d_Doc_spread_0 rfl ?_
  refine gx_istore_n K d_Doc_spread_1 rfl (gle rfl) rfl ?_
  refine gx_loop [true, true, false] 7 (fun q => (fbW a ty N r en (c_rd r re q) O z tx X Y fc sl pt tot hv rest)) (fun q => [some (.ref (a 2)), some (.int (nI (q + 1))), none]) rfl rfl (fun q hq ihq => ?_) ?_
  · skip
    refine gx_iload_n K d_Doc_spread_2 rfl rfl ?_
    refine gx_bipush (v := 8) K d_Doc_spread_3 rfl ?_
    refine gx_icmp_geF K d_Doc_spread_5 rfl (nI_ge (a := q + 1) (b := 8) (by omega) (by decide)) ?_
    refine gx_iconst (v := 0) K d_Doc_spread_8 rfl ?_
    refine gx_istore_n K d_Doc_spread_9 rfl (gle rfl) rfl ?_
    refine gx_loop [true, true, true] (8) (fun i => (fbW a ty N r en (c_sw r (c_rd r re q) (i)) O z tx X Y fc sl pt tot hv rest)) (fun i => [some (.ref (a 2)), some (.int (nI (q + 1))), some (.int (nI i))]) rfl rfl (fun i hi ihi => ?_) ?_
    · skip
      refine gx_iload_n K d_Doc_spread_10 rfl rfl ?_
      refine gx_bipush (v := 8) K d_Doc_spread_11 rfl ?_
      refine gx_icmp_geF K d_Doc_spread_13 rfl (nI_ge (b := 8) hi (by decide)) ?_
      refine gx_aload_n K d_Doc_spread_16 rfl rfl ?_
      refine gx_iload_n K d_Doc_spread_17 rfl rfl ?_
      refine gx_Vd K (z_Doc_isReachedN hN rfl (by omega)) Y_Doc_isReached (ci := 2) rfl (q0 := 2) rfl k234 ks2 k232 rfl ⟨gle rfl, gle rfl⟩ ⟨gle rfl, gle rfl⟩ (gle rfl) d_Doc_spread_18 ?_
      refine gx_if_eqB K d_Doc_spread_21 rfl (fun h21 => ?_) (fun h21 => ?_)
      · skip
        refine gx_iinc (v := nI (i + 1)) K d_Doc_spread_39 rfl (nI_add _ _) (gle rfl) rfl ?_
        refine gx_goto K d_Doc_spread_42 rfl ?_
        exact gx_back [true, true, true] rfl (by rw [show c_sw r (c_rd r re q) (i + 1) = c_sw r (c_rd r re q) (i) from if_neg (by rw [h21]; decide)]) ihi
      · skip
        refine gx_aload_n K d_Doc_spread_24 rfl rfl ?_
        refine gx_dup K d_Doc_spread_25 rfl ?_
        refine gx_get K f_Doc_30 (q0 := 2) rfl rfl d_Doc_spread_26 ?_
        refine gx_aload_n K d_Doc_spread_29 rfl rfl ?_
        refine gx_get K f_Doc_9 (q0 := 2) rfl rfl d_Doc_spread_30 ?_
        refine gx_iload_n K d_Doc_spread_33 rfl rfl ?_
        refine gx_iald K (q0 := 3) rfl rfl (by omega) (by decide) d_Doc_spread_34 ?_
        refine gx_ior K d_Doc_spread_35 ?_
        refine gx_put K f_Doc_30 ft_Doc rfl (q0 := 2) rfl rfl rfl (gle rfl) d_Doc_spread_36 ?_
        refine gx_iinc (v := nI (i + 1)) K d_Doc_spread_39 rfl (nI_add _ _) (gle rfl) rfl ?_
        refine gx_goto K d_Doc_spread_42 rfl ?_
        exact gx_back [true, true, true] rfl (by rw [show c_sw r (c_rd r re q) (i + 1) = (c_sw r (c_rd r re q) (i)) ||| r i from if_pos h21]; rfl) ihi
    · skip
      refine gx_iload_n K d_Doc_spread_10 rfl rfl ?_
      refine gx_bipush (v := 8) K d_Doc_spread_11 rfl ?_
      refine gx_icmp_geT K d_Doc_spread_13 rfl (Int32.le_refl _) ?_
      refine gx_iinc (v := nI ((q + 1) + 1)) K d_Doc_spread_45 rfl (nI_add _ _) (gle rfl) rfl ?_
      refine gx_goto K d_Doc_spread_48 rfl ?_
      exact gx_back [true, true, false] rfl rfl ihq
  · skip
    refine gx_iload_n K d_Doc_spread_2 rfl rfl ?_
    refine gx_bipush (v := 8) K d_Doc_spread_3 rfl ?_
    refine gx_icmp_geT K d_Doc_spread_5 rfl (by decide) ?_
    exact gx_vret K hr hlk d_Doc_spread_51 ⟨rfl, rfl⟩

theorem bt_t {y : Int32} {n : Nat} (h : ¬ bt y n = false) : bt y n = true := by simpa using h
set_option maxRecDepth 100000 in
set_option maxHeartbeats 1000000 in
theorem z_Doc_link {l : Launch} {D : va_G} {ty : Nat → ClassId} {tt : Nat} {a : Nat → Nat} {N : Nat → Nat} {r : Nat → Int32} {en re : Int32} {O : Nat → Nat → Option Nat} {z : Nat} {tx : Nat → Int32} {X : Nat → Nat → Bool} {Y : Nat → Nat → Int32} {fc : Nat} {sl : Bool} {pt : Int32} {tot : Int64} {hv : Bool} {rest : va_W} (hN : mN N) (x y : Int32) : Cd l y_Doc_link c_Doc_link 3 (some .boolean) 3 D ty tt [.ref (a 2), .int x, .int y] (fbW a ty N r en re O z tx X Y fc sl pt tot hv rest) (some (.int (b2i (m_in x 0 7 && (m_in y 0 7 && !(bt (r (ix x)) (ix y))))))) (if (m_in x 0 7 && (m_in y 0 7 && !(bt (r (ix x)) (ix y)))) = true then (fbW a ty N (upd r (ix x) (r (ix x) ||| ((1 : Int32) <<< (y &&& 31)))) en (c_rd (upd r (ix x) (r (ix x) ||| ((1 : Int32) <<< (y &&& 31)))) re 7) O z tx X Y fc sl pt tot hv rest) else (fbW a ty N r en re O z tx X Y fc sl pt tot hv rest)) := by
  obtain ⟨n0, n1, n2, n3, n4, n5⟩ := id hN
  refine Ct_of (by decide) (gle rfl) (fun p e s m args below meth c K hr hlk hin => ?_)
  refine gx_iload_n K d_Doc_link_0 rfl rfl ?_
  refine gx_Sd K (z_Doc_exists _) Y_Doc_exists k223 k222 rfl ⟨gle rfl, gle rfl⟩ ⟨gle rfl, gle rfl⟩ (gle rfl) d_Doc_link_1 ?_
  refine gx_if_eqB K d_Doc_link_4 rfl (fun h4 => ?_) (fun h4 => ?_)
  · skip
    refine gx_iconst (v := b2i false) K d_Doc_link_27 rfl ?_
    exact gx_zret K hr hlk d_Doc_link_28 ⟨gRb (show (m_in x 0 7 && (m_in y 0 7 && !(bt (r (ix x)) (ix y)))) = false from by rw [h4]; rfl).symm, (if_neg (by rw [(show (m_in x 0 7 && (m_in y 0 7 && !(bt (r (ix x)) (ix y)))) = false from by rw [h4]; rfl)]; decide)).symm⟩
  · skip
    refine gx_iload_n K d_Doc_link_7 rfl rfl ?_
    refine gx_Sd K (z_Doc_exists _) Y_Doc_exists k223 k222 rfl ⟨gle rfl, gle rfl⟩ ⟨gle rfl, gle rfl⟩ (gle rfl) d_Doc_link_8 ?_
    refine gx_if_eqB K d_Doc_link_11 rfl (fun h11 => ?_) (fun h11 => ?_)
    · skip
      refine gx_iconst (v := b2i false) K d_Doc_link_27 rfl ?_
      exact gx_zret K hr hlk d_Doc_link_28 ⟨gRb (show (m_in x 0 7 && (m_in y 0 7 && !(bt (r (ix x)) (ix y)))) = false from by rw [h4, h11]; rfl).symm, (if_neg (by rw [(show (m_in x 0 7 && (m_in y 0 7 && !(bt (r (ix x)) (ix y)))) = false from by rw [h4, h11]; rfl)]; decide)).symm⟩
    · skip
      have rx : rg x 8 := in_rg h4 (n := 8) rfl (by decide)
      have ry : rg y 8 := in_rg h11 (n := 8) rfl (by decide)
      refine gx_aload_n K d_Doc_link_14 rfl rfl ?_
      refine gx_get K f_Doc_9 (q0 := 2) rfl rfl d_Doc_link_15 ?_
      refine gx_iload_n K d_Doc_link_18 rfl rfl ?_
      refine gx_iald K (q0 := 3) rfl rx.1 rx.2 (by decide) d_Doc_link_19 ?_
      refine gx_iload_n K d_Doc_link_20 rfl rfl ?_
      refine gx_ishr K d_Doc_link_21 ?_
      refine gx_iconst (v := 1) K d_Doc_link_22 rfl ?_
      refine gx_iand K d_Doc_link_23 ?_
      refine gx_if_eq K d_Doc_link_24 rfl (fun h24 => ?_) (fun h24 => ?_)
      · skip
        refine gx_aload_n K d_Doc_link_29 rfl rfl ?_
        refine gx_get K f_Doc_9 (q0 := 2) rfl rfl d_Doc_link_30 ?_
        refine gx_iload_n K d_Doc_link_33 rfl rfl ?_
        refine gx_dup2 K d_Doc_link_34 rfl rfl ?_
        refine gx_iald K (q0 := 3) rfl rx.1 rx.2 (by decide) d_Doc_link_35 ?_
        refine gx_iconst (v := 1) K d_Doc_link_36 rfl ?_
        refine gx_iload_n K d_Doc_link_37 rfl rfl ?_
        refine gx_ishl K d_Doc_link_38 ?_
        refine gx_ior K d_Doc_link_39 ?_
        refine gx_iast K (q0 := 3) rfl rx.1 rx.2 (by decide) d_Doc_link_40 ?_
        refine gx_aload_n K d_Doc_link_41 rfl rfl ?_
        refine gx_Vdv K (z_Doc_spread hN) Y_Doc_spread (ci := 2) rfl (q0 := 2) rfl k230 ks1 k228 rfl ⟨gle rfl, gle rfl⟩ ⟨gle rfl, gle rfl⟩ (gle rfl) d_Doc_link_42 ?_
        refine gx_iconst (v := b2i true) K d_Doc_link_45 rfl ?_
        exact gx_zret K hr hlk d_Doc_link_46 ⟨gRb (show (m_in x 0 7 && (m_in y 0 7 && !(bt (r (ix x)) (ix y)))) = true from by rw [h4, h11, (bitx ry).mp h24]; rfl).symm, (if_pos (show (m_in x 0 7 && (m_in y 0 7 && !(bt (r (ix x)) (ix y)))) = true from by rw [h4, h11, (bitx ry).mp h24]; rfl)).symm⟩
      · skip
        refine gx_iconst (v := b2i false) K d_Doc_link_27 rfl ?_
        exact gx_zret K hr hlk d_Doc_link_28 ⟨gRb (show (m_in x 0 7 && (m_in y 0 7 && !(bt (r (ix x)) (ix y)))) = false from by rw [h4, h11, bt_t (fun q => h24 ((bitx ry).mpr q))]; rfl).symm, (if_neg (by rw [(show (m_in x 0 7 && (m_in y 0 7 && !(bt (r (ix x)) (ix y)))) = false from by rw [h4, h11, bt_t (fun q => h24 ((bitx ry).mpr q))]; rfl)]; decide)).symm⟩

set_option maxRecDepth 100000 in
set_option maxHeartbeats 1000000 in
theorem z_Doc_addEntry {l : Launch} {D : va_G} {ty : Nat → ClassId} {tt : Nat} {a : Nat → Nat} {N : Nat → Nat} {r : Nat → Int32} {en re : Int32} {O : Nat → Nat → Option Nat} {z : Nat} {tx : Nat → Int32} {X : Nat → Nat → Bool} {Y : Nat → Nat → Int32} {fc : Nat} {sl : Bool} {pt : Int32} {tot : Int64} {hv : Bool} {rest : va_W} (hN : mN N) (x : Int32) : Cd l y_Doc_addEntry c_Doc_addEntry 2 (some .boolean) 3 D ty tt [.ref (a 2), .int x] (fbW a ty N r en re O z tx X Y fc sl pt tot hv rest) (some (.int (b2i (m_in x 0 7 && !(bt en (ix x)))))) (if (m_in x 0 7 && !(bt en (ix x))) = true then (fbW a ty N r (en ||| ((1 : Int32) <<< (x &&& 31))) (c_rd r (re ||| ((1 : Int32) <<< (x &&& 31))) 7) O z tx X Y fc sl pt tot hv rest) else (fbW a ty N r en re O z tx X Y fc sl pt tot hv rest)) := by
  obtain ⟨n0, n1, n2, n3, n4, n5⟩ := id hN
  refine Ct_of (by decide) (gle rfl) (fun p e s m args below meth c K hr hlk hin => ?_)
  refine gx_iload_n K d_Doc_addEntry_0 rfl rfl ?_
  refine gx_Sd K (z_Doc_exists _) Y_Doc_exists k223 k222 rfl ⟨gle rfl, gle rfl⟩ ⟨gle rfl, gle rfl⟩ (gle rfl) d_Doc_addEntry_1 ?_
  refine gx_if_eqB K d_Doc_addEntry_4 rfl (fun h4 => ?_) (fun h4 => ?_)
  · skip
    refine gx_iconst (v := b2i false) K d_Doc_addEntry_18 rfl ?_
    exact gx_zret K hr hlk d_Doc_addEntry_19 ⟨gRb (show (m_in x 0 7 && !(bt en (ix x))) = false from by rw [h4]; rfl).symm, (if_neg (by rw [(show (m_in x 0 7 && !(bt en (ix x))) = false from by rw [h4]; rfl)]; decide)).symm⟩
  · skip
    have rx : rg x 8 := in_rg h4 (n := 8) rfl (by decide)
    refine gx_aload_n K d_Doc_addEntry_7 rfl rfl ?_
    refine gx_get K f_Doc_26 (q0 := 2) rfl rfl d_Doc_addEntry_8 ?_
    refine gx_iload_n K d_Doc_addEntry_11 rfl rfl ?_
    refine gx_ishr K d_Doc_addEntry_12 ?_
    refine gx_iconst (v := 1) K d_Doc_addEntry_13 rfl ?_
    refine gx_iand K d_Doc_addEntry_14 ?_
    refine gx_if_eq K d_Doc_addEntry_15 rfl (fun h15 => ?_) (fun h15 => ?_)
    · skip
      refine gx_aload_n K d_Doc_addEntry_20 rfl rfl ?_
      refine gx_dup K d_Doc_addEntry_21 rfl ?_
      refine gx_get K f_Doc_26 (q0 := 2) rfl rfl d_Doc_addEntry_22 ?_
      refine gx_iconst (v := 1) K d_Doc_addEntry_25 rfl ?_
      refine gx_iload_n K d_Doc_addEntry_26 rfl rfl ?_
      refine gx_ishl K d_Doc_addEntry_27 ?_
      refine gx_ior K d_Doc_addEntry_28 ?_
      refine gx_put K f_Doc_26 ft_Doc rfl (q0 := 2) rfl rfl rfl (gle rfl) d_Doc_addEntry_29 ?_
      refine gx_ws (w1 := (fbW a ty N r (en ||| ((1 : Int32) <<< (x &&& 31))) re O z tx X Y fc sl pt tot hv rest)) rfl ?_
      refine gx_aload_n K d_Doc_addEntry_32 rfl rfl ?_
      refine gx_dup K d_Doc_addEntry_33 rfl ?_
      refine gx_get K f_Doc_30 (q0 := 2) rfl rfl d_Doc_addEntry_34 ?_
      refine gx_iconst (v := 1) K d_Doc_addEntry_37 rfl ?_
      refine gx_iload_n K d_Doc_addEntry_38 rfl rfl ?_
      refine gx_ishl K d_Doc_addEntry_39 ?_
      refine gx_ior K d_Doc_addEntry_40 ?_
      refine gx_put K f_Doc_30 ft_Doc rfl (q0 := 2) rfl rfl rfl (gle rfl) d_Doc_addEntry_41 ?_
      refine gx_ws (w1 := (fbW a ty N r (en ||| ((1 : Int32) <<< (x &&& 31))) (re ||| ((1 : Int32) <<< (x &&& 31))) O z tx X Y fc sl pt tot hv rest)) rfl ?_
      refine gx_aload_n K d_Doc_addEntry_44 rfl rfl ?_
      refine gx_Vdv K (z_Doc_spread hN) Y_Doc_spread (ci := 2) rfl (q0 := 2) rfl k230 ks1 k228 rfl ⟨gle rfl, gle rfl⟩ ⟨gle rfl, gle rfl⟩ (gle rfl) d_Doc_addEntry_45 ?_
      refine gx_iconst (v := b2i true) K d_Doc_addEntry_48 rfl ?_
      exact gx_zret K hr hlk d_Doc_addEntry_49 ⟨gRb (show (m_in x 0 7 && !(bt en (ix x))) = true from by rw [h4, (bitx rx).mp h15]; rfl).symm, (if_pos (show (m_in x 0 7 && !(bt en (ix x))) = true from by rw [h4, (bitx rx).mp h15]; rfl)).symm⟩
    · skip
      refine gx_iconst (v := b2i false) K d_Doc_addEntry_18 rfl ?_
      exact gx_zret K hr hlk d_Doc_addEntry_19 ⟨gRb (show (m_in x 0 7 && !(bt en (ix x))) = false from by rw [h4, bt_t (fun q => h15 ((bitx rx).mpr q))]; rfl).symm, (if_neg (by rw [(show (m_in x 0 7 && !(bt en (ix x))) = false from by rw [h4, bt_t (fun q => h15 ((bitx rx).mpr q))]; rfl)]; decide)).symm⟩

