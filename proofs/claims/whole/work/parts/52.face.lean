/-- the review holds what the state says -/
def fresh (B : Nat → Nat → Bool) (N : Nat → Nat) (E : Nat → Nat → Int32) (V : Nat → Int64) (X : Nat → Nat → Bool) (Y : Nat → Nat → Int32) (fc : Nat) : Prop := (∀ j, j < N 1 → X 1 j = m_left B N E j) ∧ (∀ j, j < N 5 → Y 0 j = m_fault B E j) ∧ (∀ j, j < N 5 → Y 1 j = m_twin N E j) ∧ fc = (m_probs B N E V).length ∧ ∀ j, j < (m_probs B N E V).length → Y 3 j = ((m_probs B N E V)[j]?).getD 0
theorem fresh1 {B : Nat → Nat → Bool} {N : Nat → Nat} {E : Nat → Nat → Int32} {V : Nat → Int64} {X : Nat → Nat → Bool} {Y : Nat → Nat → Int32} (U : mU N E) : fresh B N E V (x_mark B N E X) (y_all B N E V Y) (m_probs B N E V).length :=
  ⟨fun j hj => fillB_at _ _ _ j hj, fun j hj => (fillI_at _ _ _ j hj).trans (cf_eq U j), fun j hj => fillI_at _ _ _ j hj, rfl, fun j hj => fl_at hj⟩
section GF
variable {p : Program} {l : Launch} {e : Env} {R : Room} {s : State} {m : MethodId} {args : Array Value} {below : List Frame} {meth : Method} {c : Code} {Q : State → Prop} {k n : Nat}
variable {cc : ByteArray} {nL : Nat} {D : va_G} {ty : Nat → ClassId} {tt : Nat} {A : Nat → Prop} {L : List (Option Value)} {st : List Value} {pc : Nat}
theorem gx_fresh (K : gK p s m args c cc nL "FactBinder" D ty tt A) {a : Nat → Nat} {N : Nat → Nat} {r : Nat → Int32} {en re : Int32} {O : Nat → Nat → Option Nat} {z : Nat} {tx : Nat → Int32} {X : Nat → Nat → Bool} {Y : Nat → Nat → Int32} {fc : Nat} {sl : Bool} {pt : Int32} {tot : Int64} {hv : Bool} {rest : va_W} (hN : mN N) {B : Nat → Nat → Bool} {E : Nat → Nat → Int32} {V : Nat → Int64} (G : cI B N E V O rest re) (U : mU N E) (hfr : sl = false → fresh B N E V X Y fc) (hR : 5 + 1 ≤ R.frames ∧ 8 + (1 + 11) + 40 * 5 ≤ R.locals) (hc : k ≤ R.cells ∧ n ≤ R.slots) (hw : (st.map fun v => v.category).sum ≤ 8) (hd : decode cc pc = .ok (.invokevirtual 111, 3)) (kk : ∀ (X : Nat → Nat → Bool) (Y : Nat → Nat → Int32) (pt : Int32) (tot : Int64) (hv : Bool), fresh B N E V X Y (m_probs B N E V).length → gG p l e R s m args below meth c nL D (A) (Q) (k) (n) ((fbW a ty N r en re O z tx X Y ((m_probs B N E V).length) false pt tot hv rest)) (L) (st) (pc + 3)) : gG p l e R s m args below meth c nL D (A) (Q) (k) (n) ((fbW a ty N r en re O z tx X Y fc sl pt tot hv rest)) (L) (.ref (a 12) :: st) (pc) := by
  cases sl with
  | false =>
    have h := hfr rfl
    have e := h.2.2.2.1
    subst e
    exact gx_VNdv K (z_Rev_refresh0 hN) Y_Rev_refresh (ci := 5) rfl (q0 := 12) rfl k513 ks18 k511 rfl hR hc hw hd (kk X Y pt tot hv h)
  | true => exact gx_VNdv K (z_Rev_refresh1 hN G (fun j _ => cf_eq U j) U.2.2.2 (probs_len hN) (fun q f _ _ => bound_iff hN) (fun q f _ _ hb => agr_eq hN G.2.2.2.2.2.2.2.2.2 hb)) Y_Rev_refresh (ci := 5) rfl (q0 := 12) rfl k513 ks18 k511 rfl hR hc hw hd (kk _ _ _ _ _ (fresh1 U))
end GF
set_option maxRecDepth 100000 in
set_option maxHeartbeats 1000000 in
theorem z_FB_refer {l : Launch} {D : va_G} {ty : Nat → ClassId} {tt : Nat} {a : Nat → Nat} {N : Nat → Nat} {r : Nat → Int32} {en re : Int32} {O : Nat → Nat → Option Nat} {z : Nat} {tx : Nat → Int32} {X : Nat → Nat → Bool} {Y : Nat → Nat → Int32} {fc : Nat} {sl : Bool} {pt : Int32} {tot : Int64} {hv : Bool} {rest : va_W} (hN : mN N) (x y : Int32) : Cd l y_FB_refer c_FB_refer 4 (some .boolean) 4 D ty tt [.ref (a 0), .int x, .int y] (fbW a ty N r en re O z tx X Y fc sl pt tot hv rest) (some (.int (b2i (m_in x 0 7 && (m_in y 0 7 && !(bt (r (ix x)) (ix y))))))) (if (m_in x 0 7 && (m_in y 0 7 && !(bt (r (ix x)) (ix y)))) = true then (fbW a ty N (upd r (ix x) (r (ix x) ||| ((1 : Int32) <<< (y &&& 31)))) en (c_rd (upd r (ix x) (r (ix x) ||| ((1 : Int32) <<< (y &&& 31)))) re 7) O z tx X Y fc true pt tot hv rest) else (fbW a ty N r en re O z tx X Y fc sl pt tot hv rest)) := by
  obtain ⟨n0, n1, n2, n3, n4, n5⟩ := id hN
  refine Ct_of (by decide) (gle rfl) (fun p e s m args below meth c K hr hlk hin => ?_)
  refine gx_aload_n K d_FB_refer_0 rfl rfl ?_
  refine gx_get K f_FB_12 (q0 := 0) rfl rfl d_FB_refer_1 ?_
  refine gx_getN K f_FB_32 (q0 := 1) rfl rfl d_FB_refer_4 ?_
  refine gx_iload_n K d_FB_refer_7 rfl rfl ?_
  refine gx_iload_n K d_FB_refer_8 rfl rfl ?_
  refine gx_VNd K (z_Doc_link hN x y) Y_Doc_link (ci := 2) rfl (q0 := 2) rfl k220 ks0 k218 rfl ⟨gle rfl, gle rfl⟩ ⟨gle rfl, gle rfl⟩ (gle rfl) d_FB_refer_9 ?_
  refine gx_istore_n K d_FB_refer_12 rfl (gle rfl) rfl ?_
  refine gx_iload_n K d_FB_refer_13 rfl rfl ?_
  refine gx_if_eqB K d_FB_refer_14 rfl (fun h14 => ?_) (fun h14 => ?_)
  · skip
    refine gx_ws (w1 := (fbW a ty N r en re O z tx X Y fc sl pt tot hv rest)) (if_neg (fun q => absurd (h14.symm.trans q) (by decide))) ?_
    refine gx_iload_n K d_FB_refer_25 rfl rfl ?_
    exact gx_zret K hr hlk d_FB_refer_26 ⟨rfl, (if_neg (fun q => absurd (h14.symm.trans q) (by decide))).symm⟩
  · skip
    refine gx_ws (w1 := (fbW a ty N (upd r (ix x) (r (ix x) ||| ((1 : Int32) <<< (y &&& 31)))) en (c_rd (upd r (ix x) (r (ix x) ||| ((1 : Int32) <<< (y &&& 31)))) re 7) O z tx X Y fc sl pt tot hv rest)) (if_pos h14) ?_
    refine gx_aload_n K d_FB_refer_17 rfl rfl ?_
    refine gx_get K f_FB_28 (q0 := 0) rfl rfl d_FB_refer_18 ?_
    refine gx_iconst (v := b2i true) K d_FB_refer_21 rfl ?_
    refine gx_putN K f_FB_42 ft_Rev rfl (q0 := 12) rfl (b2i_narrow _) (b2i_fits _) (gle rfl) d_FB_refer_22 ?_
    refine gx_ws (w1 := (fbW a ty N (upd r (ix x) (r (ix x) ||| ((1 : Int32) <<< (y &&& 31)))) en (c_rd (upd r (ix x) (r (ix x) ||| ((1 : Int32) <<< (y &&& 31)))) re 7) O z tx X Y fc true pt tot hv rest)) rfl ?_
    refine gx_iload_n K d_FB_refer_25 rfl rfl ?_
    exact gx_zret K hr hlk d_FB_refer_26 ⟨rfl, (if_pos h14).symm⟩

set_option maxRecDepth 100000 in
set_option maxHeartbeats 1000000 in
theorem z_FB_enter {l : Launch} {D : va_G} {ty : Nat → ClassId} {tt : Nat} {a : Nat → Nat} {N : Nat → Nat} {r : Nat → Int32} {en re : Int32} {O : Nat → Nat → Option Nat} {z : Nat} {tx : Nat → Int32} {X : Nat → Nat → Bool} {Y : Nat → Nat → Int32} {fc : Nat} {sl : Bool} {pt : Int32} {tot : Int64} {hv : Bool} {rest : va_W} (hN : mN N) (x : Int32) : Cd l y_FB_enter c_FB_enter 3 (some .boolean) 4 D ty tt [.ref (a 0), .int x] (fbW a ty N r en re O z tx X Y fc sl pt tot hv rest) (some (.int (b2i (m_in x 0 7 && !(bt en (ix x)))))) (if (m_in x 0 7 && !(bt en (ix x))) = true then (fbW a ty N r (en ||| ((1 : Int32) <<< (x &&& 31))) (c_rd r (re ||| ((1 : Int32) <<< (x &&& 31))) 7) O z tx X Y fc true pt tot hv rest) else (fbW a ty N r en re O z tx X Y fc sl pt tot hv rest)) := by
  obtain ⟨n0, n1, n2, n3, n4, n5⟩ := id hN
  refine Ct_of (by decide) (gle rfl) (fun p e s m args below meth c K hr hlk hin => ?_)
  refine gx_aload_n K d_FB_enter_0 rfl rfl ?_
  refine gx_get K f_FB_12 (q0 := 0) rfl rfl d_FB_enter_1 ?_
  refine gx_getN K f_FB_32 (q0 := 1) rfl rfl d_FB_enter_4 ?_
  refine gx_iload_n K d_FB_enter_7 rfl rfl ?_
  refine gx_VNd K (z_Doc_addEntry hN x) Y_Doc_addEntry (ci := 2) rfl (q0 := 2) rfl k242 ks3 k240 rfl ⟨gle rfl, gle rfl⟩ ⟨gle rfl, gle rfl⟩ (gle rfl) d_FB_enter_8 ?_
  refine gx_istore_n K d_FB_enter_11 rfl (gle rfl) rfl ?_
  refine gx_iload_n K d_FB_enter_12 rfl rfl ?_
  refine gx_if_eqB K d_FB_enter_13 rfl (fun h13 => ?_) (fun h13 => ?_)
  · skip
    refine gx_ws (w1 := (fbW a ty N r en re O z tx X Y fc sl pt tot hv rest)) (if_neg (fun q => absurd (h13.symm.trans q) (by decide))) ?_
    refine gx_iload_n K d_FB_enter_24 rfl rfl ?_
    exact gx_zret K hr hlk d_FB_enter_25 ⟨rfl, (if_neg (fun q => absurd (h13.symm.trans q) (by decide))).symm⟩
  · skip
    refine gx_ws (w1 := (fbW a ty N r (en ||| ((1 : Int32) <<< (x &&& 31))) (c_rd r (re ||| ((1 : Int32) <<< (x &&& 31))) 7) O z tx X Y fc sl pt tot hv rest)) (if_pos h13) ?_
    refine gx_aload_n K d_FB_enter_16 rfl rfl ?_
    refine gx_get K f_FB_28 (q0 := 0) rfl rfl d_FB_enter_17 ?_
    refine gx_iconst (v := b2i true) K d_FB_enter_20 rfl ?_
    refine gx_putN K f_FB_42 ft_Rev rfl (q0 := 12) rfl (b2i_narrow _) (b2i_fits _) (gle rfl) d_FB_enter_21 ?_
    refine gx_ws (w1 := (fbW a ty N r (en ||| ((1 : Int32) <<< (x &&& 31))) (c_rd r (re ||| ((1 : Int32) <<< (x &&& 31))) 7) O z tx X Y fc true pt tot hv rest)) rfl ?_
    refine gx_iload_n K d_FB_enter_24 rfl rfl ?_
    exact gx_zret K hr hlk d_FB_enter_25 ⟨rfl, (if_pos h13).symm⟩

set_option maxRecDepth 100000 in
set_option maxHeartbeats 1000000 in
theorem z_FB_write {l : Launch} {D : va_G} {ty : Nat → ClassId} {tt : Nat} {a : Nat → Nat} {N : Nat → Nat} {r : Nat → Int32} {en re : Int32} {O : Nat → Nat → Option Nat} {z : Nat} {tx : Nat → Int32} {X : Nat → Nat → Bool} {Y : Nat → Nat → Int32} {fc : Nat} {sl : Bool} {pt : Int32} {tot : Int64} {hv : Bool} {rest : va_W} (hN : mN N) (x : Int32) (hc : vp_nar .char x = x) : Cd l y_FB_write c_FB_write 2 (some .boolean) 2 D ty tt [.ref (a 0), .int x] (fbW a ty N r en re O z tx X Y fc sl pt tot hv rest) (some (.int (b2i (k_wri N x)))) (if k_wri N x = true then (fbW a ty (va_up N 4 (N 4 + 1)) r en re O z (upd tx (N 4) x) X Y fc sl pt tot hv rest) else (fbW a ty N r en re O z tx X Y fc sl pt tot hv rest)) := by
  obtain ⟨n0, n1, n2, n3, n4, n5⟩ := id hN
  refine Ct_of (by decide) (gle rfl) (fun p e s m args below meth c K hr hlk hin => ?_)
  refine gx_aload_n K d_FB_write_0 rfl rfl ?_
  refine gx_get K f_FB_19 (q0 := 0) rfl rfl d_FB_write_1 ?_
  refine gx_getN K f_FB_78 (q0 := 6) rfl rfl d_FB_write_4 ?_
  refine gx_iload_n K d_FB_write_7 rfl rfl ?_
  refine gx_VNd K (z_Num_append hN x hc) Y_Num_append (ci := 4) rfl (q0 := 10) rfl k392 ks9 k390 rfl ⟨gle rfl, gle rfl⟩ ⟨gle rfl, gle rfl⟩ (gle rfl) d_FB_write_8 ?_
  exact gx_zret K hr hlk d_FB_write_11 ⟨rfl, rfl⟩

set_option maxRecDepth 100000 in
set_option maxHeartbeats 1000000 in
theorem z_FB_discovered {l : Launch} {D : va_G} {ty : Nat → ClassId} {tt : Nat} {a : Nat → Nat} {N : Nat → Nat} {r : Nat → Int32} {en re : Int32} {O : Nat → Nat → Option Nat} {z : Nat} {tx : Nat → Int32} {X : Nat → Nat → Bool} {Y : Nat → Nat → Int32} {fc : Nat} {sl : Bool} {pt : Int32} {tot : Int64} {hv : Bool} {rest : va_W} (hN : mN N) (x : Int32) : Cd l y_FB_discovered c_FB_discovered 2 (some .boolean) 2 D ty tt [.ref (a 0), .int x] (fbW a ty N r en re O z tx X Y fc sl pt tot hv rest) (some (.int (b2i (m_in x 0 7 && bt re (ix x))))) (fbW a ty N r en re O z tx X Y fc sl pt tot hv rest) := by
  obtain ⟨n0, n1, n2, n3, n4, n5⟩ := id hN
  refine Ct_of (by decide) (gle rfl) (fun p e s m args below meth c K hr hlk hin => ?_)
  refine gx_aload_n K d_FB_discovered_0 rfl rfl ?_
  refine gx_get K f_FB_12 (q0 := 0) rfl rfl d_FB_discovered_1 ?_
  refine gx_getN K f_FB_32 (q0 := 1) rfl rfl d_FB_discovered_4 ?_
  refine gx_iload_n K d_FB_discovered_7 rfl rfl ?_
  refine gx_VNd K (z_Doc_isReached hN x) Y_Doc_isReached (ci := 2) rfl (q0 := 2) rfl k234 ks2 k502 rfl ⟨gle rfl, gle rfl⟩ ⟨gle rfl, gle rfl⟩ (gle rfl) d_FB_discovered_8 ?_
  exact gx_zret K hr hlk d_FB_discovered_11 ⟨rfl, rfl⟩

set_option maxRecDepth 100000 in
set_option maxHeartbeats 1000000 in
theorem z_FB_value {l : Launch} {D : va_G} {ty : Nat → ClassId} {tt : Nat} {a : Nat → Nat} {N : Nat → Nat} {r : Nat → Int32} {en re : Int32} {O : Nat → Nat → Option Nat} {z : Nat} {tx : Nat → Int32} {X : Nat → Nat → Bool} {Y : Nat → Nat → Int32} {fc : Nat} {sl : Bool} {pt : Int32} {tot : Int64} {hv : Bool} {rest : va_W} (hN : mN N) (x : Int32) {B : Nat → Nat → Bool} {E : Nat → Nat → Int32} {V : Nat → Int64} (G : cI B N E V O rest re) : Cd l y_FB_value c_FB_value 2 (some .long) 2 D ty tt [.ref (a 0), .int x] (fbW a ty N r en re O z tx X Y fc sl pt tot hv rest) (some (.long (if m_in x 0 (nI (N 5) - 1) = true then V (ix x) else 0))) (fbW a ty N r en re O z tx X Y fc sl pt tot hv rest) := by
  obtain ⟨n0, n1, n2, n3, n4, n5⟩ := id hN
  obtain ⟨pC, pA, pX, pU, pF, I, hA, hF, hre, hV⟩ := id G
  refine Ct_of (by decide) (gle rfl) (fun p e s m args below meth c K hr hlk hin => ?_)
  refine gx_aload_n K d_FB_value_0 rfl rfl ?_
  refine gx_get K f_FB_19 (q0 := 0) rfl rfl d_FB_value_1 ?_
  refine gx_iload_n K d_FB_value_4 rfl rfl ?_
  refine gx_VNd K (z_Rep_hasFact hN _) Y_Rep_hasFact (ci := 3) rfl (q0 := 6) rfl k667 ks50 k665 rfl ⟨gle rfl, gle rfl⟩ ⟨gle rfl, gle rfl⟩ (gle rfl) d_FB_value_5 ?_
  refine gx_if_eqB K d_FB_value_8 rfl (fun h8 => ?_) (fun h8 => ?_)
  · skip
    refine gx_lconst (v := 0) K d_FB_value_26 rfl ?_
    exact gx_lret K hr hlk d_FB_value_27 ⟨congrArg (fun t => some (Value.long t)) (if_neg (by rw [h8]; decide)).symm, rfl⟩
  · skip
    have rx0 : rg x (N 5) := in_rgN h8 (by omega)
    have rx2 := rx0.2
    have rx : rg x 20 := ⟨rx0.1, by omega⟩
    refine gx_aload_n K d_FB_value_11 rfl rfl ?_
    refine gx_get K f_FB_19 (q0 := 0) rfl rfl d_FB_value_12 ?_
    refine gx_getN K f_FB_147 (q0 := 6) rfl rfl d_FB_value_15 ?_
    refine gx_iload_n K d_FB_value_18 rfl rfl ?_
    refine gx_aald K (t := 8) rfl (q0 := 9) rfl rx.1 rx.2 (by decide) d_FB_value_19 ?_
    obtain ⟨q19, k19, x19, i19, u19, hO19, hk19, gk19, uk19⟩ := pF ((ix x)) (by omega)
    rw [hO19]
    refine gx_getN K f_FB_151 (fb_pl hk19) rfl d_FB_value_20 ?_
    refine gx_goto K d_FB_value_23 rfl ?_
    exact gx_lret K hr hlk d_FB_value_27 ⟨congrArg (fun t => some (Value.long t)) (if_pos h8).symm, rfl⟩

set_option maxRecDepth 100000 in
set_option maxHeartbeats 1000000 in
theorem z_FB_places {l : Launch} {D : va_G} {ty : Nat → ClassId} {tt : Nat} {a : Nat → Nat} {N : Nat → Nat} {r : Nat → Int32} {en re : Int32} {O : Nat → Nat → Option Nat} {z : Nat} {tx : Nat → Int32} {X : Nat → Nat → Bool} {Y : Nat → Nat → Int32} {fc : Nat} {sl : Bool} {pt : Int32} {tot : Int64} {hv : Bool} {rest : va_W} (hN : mN N) (x : Int32) {B : Nat → Nat → Bool} {E : Nat → Nat → Int32} {V : Nat → Int64} (G : cI B N E V O rest re) : Cd l y_FB_places c_FB_places 2 (some .int) 2 D ty tt [.ref (a 0), .int x] (fbW a ty N r en re O z tx X Y fc sl pt tot hv rest) (some (.int (if m_in x 0 (nI (N 5) - 1) = true then m_places (E 22 (ix x)) (E 23 (ix x)) (V (ix x)) else 99))) (fbW a ty N r en re O z tx X Y fc sl pt tot hv rest) := by
  obtain ⟨n0, n1, n2, n3, n4, n5⟩ := id hN
  obtain ⟨pC, pA, pX, pU, pF, I, hA, hF, hre, hV⟩ := id G
  refine Ct_of (by decide) (gle rfl) (fun p e s m args below meth c K hr hlk hin => ?_)
  refine gx_aload_n K d_FB_places_0 rfl rfl ?_
  refine gx_get K f_FB_19 (q0 := 0) rfl rfl d_FB_places_1 ?_
  refine gx_iload_n K d_FB_places_4 rfl rfl ?_
  refine gx_VNd K (z_Rep_hasFact hN _) Y_Rep_hasFact (ci := 3) rfl (q0 := 6) rfl k667 ks50 k665 rfl ⟨gle rfl, gle rfl⟩ ⟨gle rfl, gle rfl⟩ (gle rfl) d_FB_places_5 ?_
  refine gx_if_eqB K d_FB_places_8 rfl (fun h8 => ?_) (fun h8 => ?_)
  · skip
    refine gx_bipush (v := 99) K d_FB_places_26 rfl ?_
    exact gx_iret K hr hlk d_FB_places_28 ⟨congrArg (fun t => some (Value.int t)) (if_neg (by rw [h8]; decide)).symm, rfl⟩
  · skip
    have rx0 : rg x (N 5) := in_rgN h8 (by omega)
    have rx2 := rx0.2
    have rx : rg x 20 := ⟨rx0.1, by omega⟩
    refine gx_aload_n K d_FB_places_11 rfl rfl ?_
    refine gx_get K f_FB_19 (q0 := 0) rfl rfl d_FB_places_12 ?_
    refine gx_getN K f_FB_147 (q0 := 6) rfl rfl d_FB_places_15 ?_
    refine gx_iload_n K d_FB_places_18 rfl rfl ?_
    refine gx_aald K (t := 8) rfl (q0 := 9) rfl rx.1 rx.2 (by decide) d_FB_places_19 ?_
    obtain ⟨q19, k19, x19, i19, u19, hO19, hk19, gk19, uk19⟩ := pF ((ix x)) (by omega)
    rw [hO19]
    refine gx_getN K f_FB_157 (fb_pl hk19) rfl d_FB_places_20 ?_
    refine gx_goto K d_FB_places_23 rfl ?_
    exact gx_iret K hr hlk d_FB_places_28 ⟨congrArg (fun t => some (Value.int t)) (if_pos h8).symm, rfl⟩

set_option maxRecDepth 100000 in
set_option maxHeartbeats 1000000 in
theorem z_FB_rounded {l : Launch} {D : va_G} {ty : Nat → ClassId} {tt : Nat} {a : Nat → Nat} {N : Nat → Nat} {r : Nat → Int32} {en re : Int32} {O : Nat → Nat → Option Nat} {z : Nat} {tx : Nat → Int32} {X : Nat → Nat → Bool} {Y : Nat → Nat → Int32} {fc : Nat} {sl : Bool} {pt : Int32} {tot : Int64} {hv : Bool} {rest : va_W} (hN : mN N) (x : Int32) {B : Nat → Nat → Bool} {E : Nat → Nat → Int32} {V : Nat → Int64} (G : cI B N E V O rest re) : Cd l y_FB_rounded c_FB_rounded 2 (some .long) 2 D ty tt [.ref (a 0), .int x] (fbW a ty N r en re O z tx X Y fc sl pt tot hv rest) (some (.long (if m_in x 0 (nI (N 5) - 1) = true then m_rounded E V (ix x) else 0))) (fbW a ty N r en re O z tx X Y fc sl pt tot hv rest) := by
  obtain ⟨n0, n1, n2, n3, n4, n5⟩ := id hN
  obtain ⟨pC, pA, pX, pU, pF, I, hA, hF, hre, hV⟩ := id G
  refine Ct_of (by decide) (gle rfl) (fun p e s m args below meth c K hr hlk hin => ?_)
  refine gx_aload_n K d_FB_rounded_0 rfl rfl ?_
  refine gx_get K f_FB_19 (q0 := 0) rfl rfl d_FB_rounded_1 ?_
  refine gx_iload_n K d_FB_rounded_4 rfl rfl ?_
  refine gx_VNd K (z_Rep_hasFact hN _) Y_Rep_hasFact (ci := 3) rfl (q0 := 6) rfl k667 ks50 k665 rfl ⟨gle rfl, gle rfl⟩ ⟨gle rfl, gle rfl⟩ (gle rfl) d_FB_rounded_5 ?_
  refine gx_if_eqB K d_FB_rounded_8 rfl (fun h8 => ?_) (fun h8 => ?_)
  · skip
    refine gx_lconst (v := 0) K d_FB_rounded_26 rfl ?_
    exact gx_lret K hr hlk d_FB_rounded_27 ⟨congrArg (fun t => some (Value.long t)) (if_neg (by rw [h8]; decide)).symm, rfl⟩
  · skip
    have rx0 : rg x (N 5) := in_rgN h8 (by omega)
    have rx2 := rx0.2
    have rx : rg x 20 := ⟨rx0.1, by omega⟩
    refine gx_aload_n K d_FB_rounded_11 rfl rfl ?_
    refine gx_get K f_FB_19 (q0 := 0) rfl rfl d_FB_rounded_12 ?_
    refine gx_getN K f_FB_147 (q0 := 6) rfl rfl d_FB_rounded_15 ?_
    refine gx_iload_n K d_FB_rounded_18 rfl rfl ?_
    refine gx_aald K (t := 8) rfl (q0 := 9) rfl rx.1 rx.2 (by decide) d_FB_rounded_19 ?_
    obtain ⟨q19, k19, x19, i19, u19, hO19, hk19, gk19, uk19⟩ := pF ((ix x)) (by omega)
    rw [hO19]
    refine gx_getN K f_FB_160 (fb_pl hk19) rfl d_FB_rounded_20 ?_
    refine gx_goto K d_FB_rounded_23 rfl ?_
    exact gx_lret K hr hlk d_FB_rounded_27 ⟨congrArg (fun t => some (Value.long t)) (if_pos h8).symm, rfl⟩

set_option maxRecDepth 100000 in
set_option maxHeartbeats 1000000 in
theorem z_FB_sameContext {l : Launch} {D : va_G} {ty : Nat → ClassId} {tt : Nat} {a : Nat → Nat} {N : Nat → Nat} {r : Nat → Int32} {en re : Int32} {O : Nat → Nat → Option Nat} {z : Nat} {tx : Nat → Int32} {X : Nat → Nat → Bool} {Y : Nat → Nat → Int32} {fc : Nat} {sl : Bool} {pt : Int32} {tot : Int64} {hv : Bool} {rest : va_W} (hN : mN N) (x y : Int32) {B : Nat → Nat → Bool} {E : Nat → Nat → Int32} {V : Nat → Int64} (G : cI B N E V O rest re) : Cd l y_FB_sameContext c_FB_sameContext 3 (some .boolean) 2 D ty tt [.ref (a 0), .int x, .int y] (fbW a ty N r en re O z tx X Y fc sl pt tot hv rest) (some (.int (b2i (m_in x 0 (nI (N 2) - 1) && (m_in y 0 (nI (N 2) - 1) && m_eqX E (ix x) (ix y)))))) (fbW a ty N r en re O z tx X Y fc sl pt tot hv rest) := by
  obtain ⟨n0, n1, n2, n3, n4, n5⟩ := id hN
  obtain ⟨pC, pA, pX, pU, pF, I, hA, hF, hre, hV⟩ := id G
  refine Ct_of (by decide) (gle rfl) (fun p e s m args below meth c K hr hlk hin => ?_)
  refine gx_aload_n K d_FB_sameContext_0 rfl rfl ?_
  refine gx_get K f_FB_19 (q0 := 0) rfl rfl d_FB_sameContext_1 ?_
  refine gx_iload_n K d_FB_sameContext_4 rfl rfl ?_
  refine gx_VNd K (z_Rep_hasContext hN _) Y_Rep_hasContext (ci := 3) rfl (q0 := 6) rfl k408 ks11 k653 rfl ⟨gle rfl, gle rfl⟩ ⟨gle rfl, gle rfl⟩ (gle rfl) d_FB_sameContext_5 ?_
  refine gx_if_eqB K d_FB_sameContext_8 rfl (fun h8 => ?_) (fun h8 => ?_)
  · skip
    refine gx_iconst (v := b2i false) K d_FB_sameContext_50 rfl ?_
    exact gx_zret K hr hlk d_FB_sameContext_51 ⟨gRb (by rw [h8]; rfl), rfl⟩
  · skip
    refine gx_aload_n K d_FB_sameContext_11 rfl rfl ?_
    refine gx_get K f_FB_19 (q0 := 0) rfl rfl d_FB_sameContext_12 ?_
    refine gx_iload_n K d_FB_sameContext_15 rfl rfl ?_
    refine gx_VNd K (z_Rep_hasContext hN _) Y_Rep_hasContext (ci := 3) rfl (q0 := 6) rfl k408 ks11 k653 rfl ⟨gle rfl, gle rfl⟩ ⟨gle rfl, gle rfl⟩ (gle rfl) d_FB_sameContext_16 ?_
    refine gx_if_eqB K d_FB_sameContext_19 rfl (fun h19 => ?_) (fun h19 => ?_)
    · skip
      refine gx_iconst (v := b2i false) K d_FB_sameContext_50 rfl ?_
      exact gx_zret K hr hlk d_FB_sameContext_51 ⟨gRb (by rw [h19]; simp), rfl⟩
    · skip
      have rx0 : rg x (N 2) := in_rgN h8 (by omega)
      have rx2 := rx0.2
      have rx : rg x 12 := ⟨rx0.1, by omega⟩
      have ry0 : rg y (N 2) := in_rgN h19 (by omega)
      have ry2 := ry0.2
      have ry : rg y 12 := ⟨ry0.1, by omega⟩
      refine gx_aload_n K d_FB_sameContext_22 rfl rfl ?_
      refine gx_get K f_FB_19 (q0 := 0) rfl rfl d_FB_sameContext_23 ?_
      refine gx_getN K f_FB_121 (q0 := 6) rfl rfl d_FB_sameContext_26 ?_
      refine gx_iload_n K d_FB_sameContext_29 rfl rfl ?_
      refine gx_aald K (t := 6) rfl (q0 := 7) rfl rx.1 rx.2 (by decide) d_FB_sameContext_30 ?_
      obtain ⟨q30, k30, hO30, hk30⟩ := pX ((ix x)) (by omega)
      rw [hO30]
      refine gx_aload_n K d_FB_sameContext_31 rfl rfl ?_
      refine gx_get K f_FB_19 (q0 := 0) rfl rfl d_FB_sameContext_32 ?_
      refine gx_getN K f_FB_121 (q0 := 6) rfl rfl d_FB_sameContext_35 ?_
      refine gx_iload_n K d_FB_sameContext_38 rfl rfl ?_
      refine gx_aald K (t := 6) rfl (q0 := 7) rfl ry.1 ry.2 (by decide) d_FB_sameContext_39 ?_
      obtain ⟨q39, k39, hO39, hk39⟩ := pX ((ix y)) (by omega)
      rw [hO39]
      refine gx_VNd K (z_Ctx_matches (fb_pl hk30) (fb_pl hk39)) Y_Ctx_matches (ci := 9) rfl (fb_pl hk30) k575 ks33 k654 rfl ⟨gle rfl, gle rfl⟩ ⟨gle rfl, gle rfl⟩ (gle rfl) d_FB_sameContext_40 ?_
      refine gx_if_eqB K d_FB_sameContext_43 rfl (fun h43 => ?_) (fun h43 => ?_)
      · skip
        refine gx_iconst (v := b2i false) K d_FB_sameContext_50 rfl ?_
        exact gx_zret K hr hlk d_FB_sameContext_51 ⟨gRb (by rw [h8, h19]; unfold m_eqX; rw [h43]; rfl), rfl⟩
      · skip
        refine gx_iconst (v := b2i true) K d_FB_sameContext_46 rfl ?_
        refine gx_goto K d_FB_sameContext_47 rfl ?_
        exact gx_zret K hr hlk d_FB_sameContext_51 ⟨gRb (by rw [h8, h19]; unfold m_eqX; rw [h43]; rfl), rfl⟩

set_option maxRecDepth 100000 in
set_option maxHeartbeats 1000000 in
theorem z_FB_sameUnit {l : Launch} {D : va_G} {ty : Nat → ClassId} {tt : Nat} {a : Nat → Nat} {N : Nat → Nat} {r : Nat → Int32} {en re : Int32} {O : Nat → Nat → Option Nat} {z : Nat} {tx : Nat → Int32} {X : Nat → Nat → Bool} {Y : Nat → Nat → Int32} {fc : Nat} {sl : Bool} {pt : Int32} {tot : Int64} {hv : Bool} {rest : va_W} (hN : mN N) (x y : Int32) {B : Nat → Nat → Bool} {E : Nat → Nat → Int32} {V : Nat → Int64} (G : cI B N E V O rest re) : Cd l y_FB_sameUnit c_FB_sameUnit 3 (some .boolean) 2 D ty tt [.ref (a 0), .int x, .int y] (fbW a ty N r en re O z tx X Y fc sl pt tot hv rest) (some (.int (b2i (m_in x 0 (nI (N 3) - 1) && (m_in y 0 (nI (N 3) - 1) && m_eqU E x y))))) (fbW a ty N r en re O z tx X Y fc sl pt tot hv rest) := by
  obtain ⟨n0, n1, n2, n3, n4, n5⟩ := id hN
  obtain ⟨pC, pA, pX, pU, pF, I, hA, hF, hre, hV⟩ := id G
  refine Ct_of (by decide) (gle rfl) (fun p e s m args below meth c K hr hlk hin => ?_)
  refine gx_aload_n K d_FB_sameUnit_0 rfl rfl ?_
  refine gx_get K f_FB_19 (q0 := 0) rfl rfl d_FB_sameUnit_1 ?_
  refine gx_iload_n K d_FB_sameUnit_4 rfl rfl ?_
  refine gx_VNd K (z_Rep_hasUnit hN _) Y_Rep_hasUnit (ci := 3) rfl (q0 := 6) rfl k412 ks12 k659 rfl ⟨gle rfl, gle rfl⟩ ⟨gle rfl, gle rfl⟩ (gle rfl) d_FB_sameUnit_5 ?_
  refine gx_if_eqB K d_FB_sameUnit_8 rfl (fun h8 => ?_) (fun h8 => ?_)
  · skip
    refine gx_iconst (v := b2i false) K d_FB_sameUnit_50 rfl ?_
    exact gx_zret K hr hlk d_FB_sameUnit_51 ⟨gRb (by rw [h8]; rfl), rfl⟩
  · skip
    refine gx_aload_n K d_FB_sameUnit_11 rfl rfl ?_
    refine gx_get K f_FB_19 (q0 := 0) rfl rfl d_FB_sameUnit_12 ?_
    refine gx_iload_n K d_FB_sameUnit_15 rfl rfl ?_
    refine gx_VNd K (z_Rep_hasUnit hN _) Y_Rep_hasUnit (ci := 3) rfl (q0 := 6) rfl k412 ks12 k659 rfl ⟨gle rfl, gle rfl⟩ ⟨gle rfl, gle rfl⟩ (gle rfl) d_FB_sameUnit_16 ?_
    refine gx_if_eqB K d_FB_sameUnit_19 rfl (fun h19 => ?_) (fun h19 => ?_)
    · skip
      refine gx_iconst (v := b2i false) K d_FB_sameUnit_50 rfl ?_
      exact gx_zret K hr hlk d_FB_sameUnit_51 ⟨gRb (by rw [h19]; simp), rfl⟩
    · skip
      have rx0 : rg x (N 3) := in_rgN h8 (by omega)
      have rx2 := rx0.2
      have rx : rg x 8 := ⟨rx0.1, by omega⟩
      have ry0 : rg y (N 3) := in_rgN h19 (by omega)
      have ry2 := ry0.2
      have ry : rg y 8 := ⟨ry0.1, by omega⟩
      refine gx_aload_n K d_FB_sameUnit_22 rfl rfl ?_
      refine gx_get K f_FB_19 (q0 := 0) rfl rfl d_FB_sameUnit_23 ?_
      refine gx_getN K f_FB_134 (q0 := 6) rfl rfl d_FB_sameUnit_26 ?_
      refine gx_iload_n K d_FB_sameUnit_29 rfl rfl ?_
      refine gx_aald K (t := 7) rfl (q0 := 8) rfl rx.1 rx.2 (by decide) d_FB_sameUnit_30 ?_
      obtain ⟨q30, k30, hO30, hk30⟩ := pU ((ix x)) (by omega)
      rw [hO30]
      refine gx_aload_n K d_FB_sameUnit_31 rfl rfl ?_
      refine gx_get K f_FB_19 (q0 := 0) rfl rfl d_FB_sameUnit_32 ?_
      refine gx_getN K f_FB_134 (q0 := 6) rfl rfl d_FB_sameUnit_35 ?_
      refine gx_iload_n K d_FB_sameUnit_38 rfl rfl ?_
      refine gx_aald K (t := 7) rfl (q0 := 8) rfl ry.1 ry.2 (by decide) d_FB_sameUnit_39 ?_
      obtain ⟨q39, k39, hO39, hk39⟩ := pU ((ix y)) (by omega)
      rw [hO39]
      refine gx_SNd K (z_Uni_areSame (fb_pl hk30) (fb_pl hk39)) Y_Uni_areSame k578 k660 rfl ⟨gle rfl, gle rfl⟩ ⟨gle rfl, gle rfl⟩ (gle rfl) d_FB_sameUnit_40 ?_
      refine gx_if_eqB K d_FB_sameUnit_43 rfl (fun h43 => ?_) (fun h43 => ?_)
      · skip
        refine gx_iconst (v := b2i false) K d_FB_sameUnit_50 rfl ?_
        exact gx_zret K hr hlk d_FB_sameUnit_51 ⟨gRb (by rw [h8, h19]; unfold m_eqU; rw [if_neg (fun q => q.elim (Int32.not_lt.mpr (rg_nn rx (by decide))) (Int32.not_lt.mpr (rg_nn ry (by decide))))]; rw [h43]; rfl), rfl⟩
      · skip
        refine gx_iconst (v := b2i true) K d_FB_sameUnit_46 rfl ?_
        refine gx_goto K d_FB_sameUnit_47 rfl ?_
        exact gx_zret K hr hlk d_FB_sameUnit_51 ⟨gRb (by rw [h8, h19]; unfold m_eqU; rw [if_neg (fun q => q.elim (Int32.not_lt.mpr (rg_nn rx (by decide))) (Int32.not_lt.mpr (rg_nn ry (by decide))))]; rw [h43]; rfl), rfl⟩

