theorem ten_eq0 {x : Int32} (h : 0 ≤ x ∧ x ≤ 16) : k_ten x = m_ten x ∧ 0 < m_ten x := by
  have h1 := Int32.le_iff_toInt_le.mp h.1
  have h2 := Int32.le_iff_toInt_le.mp h.2
  have e1 : (0 : Int32).toInt = 0 := rfl
  have e2 : (16 : Int32).toInt = 16 := rfl
  constructor
  · unfold k_ten m_ten
    rw [if_pos]
    unfold m_in
    rw [decide_eq_true h.2, decide_eq_true h.1]
    rfl
  · unfold m_ten
    have : ix x ≤ 16 := by unfold ix; rw [← Int32.toNat_toInt]; omega
    exact (by decide +kernel : ∀ q, q < 17 → 0 < Int64.ofNat (10 ^ q)) _ (by omega)
theorem rnd_eq {md k : Int32} {v : Int64} (h : md = 1 → -9 ≤ k ∧ k ≤ 6) : r_c v (k_ten (6 - m_places md k v)) = r_m v (m_ten (6 - m_places md k v)) := by
  have hp := pl_in (md := md) (k := k) (v := v) h
  have ht := ten_eq0 (x := 6 - m_places md k v) (by
    generalize m_places md k v = q at hp
    have h1 := Int32.le_iff_toInt_le.mp hp.1
    have h2 := Int32.le_iff_toInt_le.mp hp.2
    have e9 : (-9 : Int32).toInt = -9 := rfl
    have e6 : (6 : Int32).toInt = 6 := rfl
    have e1 : (0 : Int32).toInt = 0 := rfl
    have e16 : (16 : Int32).toInt = 16 := rfl
    have e7 : (6 - q).toInt = 6 - q.toInt := by
      rw [Int32.toInt_sub, e6]
      exact Int.bmod_eq_of_le (by omega) (by omega)
    exact ⟨Int32.le_iff_toInt_le.mpr (by omega), Int32.le_iff_toInt_le.mpr (by omega)⟩)
  rw [ht.1, r_cm ht.2]
set_option maxRecDepth 100000 in
set_option maxHeartbeats 1000000 in
theorem z_Fac_init {l : Launch} {D : va_G} {ty : Nat → ClassId} {tt : Nat} {ws : va_W} {q : Nat} (x1 : Int32) (t2 : Nat) (t3 : Nat) (x4 x5 : Int32) (v0 : Int64) (hv : -(10 ^ 15 : Int) < v0.toInt ∧ v0.toInt < 10 ^ 15) (hk : x4 = 1 → -9 ≤ x5 ∧ x5 ≤ 6) : Cd l y_Fac_init c_Fac_init 8 none 2 D ty tt [.ref q, .int x1, .ref t2, .ref t3, .int x4, .int x5, .long v0] ((q, .inr (11, [.int 0, .null, .null, .int 0, .int 0, .long 0, .int 0, .long 0])) :: ws) none ((q, .inr (11, [.int x1, .ref t2, .ref t3, .int x4, .int x5, .long v0, .int (m_places x4 x5 v0), .long (r_m v0 (m_ten (6 - m_places x4 x5 v0)))])) :: ws) := by
  refine Ct_of (by decide) (gle rfl) (fun p e s m args below meth c K hr hlk hin => ?_)
  refine gx_aload_n K d_Fac_init_0 rfl rfl ?_
  refine gx_objInit K k444 k21 k22 ⟨gle rfl, gle rfl⟩ d_Fac_init_1 ?_
  refine gx_aload_n K d_Fac_init_4 rfl rfl ?_
  refine gx_iload_n K d_Fac_init_5 rfl rfl ?_
  refine gx_putF K f_Fac_9 ft_Fac rfl hin rfl (q0 := 0) rfl rfl rfl (gle rfl) d_Fac_init_6 ?_
  refine gx_aload_n K d_Fac_init_9 rfl rfl ?_
  refine gx_aload_n K d_Fac_init_10 rfl rfl ?_
  refine gx_putF K f_Fac_15 ft_Fac rfl hin rfl (q0 := 0) rfl rfl rfl (gle rfl) d_Fac_init_11 ?_
  refine gx_aload_n K d_Fac_init_14 rfl rfl ?_
  refine gx_aload_n K d_Fac_init_15 rfl rfl ?_
  refine gx_putF K f_Fac_19 ft_Fac rfl hin rfl (q0 := 0) rfl rfl rfl (gle rfl) d_Fac_init_16 ?_
  refine gx_aload_n K d_Fac_init_19 rfl rfl ?_
  refine gx_iload K d_Fac_init_20 rfl ?_
  refine gx_putF K f_Fac_23 ft_Fac rfl hin rfl (q0 := 0) rfl rfl rfl (gle rfl) d_Fac_init_22 ?_
  refine gx_aload_n K d_Fac_init_25 rfl rfl ?_
  refine gx_iload K d_Fac_init_26 rfl ?_
  refine gx_putF K f_Fac_26 ft_Fac rfl hin rfl (q0 := 0) rfl rfl rfl (gle rfl) d_Fac_init_28 ?_
  refine gx_aload_n K d_Fac_init_31 rfl rfl ?_
  refine gx_lload K d_Fac_init_32 rfl ?_
  refine gx_putF K f_Fac_29 ft_Fac rfl hin rfl (q0 := 0) rfl rfl rfl (gle rfl) d_Fac_init_34 ?_
  refine gx_aload_n K d_Fac_init_37 rfl rfl ?_
  refine gx_iload K d_Fac_init_38 rfl ?_
  refine gx_iload K d_Fac_init_40 rfl ?_
  refine gx_lload K d_Fac_init_42 rfl ?_
  refine gx_Sd K (z_Fac_findPlaces x4 x5 v0 hv) Y_Fac_findPlaces k446 k445 rfl ⟨gle rfl, gle rfl⟩ ⟨gle rfl, gle rfl⟩ (gle rfl) d_Fac_init_44 ?_
  refine gx_putF K f_Fac_37 ft_Fac rfl hin rfl (q0 := 0) rfl rfl rfl (gle rfl) d_Fac_init_47 ?_
  refine gx_aload_n K d_Fac_init_50 rfl rfl ?_
  refine gx_lload K d_Fac_init_51 rfl ?_
  refine gx_bipush (v := 6) K d_Fac_init_53 rfl ?_
  refine gx_aload_n K d_Fac_init_55 rfl rfl ?_
  refine gx_get K f_Fac_37 (q0 := 0) rfl rfl d_Fac_init_56 ?_
  refine gx_isub K d_Fac_init_59 ?_
  refine gx_SNd K (z_FB_tenTo _) Y_FB_tenTo k436 k458 rfl ⟨gle rfl, gle rfl⟩ ⟨gle rfl, gle rfl⟩ (gle rfl) d_Fac_init_60 ?_
  refine gx_SNd K (z_FB_roundTo _ _) Y_FB_roundTo k460 k459 rfl ⟨gle rfl, gle rfl⟩ ⟨gle rfl, gle rfl⟩ (gle rfl) d_Fac_init_63 ?_
  rw [rnd_eq hk]
  refine gx_putF K f_Fac_48 ft_Fac rfl hin rfl (q0 := 0) rfl rfl rfl (gle rfl) d_Fac_init_66 ?_
  exact gx_vret K hr hlk d_Fac_init_69 ⟨rfl, rfl⟩

set_option maxRecDepth 100000 in
set_option maxHeartbeats 1000000 in
theorem z_Fac_initN {l : Launch} {D : va_G} {ty : Nat → ClassId} {tt : Nat} {ws : va_W} {q : Nat} (x1 : Int32) (t2 : Nat) (x4 x5 : Int32) (v0 : Int64) (hv : -(10 ^ 15 : Int) < v0.toInt ∧ v0.toInt < 10 ^ 15) (hk : x4 = 1 → -9 ≤ x5 ∧ x5 ≤ 6) : Cd l y_Fac_init c_Fac_init 8 none 2 D ty tt [.ref q, .int x1, .ref t2, .null, .int x4, .int x5, .long v0] ((q, .inr (11, [.int 0, .null, .null, .int 0, .int 0, .long 0, .int 0, .long 0])) :: ws) none ((q, .inr (11, [.int x1, .ref t2, .null, .int x4, .int x5, .long v0, .int (m_places x4 x5 v0), .long (r_m v0 (m_ten (6 - m_places x4 x5 v0)))])) :: ws) := by
  refine Ct_of (by decide) (gle rfl) (fun p e s m args below meth c K hr hlk hin => ?_)
  refine gx_aload_n K d_Fac_init_0 rfl rfl ?_
  refine gx_objInit K k444 k21 k22 ⟨gle rfl, gle rfl⟩ d_Fac_init_1 ?_
  refine gx_aload_n K d_Fac_init_4 rfl rfl ?_
  refine gx_iload_n K d_Fac_init_5 rfl rfl ?_
  refine gx_putF K f_Fac_9 ft_Fac rfl hin rfl (q0 := 0) rfl rfl rfl (gle rfl) d_Fac_init_6 ?_
  refine gx_aload_n K d_Fac_init_9 rfl rfl ?_
  refine gx_aload_n K d_Fac_init_10 rfl rfl ?_
  refine gx_putF K f_Fac_15 ft_Fac rfl hin rfl (q0 := 0) rfl rfl rfl (gle rfl) d_Fac_init_11 ?_
  refine gx_aload_n K d_Fac_init_14 rfl rfl ?_
  refine gx_aload_nN K d_Fac_init_15 rfl rfl ?_
  refine gx_putF K f_Fac_19 ft_Fac rfl hin rfl (q0 := 0) rfl rfl rfl (gle rfl) d_Fac_init_16 ?_
  refine gx_aload_n K d_Fac_init_19 rfl rfl ?_
  refine gx_iload K d_Fac_init_20 rfl ?_
  refine gx_putF K f_Fac_23 ft_Fac rfl hin rfl (q0 := 0) rfl rfl rfl (gle rfl) d_Fac_init_22 ?_
  refine gx_aload_n K d_Fac_init_25 rfl rfl ?_
  refine gx_iload K d_Fac_init_26 rfl ?_
  refine gx_putF K f_Fac_26 ft_Fac rfl hin rfl (q0 := 0) rfl rfl rfl (gle rfl) d_Fac_init_28 ?_
  refine gx_aload_n K d_Fac_init_31 rfl rfl ?_
  refine gx_lload K d_Fac_init_32 rfl ?_
  refine gx_putF K f_Fac_29 ft_Fac rfl hin rfl (q0 := 0) rfl rfl rfl (gle rfl) d_Fac_init_34 ?_
  refine gx_aload_n K d_Fac_init_37 rfl rfl ?_
  refine gx_iload K d_Fac_init_38 rfl ?_
  refine gx_iload K d_Fac_init_40 rfl ?_
  refine gx_lload K d_Fac_init_42 rfl ?_
  refine gx_Sd K (z_Fac_findPlaces x4 x5 v0 hv) Y_Fac_findPlaces k446 k445 rfl ⟨gle rfl, gle rfl⟩ ⟨gle rfl, gle rfl⟩ (gle rfl) d_Fac_init_44 ?_
  refine gx_putF K f_Fac_37 ft_Fac rfl hin rfl (q0 := 0) rfl rfl rfl (gle rfl) d_Fac_init_47 ?_
  refine gx_aload_n K d_Fac_init_50 rfl rfl ?_
  refine gx_lload K d_Fac_init_51 rfl ?_
  refine gx_bipush (v := 6) K d_Fac_init_53 rfl ?_
  refine gx_aload_n K d_Fac_init_55 rfl rfl ?_
  refine gx_get K f_Fac_37 (q0 := 0) rfl rfl d_Fac_init_56 ?_
  refine gx_isub K d_Fac_init_59 ?_
  refine gx_SNd K (z_FB_tenTo _) Y_FB_tenTo k436 k458 rfl ⟨gle rfl, gle rfl⟩ ⟨gle rfl, gle rfl⟩ (gle rfl) d_Fac_init_60 ?_
  refine gx_SNd K (z_FB_roundTo _ _) Y_FB_roundTo k460 k459 rfl ⟨gle rfl, gle rfl⟩ ⟨gle rfl, gle rfl⟩ (gle rfl) d_Fac_init_63 ?_
  rw [rnd_eq hk]
  refine gx_putF K f_Fac_48 ft_Fac rfl hin rfl (q0 := 0) rfl rfl rfl (gle rfl) d_Fac_init_66 ?_
  exact gx_vret K hr hlk d_Fac_init_69 ⟨rfl, rfl⟩

def k_fcl (N : Nat → Nat) (tx : Nat → Int32) (ist : Bool) (x3 x4 x5 x6 : Int32) : Bool := (m_in x3 0 (nI (N 2) - 1) && ((decide (x4 = -1) || m_in x4 0 (nI (N 3) - 1)) && ((decide (x5 = 0) || (decide (x5 = 3) || ((decide (x5 = 1) && m_in x6 (-9) 6) || (decide (x5 = 2) && m_in x6 0 15)))) && (ist || k_ok tx (N 4))))) && decide (N 5 < 20)
def k_amt (N : Nat → Nat) (tx : Nat → Int32) (ist : Bool) : Int64 := if ist = true then (0 : Int64) else k_val tx (N 4)
theorem fcl_acc {x5 x6 : Int32} (h : (decide (x5 = 0) || (decide (x5 = 3) || ((decide (x5 = 1) && m_in x6 (-9) 6) || (decide (x5 = 2) && m_in x6 0 15)))) = true) : x5 = 1 → -9 ≤ x6 ∧ x6 ≤ 6 := by
  intro e
  subst e
  unfold m_in at h
  simpa using h
set_option maxRecDepth 100000 in
set_option maxHeartbeats 1000000 in
theorem z_Rep_addFact {l : Launch} {D : va_G} {ty : Nat → ClassId} {tt : Nat} {a : Nat → Nat} {N : Nat → Nat} {r : Nat → Int32} {en re : Int32} {O : Nat → Nat → Option Nat} {z : Nat} {tx : Nat → Int32} {X : Nat → Nat → Bool} {Y : Nat → Nat → Int32} {fc : Nat} {sl : Bool} {pt : Int32} {tot : Int64} {hv : Bool} {rest : va_W} (hN : mN N) {B : Nat → Nat → Bool} {E : Nat → Nat → Int32} {V : Nat → Int64} (G : cI B N E V O rest re) (x1 : Int32) (ist : Bool) (x3 x4 x5 x6 : Int32) (hB : k_ok tx (N 4) = true → -(10 ^ 15 : Int) < (k_val tx (N 4)).toInt ∧ (k_val tx (N 4)).toInt < 10 ^ 15) : Ct l y_Rep_addFact c_Rep_addFact 11 (some .int) 3 1 8 D ty tt [.ref (a 6), .int x1, .int (b2i ist), .int x3, .int x4, .int x5, .int x6] (fbW a ty N r en re O z tx X Y fc sl pt tot hv rest) (fun v1 w1 => ∃ (q xq : Nat) (ul : Value), v1 = some (.int (if k_fcl N tx ist x3 x4 x5 x6 = true then nI (N 5) else -1)) ∧ w1 = (if k_fcl N tx ist x3 x4 x5 x6 = true then (fbW a ty (va_up (va_up N 4 0) 5 (N 5 + 1)) r en re (va_up O 4 (va_up (O 4) (N 5) (some q))) z tx X Y fc sl pt tot hv (rest ++ [(q, .inr (11, [.int x1, .ref xq, ul, .int x5, .int x6, .long (k_amt N tx ist), .int (m_places x5 x6 (k_amt N tx ist)), .long (r_m (k_amt N tx ist) (m_ten (6 - m_places x5 x6 (k_amt N tx ist))))]))])) else (fbW a ty N r en re O z tx X Y fc sl pt tot hv rest)) ∧ (k_fcl N tx ist x3 x4 x5 x6 = true → O 2 (ix x3) = some xq ∧ ((x4 = -1 ∧ ul = .null) ∨ ∃ y : Nat, ¬ x4 < 0 ∧ ul = .ref y ∧ O 3 (ix x4) = some y))) := by
  obtain ⟨n0, n1, n2, n3, n4, n5⟩ := id hN
  obtain ⟨pC, pA, pX, pU, pF, I, hA, hF, hre, hV⟩ := id G
  refine Ct_of (by decide) (gle rfl) (fun p e s m args below meth c K hr hlk hin => ?_)
  refine gx_cut (X := m_in x3 0 (nI (N 2) - 1) && ((decide (x4 = -1) || m_in x4 0 (nI (N 3) - 1)) && ((decide (x5 = 0) || (decide (x5 = 3) || ((decide (x5 = 1) && m_in x6 (-9) 6) || (decide (x5 = 2) && m_in x6 0 15)))) && (ist || k_ok tx (N 4))))) 52 ?_ (fun j52 => ?_)
  · skip
    refine gx_istore K d_Rep_addFact_52 (gle rfl) rfl ?_
    refine gx_iload K d_Rep_addFact_54 rfl ?_
    refine gx_if_eqB K d_Rep_addFact_56 rfl (fun h56 => ?_) (fun h56 => ?_)
    · skip
      refine gx_iconst (v := -1) K d_Rep_addFact_68 rfl ?_
      refine gx_wide (k1 := 1) (n1 := 8) (gle rfl) (gle rfl) ?_
      exact gx_iret K hr hlk d_Rep_addFact_69 ⟨0, 0, .null, by rw [show k_fcl N tx ist x3 x4 x5 x6 = false from (by unfold k_fcl; rw [h56]; rfl)]; rfl, by rw [show k_fcl N tx ist x3 x4 x5 x6 = false from (by unfold k_fcl; rw [h56]; rfl)]; rfl, fun z9 => absurd z9 (by rw [show k_fcl N tx ist x3 x4 x5 x6 = false from (by unfold k_fcl; rw [h56]; rfl)]; decide)⟩
    · skip
      refine gx_aload_n K d_Rep_addFact_59 rfl rfl ?_
      refine gx_get K f_Rep_47 (q0 := 6) rfl rfl d_Rep_addFact_60 ?_
      refine gx_bipush (v := 20) K d_Rep_addFact_63 rfl ?_
      refine gx_icmp_lt K d_Rep_addFact_65 rfl (fun h65 => ?_) (fun h65 => ?_)
      · skip
        have h65n : N 5 < 20 := (nI_ltI (a := N 5) (b := 20) (by omega) (by omega)).mp h65
        have hk : k_fcl N tx ist x3 x4 x5 x6 = true := by unfold k_fcl; rw [h56, decide_eq_true h65n]; rfl
        have hS := h56
        simp only [Bool.and_eq_true] at hS
        obtain ⟨hs1, hs2, hs3, hs4⟩ := hS
        have hac := fcl_acc hs3
        have rx0 : rg x3 (N 2) := in_rgN hs1 (by omega)
        have rx2 := rx0.2
        have rx : rg x3 12 := ⟨rx0.1, by omega⟩
        have hbd : -(10 ^ 15 : Int) < (k_amt N tx ist).toInt ∧ (k_amt N tx ist).toInt < 10 ^ 15 := by
          unfold k_amt
          by_cases q : ist = true
          · rw [if_pos q]; exact (by decide : -(10 ^ 15 : Int) < (0 : Int64).toInt ∧ (0 : Int64).toInt < 10 ^ 15)
          · rw [if_neg q]
            simp only [q, Bool.false_or] at hs4
            exact hB (by simpa using hs4)
        refine gx_cutL (X := k_amt N tx ist) 85 ?_ (fun j85 => ?_)
        · skip
          refine gx_lstore K d_Rep_addFact_85 (gle rfl) rfl ?_
          refine gx_iload K d_Rep_addFact_87 rfl ?_
          refine gx_iconst (v := -1) K d_Rep_addFact_89 rfl ?_
          refine gx_icmp_ne K d_Rep_addFact_90 rfl (fun h90 => ?_) (fun h90 => ?_)
          · skip
            have hu : m_in x4 0 (nI (N 3) - 1) = true := by simpa [h90] using hs2
            have ry0 : rg x4 (N 3) := in_rgN hu (by omega)
            have ry2 := ry0.2
            have ry : rg x4 8 := ⟨ry0.1, by omega⟩
            have hnn : ¬ x4 < 0 := Int32.not_lt.mpr (rg_nn ry (by decide))
            refine gx_aload_n K d_Rep_addFact_97 rfl rfl ?_
            refine gx_get K f_Rep_19 (q0 := 6) rfl rfl d_Rep_addFact_98 ?_
            refine gx_iload K d_Rep_addFact_101 rfl ?_
            refine gx_aald K (t := 7) rfl (q0 := 8) rfl ry.1 ry.2 (by decide) d_Rep_addFact_103 ?_
            obtain ⟨q103, k103, hO103, hk103⟩ := pU ((ix x4)) (by omega)
            rw [hO103]
            refine gx_astore K d_Rep_addFact_104 (gle rfl) rfl ?_
            refine gx_aload_n K d_Rep_addFact_106 rfl rfl ?_
            refine gx_get K f_Rep_25 (q0 := 6) rfl rfl d_Rep_addFact_107 ?_
            refine gx_aload_n K d_Rep_addFact_110 rfl rfl ?_
            refine gx_get K f_Rep_47 (q0 := 6) rfl rfl d_Rep_addFact_111 ?_
            refine gx_new K (ci := 11) (fs := [.int 0, .null, .null, .int 0, .int 0, .long 0, .int 0, .long 0]) rfl in_Fac ft_Fac k107 k440 k13 (fun j h => match j, h with | 0, _ => rfl | 1, _ => rfl | 2, _ => rfl | 3, _ => rfl | 4, _ => rfl | 5, _ => rfl | 6, _ => rfl | 7, _ => rfl | j_ + 8, h => absurd h (by omega)) ⟨gle rfl, gle rfl⟩ d_Rep_addFact_114 (fun q114 => ?_)
            refine gx_ws (w1 := (fbW a ty N r en re O z tx X Y fc sl pt tot hv (rest ++ [(q114, .inr (11, [.int 0, .null, .null, .int 0, .int 0, .long 0, .int 0, .long 0]))]))) rfl ?_
            refine gx_dup K d_Rep_addFact_117 rfl ?_
            refine gx_iload_n K d_Rep_addFact_118 rfl rfl ?_
            refine gx_aload_n K d_Rep_addFact_119 rfl rfl ?_
            refine gx_get K f_Rep_11 (q0 := 6) rfl rfl d_Rep_addFact_120 ?_
            refine gx_iload_n K d_Rep_addFact_123 rfl rfl ?_
            refine gx_aald K (t := 6) rfl (q0 := 7) rfl rx.1 rx.2 (by decide) d_Rep_addFact_124 ?_
            obtain ⟨q124, k124, hO124, hk124⟩ := pX ((ix x3)) (by omega)
            rw [hO124]
            refine gx_aload K d_Rep_addFact_125 rfl ?_
            refine gx_iload K d_Rep_addFact_127 rfl ?_
            refine gx_iload K d_Rep_addFact_129 rfl ?_
            refine gx_lload K d_Rep_addFact_131 rfl ?_
            refine gx_ws (w1 := (fbW a ty N r en re O z tx X Y fc sl pt tot hv rest) ++ [(q114, .inr (11, [.int 0, .null, .null, .int 0, .int 0, .long 0, .int 0, .long 0]))]) rfl ?_
            refine gy_last ?_
            refine gx_INdv K (z_Fac_init x1 q124 q103 x5 x6 (k_amt N tx ist) hbd hac) Y_Fac_init rfl k442 k441 rfl ⟨gle rfl, gle rfl⟩ ⟨gle rfl, gle rfl⟩ (gle rfl) d_Rep_addFact_133 ?_
            refine gy_first ?_
            refine gx_ws (w1 := (fbW a ty N r en re O z tx X Y fc sl pt tot hv (rest ++ [(q114, .inr (11, [.int x1, .ref q124, .ref q103, .int x5, .int x6, .long (k_amt N tx ist), .int (m_places x5 x6 (k_amt N tx ist)), .long (r_m (k_amt N tx ist) (m_ten (6 - m_places x5 x6 (k_amt N tx ist))))]))]))) rfl ?_
            refine gx_aast K (t := 8) rfl rfl (q0 := 9) rfl (fb_pl (pe_at rest _)) rfl (by omega) (by decide) d_Rep_addFact_136 ?_
            refine gx_ws (w1 := (fbW a ty N r en re (va_up O 4 (va_up (O 4) (N 5) (some q114))) z tx X Y fc sl pt tot hv (rest ++ [(q114, .inr (11, [.int x1, .ref q124, .ref q103, .int x5, .int x6, .long (k_amt N tx ist), .int (m_places x5 x6 (k_amt N tx ist)), .long (r_m (k_amt N tx ist) (m_ten (6 - m_places x5 x6 (k_amt N tx ist))))]))]))) rfl ?_
            refine gx_aload_n K d_Rep_addFact_137 rfl rfl ?_
            refine gx_get K f_Rep_32 (q0 := 6) rfl rfl d_Rep_addFact_138 ?_
            refine gx_iconst (v := 0) K d_Rep_addFact_141 rfl ?_
            refine gx_putN K f_Rep_81 ft_Num rfl (q0 := 10) rfl rfl rfl (gle rfl) d_Rep_addFact_142 ?_
            refine gx_ws (w1 := (fbW a ty (va_up N 4 0) r en re (va_up O 4 (va_up (O 4) (N 5) (some q114))) z tx X Y fc sl pt tot hv (rest ++ [(q114, .inr (11, [.int x1, .ref q124, .ref q103, .int x5, .int x6, .long (k_amt N tx ist), .int (m_places x5 x6 (k_amt N tx ist)), .long (r_m (k_amt N tx ist) (m_ten (6 - m_places x5 x6 (k_amt N tx ist))))]))]))) rfl ?_
            refine gx_aload_n K d_Rep_addFact_145 rfl rfl ?_
            refine gx_dup K d_Rep_addFact_146 rfl ?_
            refine gx_get K f_Rep_47 (q0 := 6) rfl rfl d_Rep_addFact_147 ?_
            refine gx_dup_x1 K d_Rep_addFact_150 rfl rfl ?_
            refine gx_iconst (v := 1) K d_Rep_addFact_151 rfl ?_
            refine gx_iaddN K (N 5) (1) d_Rep_addFact_152 ?_
            refine gx_put K f_Rep_47 ft_Rep rfl (q0 := 6) rfl rfl rfl (gle rfl) d_Rep_addFact_153 ?_
            refine gx_ws (w1 := (fbW a ty (va_up (va_up N 4 0) 5 (N 5 + 1)) r en re (va_up O 4 (va_up (O 4) (N 5) (some q114))) z tx X Y fc sl pt tot hv (rest ++ [(q114, .inr (11, [.int x1, .ref q124, .ref q103, .int x5, .int x6, .long (k_amt N tx ist), .int (m_places x5 x6 (k_amt N tx ist)), .long (r_m (k_amt N tx ist) (m_ten (6 - m_places x5 x6 (k_amt N tx ist))))]))]))) rfl ?_
            exact gx_iret K hr hlk d_Rep_addFact_156 ⟨q114, q124, .ref q103, congrArg (fun t => some (Value.int t)) (if_pos hk).symm, (if_pos hk).symm, fun _ => ⟨(by first | exact hO124 | rfl), Or.inr ⟨q103, hnn, rfl, (by first | exact hO103 | rfl)⟩⟩⟩
          · skip
            refine gx_null K d_Rep_addFact_93 ?_
            refine gx_goto K d_Rep_addFact_94 rfl ?_
            refine gx_astoreN K d_Rep_addFact_104 (gle rfl) rfl ?_
            refine gx_aload_n K d_Rep_addFact_106 rfl rfl ?_
            refine gx_get K f_Rep_25 (q0 := 6) rfl rfl d_Rep_addFact_107 ?_
            refine gx_aload_n K d_Rep_addFact_110 rfl rfl ?_
            refine gx_get K f_Rep_47 (q0 := 6) rfl rfl d_Rep_addFact_111 ?_
            refine gx_new K (ci := 11) (fs := [.int 0, .null, .null, .int 0, .int 0, .long 0, .int 0, .long 0]) rfl in_Fac ft_Fac k107 k440 k13 (fun j h => match j, h with | 0, _ => rfl | 1, _ => rfl | 2, _ => rfl | 3, _ => rfl | 4, _ => rfl | 5, _ => rfl | 6, _ => rfl | 7, _ => rfl | j_ + 8, h => absurd h (by omega)) ⟨gle rfl, gle rfl⟩ d_Rep_addFact_114 (fun q114 => ?_)
            refine gx_ws (w1 := (fbW a ty N r en re O z tx X Y fc sl pt tot hv (rest ++ [(q114, .inr (11, [.int 0, .null, .null, .int 0, .int 0, .long 0, .int 0, .long 0]))]))) rfl ?_
            refine gx_dup K d_Rep_addFact_117 rfl ?_
            refine gx_iload_n K d_Rep_addFact_118 rfl rfl ?_
            refine gx_aload_n K d_Rep_addFact_119 rfl rfl ?_
            refine gx_get K f_Rep_11 (q0 := 6) rfl rfl d_Rep_addFact_120 ?_
            refine gx_iload_n K d_Rep_addFact_123 rfl rfl ?_
            refine gx_aald K (t := 6) rfl (q0 := 7) rfl rx.1 rx.2 (by decide) d_Rep_addFact_124 ?_
            obtain ⟨q124, k124, hO124, hk124⟩ := pX ((ix x3)) (by omega)
            rw [hO124]
            refine gx_aloadN K d_Rep_addFact_125 rfl ?_
            refine gx_iload K d_Rep_addFact_127 rfl ?_
            refine gx_iload K d_Rep_addFact_129 rfl ?_
            refine gx_lload K d_Rep_addFact_131 rfl ?_
            refine gx_ws (w1 := (fbW a ty N r en re O z tx X Y fc sl pt tot hv rest) ++ [(q114, .inr (11, [.int 0, .null, .null, .int 0, .int 0, .long 0, .int 0, .long 0]))]) rfl ?_
            refine gy_last ?_
            refine gx_INdv K (z_Fac_initN x1 q124 x5 x6 (k_amt N tx ist) hbd hac) Y_Fac_init rfl k442 k441 rfl ⟨gle rfl, gle rfl⟩ ⟨gle rfl, gle rfl⟩ (gle rfl) d_Rep_addFact_133 ?_
            refine gy_first ?_
            refine gx_ws (w1 := (fbW a ty N r en re O z tx X Y fc sl pt tot hv (rest ++ [(q114, .inr (11, [.int x1, .ref q124, .null, .int x5, .int x6, .long (k_amt N tx ist), .int (m_places x5 x6 (k_amt N tx ist)), .long (r_m (k_amt N tx ist) (m_ten (6 - m_places x5 x6 (k_amt N tx ist))))]))]))) rfl ?_
            refine gx_aast K (t := 8) rfl rfl (q0 := 9) rfl (fb_pl (pe_at rest _)) rfl (by omega) (by decide) d_Rep_addFact_136 ?_
            refine gx_ws (w1 := (fbW a ty N r en re (va_up O 4 (va_up (O 4) (N 5) (some q114))) z tx X Y fc sl pt tot hv (rest ++ [(q114, .inr (11, [.int x1, .ref q124, .null, .int x5, .int x6, .long (k_amt N tx ist), .int (m_places x5 x6 (k_amt N tx ist)), .long (r_m (k_amt N tx ist) (m_ten (6 - m_places x5 x6 (k_amt N tx ist))))]))]))) rfl ?_
            refine gx_aload_n K d_Rep_addFact_137 rfl rfl ?_
            refine gx_get K f_Rep_32 (q0 := 6) rfl rfl d_Rep_addFact_138 ?_
            refine gx_iconst (v := 0) K d_Rep_addFact_141 rfl ?_
            refine gx_putN K f_Rep_81 ft_Num rfl (q0 := 10) rfl rfl rfl (gle rfl) d_Rep_addFact_142 ?_
            refine gx_ws (w1 := (fbW a ty (va_up N 4 0) r en re (va_up O 4 (va_up (O 4) (N 5) (some q114))) z tx X Y fc sl pt tot hv (rest ++ [(q114, .inr (11, [.int x1, .ref q124, .null, .int x5, .int x6, .long (k_amt N tx ist), .int (m_places x5 x6 (k_amt N tx ist)), .long (r_m (k_amt N tx ist) (m_ten (6 - m_places x5 x6 (k_amt N tx ist))))]))]))) rfl ?_
            refine gx_aload_n K d_Rep_addFact_145 rfl rfl ?_
            refine gx_dup K d_Rep_addFact_146 rfl ?_
            refine gx_get K f_Rep_47 (q0 := 6) rfl rfl d_Rep_addFact_147 ?_
            refine gx_dup_x1 K d_Rep_addFact_150 rfl rfl ?_
            refine gx_iconst (v := 1) K d_Rep_addFact_151 rfl ?_
            refine gx_iaddN K (N 5) (1) d_Rep_addFact_152 ?_
            refine gx_put K f_Rep_47 ft_Rep rfl (q0 := 6) rfl rfl rfl (gle rfl) d_Rep_addFact_153 ?_
            refine gx_ws (w1 := (fbW a ty (va_up (va_up N 4 0) 5 (N 5 + 1)) r en re (va_up O 4 (va_up (O 4) (N 5) (some q114))) z tx X Y fc sl pt tot hv (rest ++ [(q114, .inr (11, [.int x1, .ref q124, .null, .int x5, .int x6, .long (k_amt N tx ist), .int (m_places x5 x6 (k_amt N tx ist)), .long (r_m (k_amt N tx ist) (m_ten (6 - m_places x5 x6 (k_amt N tx ist))))]))]))) rfl ?_
            exact gx_iret K hr hlk d_Rep_addFact_156 ⟨q114, q124, .null, congrArg (fun t => some (Value.int t)) (if_pos hk).symm, (if_pos hk).symm, fun _ => ⟨(by first | exact hO124 | rfl), Or.inl ⟨h90, rfl⟩⟩⟩
        · skip
          refine gx_iload_n K d_Rep_addFact_70 rfl rfl ?_
          refine gx_if_eqB K d_Rep_addFact_71 rfl (fun h71 => ?_) (fun h71 => ?_)
          · skip
            refine gx_aload_n K d_Rep_addFact_78 rfl rfl ?_
            refine gx_get K f_Rep_32 (q0 := 6) rfl rfl d_Rep_addFact_79 ?_
            refine gx_VNd K (z_Num_inMillionths hN) Y_Num_inMillionths (ci := 4) rfl (q0 := 10) rfl k432 ks16 k430 rfl ⟨gle rfl, gle rfl⟩ ⟨gle rfl, gle rfl⟩ (gle rfl) d_Rep_addFact_82 ?_
            exact j85 _ (by unfold k_amt; simp [h56, h65, h65n, Nat.not_le.mpr h65n, Int32.not_le.mpr h65, h71])
          · skip
            refine gx_lconst (v := 0) K d_Rep_addFact_74 rfl ?_
            refine gx_goto K d_Rep_addFact_75 rfl ?_
            exact j85 _ (by unfold k_amt; simp [h56, h65, h65n, Nat.not_le.mpr h65n, Int32.not_le.mpr h65, h71])
      · skip
        have h65n : ¬ N 5 < 20 := fun q => h65 ((nI_ltI (a := N 5) (b := 20) (by omega) (by omega)).mpr q)
        refine gx_iconst (v := -1) K d_Rep_addFact_68 rfl ?_
        refine gx_wide (k1 := 1) (n1 := 8) (gle rfl) (gle rfl) ?_
        exact gx_iret K hr hlk d_Rep_addFact_69 ⟨0, 0, .null, by rw [show k_fcl N tx ist x3 x4 x5 x6 = false from (by unfold k_fcl; rw [decide_eq_false h65n, Bool.and_false])]; rfl, by rw [show k_fcl N tx ist x3 x4 x5 x6 = false from (by unfold k_fcl; rw [decide_eq_false h65n, Bool.and_false])]; rfl, fun z9 => absurd z9 (by rw [show k_fcl N tx ist x3 x4 x5 x6 = false from (by unfold k_fcl; rw [decide_eq_false h65n, Bool.and_false])]; decide)⟩
  · skip
    refine gx_aload_n K d_Rep_addFact_0 rfl rfl ?_
    refine gx_iload_n K d_Rep_addFact_1 rfl rfl ?_
    refine gx_Vd K (z_Rep_hasContext hN _) Y_Rep_hasContext (ci := 3) rfl (q0 := 6) rfl k408 ks11 k406 rfl ⟨gle rfl, gle rfl⟩ ⟨gle rfl, gle rfl⟩ (gle rfl) d_Rep_addFact_2 ?_
    refine gx_if_eqB K d_Rep_addFact_5 rfl (fun h5 => ?_) (fun h5 => ?_)
    · skip
      refine gx_iconst (v := b2i false) K d_Rep_addFact_51 rfl ?_
      exact j52 _ (by simp [h5] <;> simp_all)
    · skip
      refine gx_iload K d_Rep_addFact_8 rfl ?_
      refine gx_iconst (v := -1) K d_Rep_addFact_10 rfl ?_
      refine gx_icmp_eq K d_Rep_addFact_11 rfl (fun h11 => ?_) (fun h11 => ?_)
      · skip
        refine gx_iload K d_Rep_addFact_23 rfl ?_
        refine gx_iload K d_Rep_addFact_25 rfl ?_
        refine gx_SNd K (z_Fac_isAccuracy _ _) Y_Fac_isAccuracy k415 k414 rfl ⟨gle rfl, gle rfl⟩ ⟨gle rfl, gle rfl⟩ (gle rfl) d_Rep_addFact_27 ?_
        refine gx_if_eqB K d_Rep_addFact_30 rfl (fun h30 => ?_) (fun h30 => ?_)
        · skip
          refine gx_iconst (v := b2i false) K d_Rep_addFact_51 rfl ?_
          exact j52 _ (by simp [h5, h11, h30] <;> simp_all)
        · skip
          refine gx_iload_n K d_Rep_addFact_33 rfl rfl ?_
          refine gx_if_neB K d_Rep_addFact_34 rfl (fun h34 => ?_) (fun h34 => ?_)
          · skip
            refine gx_iconst (v := b2i true) K d_Rep_addFact_47 rfl ?_
            refine gx_goto K d_Rep_addFact_48 rfl ?_
            exact j52 _ (by simp [h5, h11, h30, h34] <;> simp_all)
          · skip
            refine gx_aload_n K d_Rep_addFact_37 rfl rfl ?_
            refine gx_get K f_Rep_32 (q0 := 6) rfl rfl d_Rep_addFact_38 ?_
            refine gx_VNd K (z_Num_isNumber hN) Y_Num_isNumber (ci := 4) rfl (q0 := 10) rfl k420 ks13 k418 rfl ⟨gle rfl, gle rfl⟩ ⟨gle rfl, gle rfl⟩ (gle rfl) d_Rep_addFact_41 ?_
            refine gx_if_eqB K d_Rep_addFact_44 rfl (fun h44 => ?_) (fun h44 => ?_)
            · skip
              refine gx_iconst (v := b2i false) K d_Rep_addFact_51 rfl ?_
              exact j52 _ (by simp [h5, h11, h30, h34, h44] <;> simp_all)
            · skip
              refine gx_iconst (v := b2i true) K d_Rep_addFact_47 rfl ?_
              refine gx_goto K d_Rep_addFact_48 rfl ?_
              exact j52 _ (by simp [h5, h11, h30, h34, h44] <;> simp_all)
      · skip
        refine gx_aload_n K d_Rep_addFact_14 rfl rfl ?_
        refine gx_iload K d_Rep_addFact_15 rfl ?_
        refine gx_Vd K (z_Rep_hasUnit hN _) Y_Rep_hasUnit (ci := 3) rfl (q0 := 6) rfl k412 ks12 k410 rfl ⟨gle rfl, gle rfl⟩ ⟨gle rfl, gle rfl⟩ (gle rfl) d_Rep_addFact_17 ?_
        refine gx_if_eqB K d_Rep_addFact_20 rfl (fun h20 => ?_) (fun h20 => ?_)
        · skip
          refine gx_iconst (v := b2i false) K d_Rep_addFact_51 rfl ?_
          exact j52 _ (by simp [h5, h11, h20] <;> simp_all)
        · skip
          refine gx_iload K d_Rep_addFact_23 rfl ?_
          refine gx_iload K d_Rep_addFact_25 rfl ?_
          refine gx_SNd K (z_Fac_isAccuracy _ _) Y_Fac_isAccuracy k415 k414 rfl ⟨gle rfl, gle rfl⟩ ⟨gle rfl, gle rfl⟩ (gle rfl) d_Rep_addFact_27 ?_
          refine gx_if_eqB K d_Rep_addFact_30 rfl (fun h30 => ?_) (fun h30 => ?_)
          · skip
            refine gx_iconst (v := b2i false) K d_Rep_addFact_51 rfl ?_
            exact j52 _ (by simp [h5, h11, h20, h30] <;> simp_all)
          · skip
            refine gx_iload_n K d_Rep_addFact_33 rfl rfl ?_
            refine gx_if_neB K d_Rep_addFact_34 rfl (fun h34 => ?_) (fun h34 => ?_)
            · skip
              refine gx_iconst (v := b2i true) K d_Rep_addFact_47 rfl ?_
              refine gx_goto K d_Rep_addFact_48 rfl ?_
              exact j52 _ (by simp [h5, h11, h20, h30, h34] <;> simp_all)
            · skip
              refine gx_aload_n K d_Rep_addFact_37 rfl rfl ?_
              refine gx_get K f_Rep_32 (q0 := 6) rfl rfl d_Rep_addFact_38 ?_
              refine gx_VNd K (z_Num_isNumber hN) Y_Num_isNumber (ci := 4) rfl (q0 := 10) rfl k420 ks13 k418 rfl ⟨gle rfl, gle rfl⟩ ⟨gle rfl, gle rfl⟩ (gle rfl) d_Rep_addFact_41 ?_
              refine gx_if_eqB K d_Rep_addFact_44 rfl (fun h44 => ?_) (fun h44 => ?_)
              · skip
                refine gx_iconst (v := b2i false) K d_Rep_addFact_51 rfl ?_
                exact j52 _ (by simp [h5, h11, h20, h30, h34, h44] <;> simp_all)
              · skip
                refine gx_iconst (v := b2i true) K d_Rep_addFact_47 rfl ?_
                refine gx_goto K d_Rep_addFact_48 rfl ?_
                exact j52 _ (by simp [h5, h11, h20, h30, h34, h44] <;> simp_all)

