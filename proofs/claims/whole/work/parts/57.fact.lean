def k_fac (N : Nat → Nat) (E : Nat → Nat → Int32) (x1 x2 x3 x4 x5 : Int32) : Bool := (m_in x1 0 (nI (N 0) - 1) && (m_in x2 0 (nI (N 2) - 1) && m_in x3 (-1) (nI (N 3) - 1))) && ((decide (x4 = 0) || (decide (x4 = 3) || ((decide (x4 = 1) && m_in x5 (-9) 6) || (decide (x4 = 2) && m_in x5 0 15)))) && (decide (N 5 < 20) && (decide (E 1 (ix x1) = 0) || n_ok (E 18) (N 4))))
def e_amt (N : Nat → Nat) (E : Nat → Nat → Int32) (x1 : Int32) : Int64 := if E 1 (ix x1) = 0 then (0 : Int64) else n_val (E 18) (N 4)
set_option maxRecDepth 100000 in
set_option maxHeartbeats 1000000 in
theorem z_Mod_fact {l : Launch} {D : va_G} {ty : Nat → ClassId} {tt : Nat} {b : Nat → Nat} {B : Nat → Nat → Bool} {N : Nat → Nat} {E : Nat → Nat → Int32} {J : Nat → Int32} {ph : Bool} {V : Nat → Int64} {rd : Int64} {rest : va_W} (I : mI E) (hN : mN N) (x1 x2 x3 x4 x5 : Int32) : Ct l y_Mod_fact c_Mod_fact 8 (some .int) 1 0 0 D ty tt [.ref (b 0), .int x1, .int x2, .int x3, .int x4, .int x5] (mdW b ty B N E J ph V rd rest) (fun v1 w1 => ∃ rd1 : Int64, v1 = some (.int (if k_fac N E x1 x2 x3 x4 x5 = true then nI (N 5) else -1)) ∧ w1 = (if k_fac N E x1 x2 x3 x4 x5 = true then (mdW b ty B (va_up (va_up N 4 0) 5 (N 5 + 1)) (e_fac E (N 5) x1 x2 x3 x4 x5) J ph (vp_updL V (N 5) (e_amt N E x1)) (rd1) rest) else (mdW b ty B (N) (E) J ph (V) (rd1) rest))) := by
  obtain ⟨n0, n1, n2, n3, n4, n5⟩ := id hN
  refine Ct_of (by decide) (gle rfl) (fun p e s m args below meth c K hr hlk hin => ?_)
  refine gx_cut (X := m_in x1 0 (nI (N 0) - 1) && (m_in x2 0 (nI (N 2) - 1) && m_in x3 (-1) (nI (N 3) - 1))) 47 ?_ (fun j47 => ?_)
  · skip
    refine gx_istore K d_Mod_fact_47 (gle rfl) rfl ?_
    refine gx_cut (X := decide (x4 = 0) || (decide (x4 = 3) || ((decide (x4 = 1) && m_in x5 (-9) 6) || (decide (x4 = 2) && m_in x5 0 15)))) 100 ?_ (fun j100 => ?_)
    · skip
      refine gx_istore K d_Mod_fact_100 (gle rfl) rfl ?_
      refine gx_iload K d_Mod_fact_102 rfl ?_
      refine gx_if_eqB K d_Mod_fact_104 rfl (fun h104 => ?_) (fun h104 => ?_)
      · skip
        refine gx_iconst (v := -1) K d_Mod_fact_137 rfl ?_
        exact gx_iret K hr hlk d_Mod_fact_138 ⟨rd, by rw [show k_fac N E x1 x2 x3 x4 x5 = false from (by unfold k_fac; rw [h104]; rfl)]; rfl, by rw [show k_fac N E x1 x2 x3 x4 x5 = false from (by unfold k_fac; rw [h104]; rfl)]; rfl⟩
      · skip
        refine gx_iload K d_Mod_fact_107 rfl ?_
        refine gx_if_eqB K d_Mod_fact_109 rfl (fun h109 => ?_) (fun h109 => ?_)
        · skip
          refine gx_iconst (v := -1) K d_Mod_fact_137 rfl ?_
          exact gx_iret K hr hlk d_Mod_fact_138 ⟨rd, by rw [show k_fac N E x1 x2 x3 x4 x5 = false from (by unfold k_fac; rw [h109]; simp)]; rfl, by rw [show k_fac N E x1 x2 x3 x4 x5 = false from (by unfold k_fac; rw [h109]; simp)]; rfl⟩
        · skip
          refine gx_aload_n K d_Mod_fact_112 rfl rfl ?_
          refine gx_get K f_Mod_165 (q0 := 0) rfl rfl d_Mod_fact_113 ?_
          refine gx_bipush (v := 20) K d_Mod_fact_116 rfl ?_
          refine gx_icmp_ge K d_Mod_fact_118 rfl (fun h118 => ?_) (fun h118 => ?_)
          · skip
            have h118n : 20 ≤ N 5 := (nI_leI (a := 20) (b := N 5) (by omega) (by omega)).mp h118
            refine gx_iconst (v := -1) K d_Mod_fact_137 rfl ?_
            exact gx_iret K hr hlk d_Mod_fact_138 ⟨rd, by rw [show k_fac N E x1 x2 x3 x4 x5 = false from (by unfold k_fac; rw [decide_eq_false (Nat.not_lt.mpr h118n)]; simp)]; rfl, by rw [show k_fac N E x1 x2 x3 x4 x5 = false from (by unfold k_fac; rw [decide_eq_false (Nat.not_lt.mpr h118n)]; simp)]; rfl⟩
          · skip
            have h118n : ¬ 20 ≤ N 5 := fun q => h118 ((nI_leI (a := 20) (b := N 5) (by omega) (by omega)).mpr q)
            have hS := h104
            simp only [Bool.and_eq_true] at hS
            have rx0 : rg x1 (N 0) := in_rgN hS.1 (by omega)
            have rx2 := rx0.2
            have rx : rg x1 16 := ⟨rx0.1, by omega⟩
            refine gx_aload_n K d_Mod_fact_121 rfl rfl ?_
            refine gx_get K f_Mod_23 (q0 := 0) rfl rfl d_Mod_fact_122 ?_
            refine gx_iload_n K d_Mod_fact_125 rfl rfl ?_
            refine gx_iald K (q0 := 5) rfl rx.1 rx.2 (by decide) d_Mod_fact_126 ?_
            refine gx_if_eq K d_Mod_fact_127 rfl (fun h127 => ?_) (fun h127 => ?_)
            · skip
              have hk : k_fac N E x1 x2 x3 x4 x5 = true := by unfold k_fac; rw [h104, h109, decide_eq_true (Nat.not_le.mp h118n), decide_eq_true h127, Bool.true_or]; rfl
              refine gx_aload_n K d_Mod_fact_139 rfl rfl ?_
              refine gx_get K f_Mod_80 (q0 := 0) rfl rfl d_Mod_fact_140 ?_
              refine gx_aload_n K d_Mod_fact_143 rfl rfl ?_
              refine gx_get K f_Mod_165 (q0 := 0) rfl rfl d_Mod_fact_144 ?_
              refine gx_iload_n K d_Mod_fact_147 rfl rfl ?_
              refine gx_iast K (q0 := 24) rfl rfl (by omega) (by decide) d_Mod_fact_148 ?_
              refine gx_ws (w1 := (mdW b ty B (N) (va_up (E) 19 (upd (E 19) (N 5) x1)) J ph (V) (rd) rest)) rfl ?_
              refine gx_aload_n K d_Mod_fact_149 rfl rfl ?_
              refine gx_get K f_Mod_83 (q0 := 0) rfl rfl d_Mod_fact_150 ?_
              refine gx_aload_n K d_Mod_fact_153 rfl rfl ?_
              refine gx_get K f_Mod_165 (q0 := 0) rfl rfl d_Mod_fact_154 ?_
              refine gx_iload_n K d_Mod_fact_157 rfl rfl ?_
              refine gx_iast K (q0 := 25) rfl rfl (by omega) (by decide) d_Mod_fact_158 ?_
              refine gx_ws (w1 := (mdW b ty B (N) (va_up (va_up (E) 19 (upd (E 19) (N 5) x1)) 20 (upd (E 20) (N 5) x2)) J ph (V) (rd) rest)) rfl ?_
              refine gx_aload_n K d_Mod_fact_159 rfl rfl ?_
              refine gx_get K f_Mod_86 (q0 := 0) rfl rfl d_Mod_fact_160 ?_
              refine gx_aload_n K d_Mod_fact_163 rfl rfl ?_
              refine gx_get K f_Mod_165 (q0 := 0) rfl rfl d_Mod_fact_164 ?_
              refine gx_iload_n K d_Mod_fact_167 rfl rfl ?_
              refine gx_iast K (q0 := 26) rfl rfl (by omega) (by decide) d_Mod_fact_168 ?_
              refine gx_ws (w1 := (mdW b ty B (N) (va_up (va_up (va_up (E) 19 (upd (E 19) (N 5) x1)) 20 (upd (E 20) (N 5) x2)) 21 (upd (E 21) (N 5) x3)) J ph (V) (rd) rest)) rfl ?_
              refine gx_aload_n K d_Mod_fact_169 rfl rfl ?_
              refine gx_get K f_Mod_89 (q0 := 0) rfl rfl d_Mod_fact_170 ?_
              refine gx_aload_n K d_Mod_fact_173 rfl rfl ?_
              refine gx_get K f_Mod_165 (q0 := 0) rfl rfl d_Mod_fact_174 ?_
              refine gx_iload K d_Mod_fact_177 rfl ?_
              refine gx_iast K (q0 := 27) rfl rfl (by omega) (by decide) d_Mod_fact_179 ?_
              refine gx_ws (w1 := (mdW b ty B (N) (va_up (va_up (va_up (va_up (E) 19 (upd (E 19) (N 5) x1)) 20 (upd (E 20) (N 5) x2)) 21 (upd (E 21) (N 5) x3)) 22 (upd (E 22) (N 5) x4)) J ph (V) (rd) rest)) rfl ?_
              refine gx_aload_n K d_Mod_fact_180 rfl rfl ?_
              refine gx_get K f_Mod_92 (q0 := 0) rfl rfl d_Mod_fact_181 ?_
              refine gx_aload_n K d_Mod_fact_184 rfl rfl ?_
              refine gx_get K f_Mod_165 (q0 := 0) rfl rfl d_Mod_fact_185 ?_
              refine gx_iload K d_Mod_fact_188 rfl ?_
              refine gx_iast K (q0 := 28) rfl rfl (by omega) (by decide) d_Mod_fact_190 ?_
              refine gx_ws (w1 := (mdW b ty B (N) (va_up (va_up (va_up (va_up (va_up (E) 19 (upd (E 19) (N 5) x1)) 20 (upd (E 20) (N 5) x2)) 21 (upd (E 21) (N 5) x3)) 22 (upd (E 22) (N 5) x4)) 23 (upd (E 23) (N 5) x5)) J ph (V) (rd) rest)) rfl ?_
              refine gx_aload_n K d_Mod_fact_191 rfl rfl ?_
              refine gx_get K f_Mod_95 (q0 := 0) rfl rfl d_Mod_fact_192 ?_
              refine gx_aload_n K d_Mod_fact_195 rfl rfl ?_
              refine gx_get K f_Mod_165 (q0 := 0) rfl rfl d_Mod_fact_196 ?_
              refine gx_cutL (X := e_amt N E x1) 216 ?_ (fun j216 => ?_)
              · skip
                refine gx_last K (q0 := 29) rfl rfl (by omega) (by decide) d_Mod_fact_216 ?_
                refine gx_ws (w1 := (mdW b ty B (N) (e_fac E (N 5) x1 x2 x3 x4 x5) J ph (vp_updL V (N 5) (e_amt N E x1)) (rd) rest)) rfl ?_
                refine gx_aload_n K d_Mod_fact_217 rfl rfl ?_
                refine gx_iconst (v := 0) K d_Mod_fact_218 rfl ?_
                refine gx_put K f_Mod_152 ft_Mod rfl (q0 := 0) rfl rfl rfl (gle rfl) d_Mod_fact_219 ?_
                refine gx_ws (w1 := (mdW b ty B (va_up N 4 0) (e_fac E (N 5) x1 x2 x3 x4 x5) J ph (vp_updL V (N 5) (e_amt N E x1)) (rd) rest)) rfl ?_
                refine gx_aload_n K d_Mod_fact_222 rfl rfl ?_
                refine gx_aload_n K d_Mod_fact_223 rfl rfl ?_
                refine gx_get K f_Mod_165 (q0 := 0) rfl rfl d_Mod_fact_224 ?_
                refine gx_iconst (v := 1) K d_Mod_fact_227 rfl ?_
                refine gx_iaddN K (N 5) (1) d_Mod_fact_228 ?_
                refine gx_put K f_Mod_165 ft_Mod rfl (q0 := 0) rfl rfl rfl (gle rfl) d_Mod_fact_229 ?_
                refine gx_ws (w1 := (mdW b ty B (va_up (va_up N 4 0) 5 (N 5 + 1)) (e_fac E (N 5) x1 x2 x3 x4 x5) J ph (vp_updL V (N 5) (e_amt N E x1)) (rd) rest)) rfl ?_
                refine gx_aload_n K d_Mod_fact_232 rfl rfl ?_
                refine gx_get K f_Mod_165 (q0 := 0) rfl rfl d_Mod_fact_233 ?_
                refine gx_iconst (v := 1) K d_Mod_fact_236 rfl ?_
                refine gx_isub K d_Mod_fact_237 ?_
                exact gx_iret K hr hlk d_Mod_fact_238 ⟨rd, congrArg (fun t => some (Value.int t)) ((show nI (N 5 + 1) - 1 = nI (N 5) from by rw [show (1 : Int32) = nI 1 from rfl, pk_sub (by omega)]; rfl).trans (if_pos hk).symm), (if_pos hk).symm⟩
              · skip
                refine gx_aload_n K d_Mod_fact_199 rfl rfl ?_
                refine gx_get K f_Mod_23 (q0 := 0) rfl rfl d_Mod_fact_200 ?_
                refine gx_iload_n K d_Mod_fact_203 rfl rfl ?_
                refine gx_iald K (q0 := 5) rfl rx.1 rx.2 (by decide) d_Mod_fact_204 ?_
                refine gx_if_ne K d_Mod_fact_205 rfl (fun h205 => ?_) (fun h205 => ?_)
                · skip
                  refine gx_aload_n K d_Mod_fact_212 rfl rfl ?_
                  refine gx_get K f_Mod_159 (q0 := 0) rfl rfl d_Mod_fact_213 ?_
                  exact j216 _ (by first | exact absurd h127 h205 | exact absurd h205 h127 | exact (if_pos h127).symm | exact (if_neg h127).symm)
                · skip
                  refine gx_lconst (v := 0) K d_Mod_fact_208 rfl ?_
                  refine gx_goto K d_Mod_fact_209 rfl ?_
                  exact j216 _ (by first | exact absurd h127 h205 | exact absurd h205 h127 | exact (if_pos h127).symm | exact (if_neg h127).symm)
            · skip
              refine gx_aload_n K d_Mod_fact_130 rfl rfl ?_
              refine gx_Vd K (z_Mod_isNumber I hN) Y_Mod_isNumber (ci := 12) rfl (q0 := 0) rfl k912 ks58 k910 rfl ⟨gle rfl, gle rfl⟩ ⟨gle rfl, gle rfl⟩ (gle rfl) d_Mod_fact_131 ?_
              refine gx_if_neB K d_Mod_fact_134 rfl (fun h134 => ?_) (fun h134 => ?_)
              · skip
                have hk : k_fac N E x1 x2 x3 x4 x5 = true := by unfold k_fac; rw [h104, h109, decide_eq_true (Nat.not_le.mp h118n), decide_eq_false h127, h134, Bool.false_or]; rfl
                refine gx_aload_n K d_Mod_fact_139 rfl rfl ?_
                refine gx_get K f_Mod_80 (q0 := 0) rfl rfl d_Mod_fact_140 ?_
                refine gx_aload_n K d_Mod_fact_143 rfl rfl ?_
                refine gx_get K f_Mod_165 (q0 := 0) rfl rfl d_Mod_fact_144 ?_
                refine gx_iload_n K d_Mod_fact_147 rfl rfl ?_
                refine gx_iast K (q0 := 24) rfl rfl (by omega) (by decide) d_Mod_fact_148 ?_
                refine gx_ws (w1 := (mdW b ty B (N) (va_up (E) 19 (upd (E 19) (N 5) x1)) J ph (V) (n_val (E 18) (N 4)) rest)) rfl ?_
                refine gx_aload_n K d_Mod_fact_149 rfl rfl ?_
                refine gx_get K f_Mod_83 (q0 := 0) rfl rfl d_Mod_fact_150 ?_
                refine gx_aload_n K d_Mod_fact_153 rfl rfl ?_
                refine gx_get K f_Mod_165 (q0 := 0) rfl rfl d_Mod_fact_154 ?_
                refine gx_iload_n K d_Mod_fact_157 rfl rfl ?_
                refine gx_iast K (q0 := 25) rfl rfl (by omega) (by decide) d_Mod_fact_158 ?_
                refine gx_ws (w1 := (mdW b ty B (N) (va_up (va_up (E) 19 (upd (E 19) (N 5) x1)) 20 (upd (E 20) (N 5) x2)) J ph (V) (n_val (E 18) (N 4)) rest)) rfl ?_
                refine gx_aload_n K d_Mod_fact_159 rfl rfl ?_
                refine gx_get K f_Mod_86 (q0 := 0) rfl rfl d_Mod_fact_160 ?_
                refine gx_aload_n K d_Mod_fact_163 rfl rfl ?_
                refine gx_get K f_Mod_165 (q0 := 0) rfl rfl d_Mod_fact_164 ?_
                refine gx_iload_n K d_Mod_fact_167 rfl rfl ?_
                refine gx_iast K (q0 := 26) rfl rfl (by omega) (by decide) d_Mod_fact_168 ?_
                refine gx_ws (w1 := (mdW b ty B (N) (va_up (va_up (va_up (E) 19 (upd (E 19) (N 5) x1)) 20 (upd (E 20) (N 5) x2)) 21 (upd (E 21) (N 5) x3)) J ph (V) (n_val (E 18) (N 4)) rest)) rfl ?_
                refine gx_aload_n K d_Mod_fact_169 rfl rfl ?_
                refine gx_get K f_Mod_89 (q0 := 0) rfl rfl d_Mod_fact_170 ?_
                refine gx_aload_n K d_Mod_fact_173 rfl rfl ?_
                refine gx_get K f_Mod_165 (q0 := 0) rfl rfl d_Mod_fact_174 ?_
                refine gx_iload K d_Mod_fact_177 rfl ?_
                refine gx_iast K (q0 := 27) rfl rfl (by omega) (by decide) d_Mod_fact_179 ?_
                refine gx_ws (w1 := (mdW b ty B (N) (va_up (va_up (va_up (va_up (E) 19 (upd (E 19) (N 5) x1)) 20 (upd (E 20) (N 5) x2)) 21 (upd (E 21) (N 5) x3)) 22 (upd (E 22) (N 5) x4)) J ph (V) (n_val (E 18) (N 4)) rest)) rfl ?_
                refine gx_aload_n K d_Mod_fact_180 rfl rfl ?_
                refine gx_get K f_Mod_92 (q0 := 0) rfl rfl d_Mod_fact_181 ?_
                refine gx_aload_n K d_Mod_fact_184 rfl rfl ?_
                refine gx_get K f_Mod_165 (q0 := 0) rfl rfl d_Mod_fact_185 ?_
                refine gx_iload K d_Mod_fact_188 rfl ?_
                refine gx_iast K (q0 := 28) rfl rfl (by omega) (by decide) d_Mod_fact_190 ?_
                refine gx_ws (w1 := (mdW b ty B (N) (va_up (va_up (va_up (va_up (va_up (E) 19 (upd (E 19) (N 5) x1)) 20 (upd (E 20) (N 5) x2)) 21 (upd (E 21) (N 5) x3)) 22 (upd (E 22) (N 5) x4)) 23 (upd (E 23) (N 5) x5)) J ph (V) (n_val (E 18) (N 4)) rest)) rfl ?_
                refine gx_aload_n K d_Mod_fact_191 rfl rfl ?_
                refine gx_get K f_Mod_95 (q0 := 0) rfl rfl d_Mod_fact_192 ?_
                refine gx_aload_n K d_Mod_fact_195 rfl rfl ?_
                refine gx_get K f_Mod_165 (q0 := 0) rfl rfl d_Mod_fact_196 ?_
                refine gx_cutL (X := e_amt N E x1) 216 ?_ (fun j216 => ?_)
                · skip
                  refine gx_last K (q0 := 29) rfl rfl (by omega) (by decide) d_Mod_fact_216 ?_
                  refine gx_ws (w1 := (mdW b ty B (N) (e_fac E (N 5) x1 x2 x3 x4 x5) J ph (vp_updL V (N 5) (e_amt N E x1)) (n_val (E 18) (N 4)) rest)) rfl ?_
                  refine gx_aload_n K d_Mod_fact_217 rfl rfl ?_
                  refine gx_iconst (v := 0) K d_Mod_fact_218 rfl ?_
                  refine gx_put K f_Mod_152 ft_Mod rfl (q0 := 0) rfl rfl rfl (gle rfl) d_Mod_fact_219 ?_
                  refine gx_ws (w1 := (mdW b ty B (va_up N 4 0) (e_fac E (N 5) x1 x2 x3 x4 x5) J ph (vp_updL V (N 5) (e_amt N E x1)) (n_val (E 18) (N 4)) rest)) rfl ?_
                  refine gx_aload_n K d_Mod_fact_222 rfl rfl ?_
                  refine gx_aload_n K d_Mod_fact_223 rfl rfl ?_
                  refine gx_get K f_Mod_165 (q0 := 0) rfl rfl d_Mod_fact_224 ?_
                  refine gx_iconst (v := 1) K d_Mod_fact_227 rfl ?_
                  refine gx_iaddN K (N 5) (1) d_Mod_fact_228 ?_
                  refine gx_put K f_Mod_165 ft_Mod rfl (q0 := 0) rfl rfl rfl (gle rfl) d_Mod_fact_229 ?_
                  refine gx_ws (w1 := (mdW b ty B (va_up (va_up N 4 0) 5 (N 5 + 1)) (e_fac E (N 5) x1 x2 x3 x4 x5) J ph (vp_updL V (N 5) (e_amt N E x1)) (n_val (E 18) (N 4)) rest)) rfl ?_
                  refine gx_aload_n K d_Mod_fact_232 rfl rfl ?_
                  refine gx_get K f_Mod_165 (q0 := 0) rfl rfl d_Mod_fact_233 ?_
                  refine gx_iconst (v := 1) K d_Mod_fact_236 rfl ?_
                  refine gx_isub K d_Mod_fact_237 ?_
                  exact gx_iret K hr hlk d_Mod_fact_238 ⟨n_val (E 18) (N 4), congrArg (fun t => some (Value.int t)) ((show nI (N 5 + 1) - 1 = nI (N 5) from by rw [show (1 : Int32) = nI 1 from rfl, pk_sub (by omega)]; rfl).trans (if_pos hk).symm), (if_pos hk).symm⟩
                · skip
                  refine gx_aload_n K d_Mod_fact_199 rfl rfl ?_
                  refine gx_get K f_Mod_23 (q0 := 0) rfl rfl d_Mod_fact_200 ?_
                  refine gx_iload_n K d_Mod_fact_203 rfl rfl ?_
                  refine gx_iald K (q0 := 5) rfl rx.1 rx.2 (by decide) d_Mod_fact_204 ?_
                  refine gx_if_ne K d_Mod_fact_205 rfl (fun h205 => ?_) (fun h205 => ?_)
                  · skip
                    refine gx_aload_n K d_Mod_fact_212 rfl rfl ?_
                    refine gx_get K f_Mod_159 (q0 := 0) rfl rfl d_Mod_fact_213 ?_
                    exact j216 _ (by first | exact absurd h127 h205 | exact absurd h205 h127 | exact (if_pos h127).symm | exact (if_neg h127).symm)
                  · skip
                    refine gx_lconst (v := 0) K d_Mod_fact_208 rfl ?_
                    refine gx_goto K d_Mod_fact_209 rfl ?_
                    exact j216 _ (by first | exact absurd h127 h205 | exact absurd h205 h127 | exact (if_pos h127).symm | exact (if_neg h127).symm)
              · skip
                refine gx_iconst (v := -1) K d_Mod_fact_137 rfl ?_
                exact gx_iret K hr hlk d_Mod_fact_138 ⟨n_val (E 18) (N 4), by rw [show k_fac N E x1 x2 x3 x4 x5 = false from (by unfold k_fac; rw [decide_eq_false h127, h134]; simp)]; rfl, by rw [show k_fac N E x1 x2 x3 x4 x5 = false from (by unfold k_fac; rw [decide_eq_false h127, h134]; simp)]; rfl⟩
    · skip
      refine gx_iload K d_Mod_fact_49 rfl ?_
      refine gx_if_eq K d_Mod_fact_51 rfl (fun h51 => ?_) (fun h51 => ?_)
      · skip
        refine gx_iconst (v := b2i true) K d_Mod_fact_95 rfl ?_
        refine gx_goto K d_Mod_fact_96 rfl ?_
        exact j100 _ (by simp [h51] <;> simp_all)
      · skip
        refine gx_iload K d_Mod_fact_54 rfl ?_
        refine gx_iconst (v := 3) K d_Mod_fact_56 rfl ?_
        refine gx_icmp_eq K d_Mod_fact_57 rfl (fun h57 => ?_) (fun h57 => ?_)
        · skip
          refine gx_iconst (v := b2i true) K d_Mod_fact_95 rfl ?_
          refine gx_goto K d_Mod_fact_96 rfl ?_
          exact j100 _ (by simp [h51, h57] <;> simp_all)
        · skip
          refine gx_iload K d_Mod_fact_60 rfl ?_
          refine gx_iconst (v := 1) K d_Mod_fact_62 rfl ?_
          refine gx_icmp_ne K d_Mod_fact_63 rfl (fun h63 => ?_) (fun h63 => ?_)
          · skip
            refine gx_iload K d_Mod_fact_78 rfl ?_
            refine gx_iconst (v := 2) K d_Mod_fact_80 rfl ?_
            refine gx_icmp_ne K d_Mod_fact_81 rfl (fun h81 => ?_) (fun h81 => ?_)
            · skip
              refine gx_iconst (v := b2i false) K d_Mod_fact_99 rfl ?_
              exact j100 _ (by simp [h51, h57, h63, h81] <;> simp_all)
            · skip
              refine gx_iload K d_Mod_fact_84 rfl ?_
              refine gx_iconst (v := 0) K d_Mod_fact_86 rfl ?_
              refine gx_bipush (v := 15) K d_Mod_fact_87 rfl ?_
              refine gx_Sd K (z_Mod_in _ _ _ _) Y_Mod_in k832 k831 rfl ⟨gle rfl, gle rfl⟩ ⟨gle rfl, gle rfl⟩ (gle rfl) d_Mod_fact_89 ?_
              refine gx_if_eqB K d_Mod_fact_92 rfl (fun h92 => ?_) (fun h92 => ?_)
              · skip
                refine gx_iconst (v := b2i false) K d_Mod_fact_99 rfl ?_
                exact j100 _ (by simp [h51, h57, h63, h81, h92] <;> simp_all)
              · skip
                refine gx_iconst (v := b2i true) K d_Mod_fact_95 rfl ?_
                refine gx_goto K d_Mod_fact_96 rfl ?_
                exact j100 _ (by simp [h51, h57, h63, h81, h92] <;> simp_all)
          · skip
            refine gx_iload K d_Mod_fact_66 rfl ?_
            refine gx_bipush (v := -9) K d_Mod_fact_68 rfl ?_
            refine gx_bipush (v := 6) K d_Mod_fact_70 rfl ?_
            refine gx_Sd K (z_Mod_in _ _ _ _) Y_Mod_in k832 k831 rfl ⟨gle rfl, gle rfl⟩ ⟨gle rfl, gle rfl⟩ (gle rfl) d_Mod_fact_72 ?_
            refine gx_if_neB K d_Mod_fact_75 rfl (fun h75 => ?_) (fun h75 => ?_)
            · skip
              refine gx_iconst (v := b2i true) K d_Mod_fact_95 rfl ?_
              refine gx_goto K d_Mod_fact_96 rfl ?_
              exact j100 _ (by simp [h51, h57, h63, h75] <;> simp_all)
            · skip
              refine gx_iload K d_Mod_fact_78 rfl ?_
              refine gx_iconst (v := 2) K d_Mod_fact_80 rfl ?_
              refine gx_icmp_ne K d_Mod_fact_81 rfl (fun h81 => ?_) (fun h81 => ?_)
              · skip
                refine gx_iconst (v := b2i false) K d_Mod_fact_99 rfl ?_
                exact j100 _ (by simp [h51, h57, h63, h75, h81] <;> simp_all)
              · skip
                refine gx_iload K d_Mod_fact_84 rfl ?_
                refine gx_iconst (v := 0) K d_Mod_fact_86 rfl ?_
                refine gx_bipush (v := 15) K d_Mod_fact_87 rfl ?_
                refine gx_Sd K (z_Mod_in _ _ _ _) Y_Mod_in k832 k831 rfl ⟨gle rfl, gle rfl⟩ ⟨gle rfl, gle rfl⟩ (gle rfl) d_Mod_fact_89 ?_
                refine gx_if_eqB K d_Mod_fact_92 rfl (fun h92 => ?_) (fun h92 => ?_)
                · skip
                  refine gx_iconst (v := b2i false) K d_Mod_fact_99 rfl ?_
                  exact j100 _ (by simp [h51, h57, h63, h75, h81, h92] <;> simp_all)
                · skip
                  refine gx_iconst (v := b2i true) K d_Mod_fact_95 rfl ?_
                  refine gx_goto K d_Mod_fact_96 rfl ?_
                  exact j100 _ (by simp [h51, h57, h63, h75, h81, h92] <;> simp_all)
  · skip
    refine gx_iload_n K d_Mod_fact_0 rfl rfl ?_
    refine gx_iconst (v := 0) K d_Mod_fact_1 rfl ?_
    refine gx_aload_n K d_Mod_fact_2 rfl rfl ?_
    refine gx_get K f_Mod_109 (q0 := 0) rfl rfl d_Mod_fact_3 ?_
    refine gx_iconst (v := 1) K d_Mod_fact_6 rfl ?_
    refine gx_isub K d_Mod_fact_7 ?_
    refine gx_Sd K (z_Mod_in _ _ _ _) Y_Mod_in k832 k831 rfl ⟨gle rfl, gle rfl⟩ ⟨gle rfl, gle rfl⟩ (gle rfl) d_Mod_fact_8 ?_
    refine gx_if_eqB K d_Mod_fact_11 rfl (fun h11 => ?_) (fun h11 => ?_)
    · skip
      refine gx_iconst (v := b2i false) K d_Mod_fact_46 rfl ?_
      exact j47 _ (by simp [h11])
    · skip
      refine gx_iload_n K d_Mod_fact_14 rfl rfl ?_
      refine gx_iconst (v := 0) K d_Mod_fact_15 rfl ?_
      refine gx_aload_n K d_Mod_fact_16 rfl rfl ?_
      refine gx_get K f_Mod_113 (q0 := 0) rfl rfl d_Mod_fact_17 ?_
      refine gx_iconst (v := 1) K d_Mod_fact_20 rfl ?_
      refine gx_isub K d_Mod_fact_21 ?_
      refine gx_Sd K (z_Mod_in _ _ _ _) Y_Mod_in k832 k831 rfl ⟨gle rfl, gle rfl⟩ ⟨gle rfl, gle rfl⟩ (gle rfl) d_Mod_fact_22 ?_
      refine gx_if_eqB K d_Mod_fact_25 rfl (fun h25 => ?_) (fun h25 => ?_)
      · skip
        refine gx_iconst (v := b2i false) K d_Mod_fact_46 rfl ?_
        exact j47 _ (by simp [h11, h25])
      · skip
        refine gx_iload_n K d_Mod_fact_28 rfl rfl ?_
        refine gx_iconst (v := -1) K d_Mod_fact_29 rfl ?_
        refine gx_aload_n K d_Mod_fact_30 rfl rfl ?_
        refine gx_get K f_Mod_120 (q0 := 0) rfl rfl d_Mod_fact_31 ?_
        refine gx_iconst (v := 1) K d_Mod_fact_34 rfl ?_
        refine gx_isub K d_Mod_fact_35 ?_
        refine gx_Sd K (z_Mod_in _ _ _ _) Y_Mod_in k832 k831 rfl ⟨gle rfl, gle rfl⟩ ⟨gle rfl, gle rfl⟩ (gle rfl) d_Mod_fact_36 ?_
        refine gx_if_eqB K d_Mod_fact_39 rfl (fun h39 => ?_) (fun h39 => ?_)
        · skip
          refine gx_iconst (v := b2i false) K d_Mod_fact_46 rfl ?_
          exact j47 _ (by simp [h11, h25, h39])
        · skip
          refine gx_iconst (v := b2i true) K d_Mod_fact_42 rfl ?_
          refine gx_goto K d_Mod_fact_43 rfl ?_
          exact j47 _ (by simp [h11, h25, h39])

