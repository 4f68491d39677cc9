/-! the law's calls: those that add -/
section LA
variable {p : Program} {l : Launch} {e : Env} {R : Room} {s : State} {m : MethodId} {args : Array Value} {below : List Frame} {meth : Method} {c : Code} {Q : State → Prop} {k n : Nat}
variable {D : va_G} {ty : Nat → ClassId} {tt : Nat} {A : Nat → Prop} {a b : Nat → Nat} {bb ll i : Nat} {xs : Nat → Int32}
variable {B : Nat → Nat → Bool} {N : Nat → Nat} {E : Nat → Nat → Int32} {J : Nat → Int32} {ph : Bool} {V : Nat → Int64} {rd : Int64} {r : Nat → Int32} {en re : Int32} {O : Nat → Nat → Option Nat} {z : Nat} {tx : Nat → Int32} {X : Nat → Nat → Bool} {Y : Nat → Nat → Int32} {fc : Nat} {sl : Bool} {pt : Int32} {tot : Int64} {hv : Bool} {P : va_W}
set_option maxRecDepth 100000 in
set_option maxHeartbeats 1000000 in
theorem w_refer (K : gK p s m args c c_Law_law 4 "FactBinderLaw" D ty tt A) (S : lwS bb ll xs s A) (hi : i + 6 ≤ ll) (hR : 9 ≤ R.frames ∧ 400 ≤ R.locals) (hC : k + 1 ≤ R.cells ∧ n + 8 ≤ R.slots) (nx : LC p l e R s m args below meth c D A Q ty a b (k + 1) (n + 8) (lwL bb a b i) 792) (h : RL B N E J ph V r en re O z tx X Y fc sl P) : gG p l e R s m args below meth c 4 D A Q k n (mdW b ty B N E J ph V rd (fbW a ty N r en re O z tx X Y fc sl pt tot hv P)) (lwL bb a b i) [] 124 := by
  obtain ⟨a1, a2, a3, a4, a5, a6, a7, a8⟩ := id h
  obtain ⟨-, -, -, -, -, I, -, -, -, hV⟩ := id a2
  have G := cI_ext (mdW b ty B N E J ph V rd []) a2
  obtain ⟨hR1, hR2⟩ := hR
  obtain ⟨hC1, hC2⟩ := hC
  refine gx_aload_n K d_Law_law_124 rfl rfl ?_
  refine gx_arg K S (i := i) (j := 1) (by omega) rfl rfl rfl d_Law_law_125 d_Law_law_126 d_Law_law_127 d_Law_law_128 d_Law_law_129 ?_
  refine gx_arg K S (i := i) (j := 2) (by omega) rfl rfl rfl d_Law_law_130 d_Law_law_131 d_Law_law_132 d_Law_law_133 d_Law_law_134 ?_
  refine gx_ws (w1 := mdW b ty B N E J ph V rd [] ++ fbW a ty N r en re O z tx X Y fc sl pt tot hv P) rfl ?_
  refine gy_swap _ _ ?_
  refine gx_ws (w1 := fbW a ty N r en re O z tx X Y fc sl pt tot hv (P ++ mdW b ty B N E J ph V rd [])) rfl ?_
  have hM := z_FB_refer (l := l) (D := D) (ty := ty) (tt := tt) (a := a) (N := N) (r := r) (en := en) (re := re) (O := O) (z := z) (tx := tx) (X := X) (Y := Y) (fc := fc) (sl := sl) (pt := pt) (tot := tot) (hv := hv) (rest := P ++ mdW b ty B N E J ph V rd []) a3 (xs (i + 1)) (xs (i + 2))
  rw [ref_eq a1] at hM
  refine gx_Vd K (hM) Y_FB_refer (ci := 0) rfl (q0 := 0) rfl k215 k216 k214 rfl ⟨by omega, by omega⟩ ⟨by omega, by omega⟩ (gle rfl) d_Law_law_135 ?_
  by_cases hk : k_ref B (xs (i + 1)) (xs (i + 2)) = true
  · skip
    refine gx_ws (w1 := fbW a ty N (upd r (ix (xs (i + 1))) (r (ix (xs (i + 1))) ||| ((1 : Int32) <<< ((xs (i + 2)) &&& 31)))) en (c_rd (upd r (ix (xs (i + 1))) (r (ix (xs (i + 1))) ||| ((1 : Int32) <<< ((xs (i + 2)) &&& 31)))) re 7) O z tx X Y fc true pt tot hv P ++ mdW b ty B N E J ph V rd []) (if_pos hk) ?_
    refine gy_swap _ _ ?_
    refine gx_ws (w1 := mdW b ty B N E J ph V rd (fbW a ty N (upd r (ix (xs (i + 1))) (r (ix (xs (i + 1))) ||| ((1 : Int32) <<< ((xs (i + 2)) &&& 31)))) en (c_rd (upd r (ix (xs (i + 1))) (r (ix (xs (i + 1))) ||| ((1 : Int32) <<< ((xs (i + 2)) &&& 31)))) re 7) O z tx X Y fc true pt tot hv P)) rfl ?_
    refine gx_aload_n K d_Law_law_138 rfl rfl ?_
    refine gx_arg K S (i := i) (j := 1) (by omega) rfl rfl rfl d_Law_law_139 d_Law_law_140 d_Law_law_141 d_Law_law_142 d_Law_law_143 ?_
    refine gx_arg K S (i := i) (j := 2) (by omega) rfl rfl rfl d_Law_law_144 d_Law_law_145 d_Law_law_146 d_Law_law_147 d_Law_law_148 ?_
    refine gx_Vd K (z_Mod_refer I a3 (xs (i + 1)) (xs (i + 2))) Y_Mod_refer (ci := 12) rfl (q0 := 0) rfl k828 k829 k827 rfl ⟨by omega, by omega⟩ ⟨by omega, by omega⟩ (gle rfl) d_Law_law_149 ?_
    refine gx_ws (w1 := mdW b ty (va_up B 0 (va_up (B 0) (8 * ix (xs (i + 1)) + ix (xs (i + 2))) true)) N E J ph V rd (fbW a ty N (upd r (ix (xs (i + 1))) (r (ix (xs (i + 1))) ||| ((1 : Int32) <<< ((xs (i + 2)) &&& 31)))) en (c_rd (upd r (ix (xs (i + 1))) (r (ix (xs (i + 1))) ||| ((1 : Int32) <<< ((xs (i + 2)) &&& 31)))) re 7) O z tx X Y fc true pt tot hv P)) (if_pos hk) ?_
    refine gx_icmp_eqT K d_Law_law_152 rfl (rfl) ?_
    refine gx_wide (k1 := k + 1) (n1 := n + 8) (by omega) (by omega) ?_
    exact nx _ _ _ _ _ _ _ _ _ _ _ _ _ _ _ _ _ _ _ _ _ (RL_refer h (ref_rg hk).1 (ref_rg hk).2)
  · skip
    refine gx_ws (w1 := fbW a ty N r en re O z tx X Y fc sl pt tot hv P ++ mdW b ty B N E J ph V rd []) (if_neg hk) ?_
    refine gy_swap _ _ ?_
    refine gx_ws (w1 := mdW b ty B N E J ph V rd (fbW a ty N r en re O z tx X Y fc sl pt tot hv P)) rfl ?_
    refine gx_aload_n K d_Law_law_138 rfl rfl ?_
    refine gx_arg K S (i := i) (j := 1) (by omega) rfl rfl rfl d_Law_law_139 d_Law_law_140 d_Law_law_141 d_Law_law_142 d_Law_law_143 ?_
    refine gx_arg K S (i := i) (j := 2) (by omega) rfl rfl rfl d_Law_law_144 d_Law_law_145 d_Law_law_146 d_Law_law_147 d_Law_law_148 ?_
    refine gx_Vd K (z_Mod_refer I a3 (xs (i + 1)) (xs (i + 2))) Y_Mod_refer (ci := 12) rfl (q0 := 0) rfl k828 k829 k827 rfl ⟨by omega, by omega⟩ ⟨by omega, by omega⟩ (gle rfl) d_Law_law_149 ?_
    refine gx_ws (w1 := mdW b ty B N E J ph V rd (fbW a ty N r en re O z tx X Y fc sl pt tot hv P)) (if_neg hk) ?_
    refine gx_icmp_eqT K d_Law_law_152 rfl (rfl) ?_
    refine gx_wide (k1 := k + 1) (n1 := n + 8) (by omega) (by omega) ?_
    exact nx _ _ _ _ _ _ _ _ _ _ _ _ _ _ _ _ _ _ _ _ _ (h)
set_option maxRecDepth 100000 in
set_option maxHeartbeats 1000000 in
theorem w_enter (K : gK p s m args c c_Law_law 4 "FactBinderLaw" D ty tt A) (S : lwS bb ll xs s A) (hi : i + 6 ≤ ll) (hR : 9 ≤ R.frames ∧ 400 ≤ R.locals) (hC : k + 1 ≤ R.cells ∧ n + 8 ≤ R.slots) (nx : LC p l e R s m args below meth c D A Q ty a b (k + 1) (n + 8) (lwL bb a b i) 792) (h : RL B N E J ph V r en re O z tx X Y fc sl P) : gG p l e R s m args below meth c 4 D A Q k n (mdW b ty B N E J ph V rd (fbW a ty N r en re O z tx X Y fc sl pt tot hv P)) (lwL bb a b i) [] 157 := by
  obtain ⟨a1, a2, a3, a4, a5, a6, a7, a8⟩ := id h
  obtain ⟨-, -, -, -, -, I, -, -, -, hV⟩ := id a2
  have G := cI_ext (mdW b ty B N E J ph V rd []) a2
  obtain ⟨hR1, hR2⟩ := hR
  obtain ⟨hC1, hC2⟩ := hC
  refine gx_aload_n K d_Law_law_157 rfl rfl ?_
  refine gx_arg K S (i := i) (j := 1) (by omega) rfl rfl rfl d_Law_law_158 d_Law_law_159 d_Law_law_160 d_Law_law_161 d_Law_law_162 ?_
  refine gx_ws (w1 := mdW b ty B N E J ph V rd [] ++ fbW a ty N r en re O z tx X Y fc sl pt tot hv P) rfl ?_
  refine gy_swap _ _ ?_
  refine gx_ws (w1 := fbW a ty N r en re O z tx X Y fc sl pt tot hv (P ++ mdW b ty B N E J ph V rd [])) rfl ?_
  have hM := z_FB_enter (l := l) (D := D) (ty := ty) (tt := tt) (a := a) (N := N) (r := r) (en := en) (re := re) (O := O) (z := z) (tx := tx) (X := X) (Y := Y) (fc := fc) (sl := sl) (pt := pt) (tot := tot) (hv := hv) (rest := P ++ mdW b ty B N E J ph V rd []) a3 (xs (i + 1))
  rw [ent_eq a1] at hM
  refine gx_Vd K (hM) Y_FB_enter (ci := 0) rfl (q0 := 0) rfl k237 k238 k236 rfl ⟨by omega, by omega⟩ ⟨by omega, by omega⟩ (gle rfl) d_Law_law_163 ?_
  by_cases hk : k_ent B (xs (i + 1)) = true
  · skip
    refine gx_ws (w1 := fbW a ty N r (en ||| ((1 : Int32) <<< ((xs (i + 1)) &&& 31))) (c_rd r (re ||| ((1 : Int32) <<< ((xs (i + 1)) &&& 31))) 7) O z tx X Y fc true pt tot hv P ++ mdW b ty B N E J ph V rd []) (if_pos hk) ?_
    refine gy_swap _ _ ?_
    refine gx_ws (w1 := mdW b ty B N E J ph V rd (fbW a ty N r (en ||| ((1 : Int32) <<< ((xs (i + 1)) &&& 31))) (c_rd r (re ||| ((1 : Int32) <<< ((xs (i + 1)) &&& 31))) 7) O z tx X Y fc true pt tot hv P)) rfl ?_
    refine gx_aload_n K d_Law_law_166 rfl rfl ?_
    refine gx_arg K S (i := i) (j := 1) (by omega) rfl rfl rfl d_Law_law_167 d_Law_law_168 d_Law_law_169 d_Law_law_170 d_Law_law_171 ?_
    refine gx_Vd K (z_Mod_enter I a3 (xs (i + 1))) Y_Mod_enter (ci := 12) rfl (q0 := 0) rfl k835 k836 k834 rfl ⟨by omega, by omega⟩ ⟨by omega, by omega⟩ (gle rfl) d_Law_law_172 ?_
    refine gx_ws (w1 := mdW b ty (va_up B 1 (va_up (B 1) (ix (xs (i + 1))) true)) N E J ph V rd (fbW a ty N r (en ||| ((1 : Int32) <<< ((xs (i + 1)) &&& 31))) (c_rd r (re ||| ((1 : Int32) <<< ((xs (i + 1)) &&& 31))) 7) O z tx X Y fc true pt tot hv P)) (if_pos hk) ?_
    refine gx_icmp_eqT K d_Law_law_175 rfl (rfl) ?_
    refine gx_wide (k1 := k + 1) (n1 := n + 8) (by omega) (by omega) ?_
    exact nx _ _ _ _ _ _ _ _ _ _ _ _ _ _ _ _ _ _ _ _ _ (RL_enter h (ent_rg hk))
  · skip
    refine gx_ws (w1 := fbW a ty N r en re O z tx X Y fc sl pt tot hv P ++ mdW b ty B N E J ph V rd []) (if_neg hk) ?_
    refine gy_swap _ _ ?_
    refine gx_ws (w1 := mdW b ty B N E J ph V rd (fbW a ty N r en re O z tx X Y fc sl pt tot hv P)) rfl ?_
    refine gx_aload_n K d_Law_law_166 rfl rfl ?_
    refine gx_arg K S (i := i) (j := 1) (by omega) rfl rfl rfl d_Law_law_167 d_Law_law_168 d_Law_law_169 d_Law_law_170 d_Law_law_171 ?_
    refine gx_Vd K (z_Mod_enter I a3 (xs (i + 1))) Y_Mod_enter (ci := 12) rfl (q0 := 0) rfl k835 k836 k834 rfl ⟨by omega, by omega⟩ ⟨by omega, by omega⟩ (gle rfl) d_Law_law_172 ?_
    refine gx_ws (w1 := mdW b ty B N E J ph V rd (fbW a ty N r en re O z tx X Y fc sl pt tot hv P)) (if_neg hk) ?_
    refine gx_icmp_eqT K d_Law_law_175 rfl (rfl) ?_
    refine gx_wide (k1 := k + 1) (n1 := n + 8) (by omega) (by omega) ?_
    exact nx _ _ _ _ _ _ _ _ _ _ _ _ _ _ _ _ _ _ _ _ _ (h)
set_option maxRecDepth 100000 in
set_option maxHeartbeats 1000000 in
theorem w_concept (K : gK p s m args c c_Law_law 4 "FactBinderLaw" D ty tt A) (S : lwS bb ll xs s A) (hi : i + 6 ≤ ll) (hR : 9 ≤ R.frames ∧ 400 ≤ R.locals) (hC : k + 1 ≤ R.cells ∧ n + 8 ≤ R.slots) (nx : LC p l e R s m args below meth c D A Q ty a b (k + 1) (n + 8) (lwL bb a b i) 792) (h : RL B N E J ph V r en re O z tx X Y fc sl P) : gG p l e R s m args below meth c 4 D A Q k n (mdW b ty B N E J ph V rd (fbW a ty N r en re O z tx X Y fc sl pt tot hv P)) (lwL bb a b i) [] 180 := by
  obtain ⟨a1, a2, a3, a4, a5, a6, a7, a8⟩ := id h
  obtain ⟨-, -, -, -, -, I, -, -, -, hV⟩ := id a2
  have G := cI_ext (mdW b ty B N E J ph V rd []) a2
  obtain ⟨hR1, hR2⟩ := hR
  obtain ⟨hC1, hC2⟩ := hC
  refine gx_aload_n K d_Law_law_180 rfl rfl ?_
  refine gx_arg K S (i := i) (j := 1) (by omega) rfl rfl rfl d_Law_law_181 d_Law_law_182 d_Law_law_183 d_Law_law_184 d_Law_law_185 ?_
  refine gx_arg K S (i := i) (j := 2) (by omega) rfl rfl rfl d_Law_law_186 d_Law_law_187 d_Law_law_188 d_Law_law_189 d_Law_law_190 ?_
  refine gx_arg K S (i := i) (j := 3) (by omega) rfl rfl rfl d_Law_law_191 d_Law_law_192 d_Law_law_193 d_Law_law_194 d_Law_law_195 ?_
  refine gx_arg K S (i := i) (j := 4) (by omega) rfl rfl rfl d_Law_law_196 d_Law_law_197 d_Law_law_198 d_Law_law_199 d_Law_law_200 ?_
  refine gx_ws (w1 := mdW b ty B N E J ph V rd [] ++ fbW a ty N r en re O z tx X Y fc sl pt tot hv P) rfl ?_
  refine gy_swap _ _ ?_
  refine gx_ws (w1 := fbW a ty N r en re O z tx X Y fc sl pt tot hv (P ++ mdW b ty B N E J ph V rd [])) rfl ?_
  have hM := z_FB_concept (l := l) (D := D) (ty := ty) (tt := tt) (a := a) (N := N) (r := r) (en := en) (re := re) (O := O) (z := z) (tx := tx) (X := X) (Y := Y) (fc := fc) (sl := sl) (pt := pt) (tot := tot) (hv := hv) (rest := P ++ mdW b ty B N E J ph V rd []) a3 (xs (i + 1)) (xs (i + 2)) (xs (i + 3)) (xs (i + 4))
  refine gx_V K (hM) Y_FB_concept (ci := 0) rfl (q0 := 0) rfl k245 k246 k244 rfl ⟨by omega, by omega⟩ ⟨by omega, by omega⟩ (gle rfl) d_Law_law_201 (fun v w hp => ?_)
  obtain ⟨q, hv1, hw1⟩ := hp
  by_cases hk : k_con N (xs (i + 1)) (xs (i + 2)) (xs (i + 3)) (xs (i + 4)) = true
  · skip
    subst hv1
    subst hw1
    refine gx_st (s1 := [_]) rfl ?_
    refine gx_ws (w1 := (fbW a ty (va_up N 0 (N 0 + 1)) r en re (va_up O 0 (va_up (O 0) (N 0) (some q))) z tx X Y fc sl pt tot hv P ++ mdW b ty B N E J ph V rd []) ++ [(q, .inr (6, [.int (xs (i + 1)), .int (xs (i + 2)), .int (xs (i + 3)), .int (xs (i + 4))]))]) (if_pos hk) ?_
    refine gy_swap3 _ _ _ ?_
    refine gx_ws (w1 := mdW b ty B N E J ph V rd (fbW a ty (va_up N 0 (N 0 + 1)) r en re (va_up O 0 (va_up (O 0) (N 0) (some q))) z tx X Y fc sl pt tot hv (P ++ [(q, .inr (6, [.int (xs (i + 1)), .int (xs (i + 2)), .int (xs (i + 3)), .int (xs (i + 4))]))]))) rfl ?_
    refine gx_aload_n K d_Law_law_204 rfl rfl ?_
    refine gx_arg K S (i := i) (j := 1) (by omega) rfl rfl rfl d_Law_law_205 d_Law_law_206 d_Law_law_207 d_Law_law_208 d_Law_law_209 ?_
    refine gx_arg K S (i := i) (j := 2) (by omega) rfl rfl rfl d_Law_law_210 d_Law_law_211 d_Law_law_212 d_Law_law_213 d_Law_law_214 ?_
    refine gx_arg K S (i := i) (j := 3) (by omega) rfl rfl rfl d_Law_law_215 d_Law_law_216 d_Law_law_217 d_Law_law_218 d_Law_law_219 ?_
    refine gx_arg K S (i := i) (j := 4) (by omega) rfl rfl rfl d_Law_law_220 d_Law_law_221 d_Law_law_222 d_Law_law_223 d_Law_law_224 ?_
    refine gx_Vd K (z_Mod_concept I a3 (xs (i + 1)) (xs (i + 2)) (xs (i + 3)) (xs (i + 4))) Y_Mod_concept (ci := 12) rfl (q0 := 0) rfl k847 k848 k846 rfl ⟨by omega, by omega⟩ ⟨by omega, by omega⟩ (gle rfl) d_Law_law_225 ?_
    refine gx_ws (w1 := mdW b ty B (va_up N 0 (N 0 + 1)) (e_con E (N 0) (xs (i + 1)) (xs (i + 2)) (xs (i + 3)) (xs (i + 4))) J ph V rd (fbW a ty (va_up N 0 (N 0 + 1)) r en re (va_up O 0 (va_up (O 0) (N 0) (some q))) z tx X Y fc sl pt tot hv (P ++ [(q, .inr (6, [.int (xs (i + 1)), .int (xs (i + 2)), .int (xs (i + 3)), .int (xs (i + 4))]))]))) (if_pos hk) ?_
    refine gx_icmp_eqT K d_Law_law_228 rfl (rfl) ?_
    refine gx_wide (k1 := k + 1) (n1 := n + 8) (by omega) (by omega) ?_
    exact nx _ _ _ _ _ _ _ _ _ _ _ _ _ _ _ _ _ _ _ _ _ (RL_con h hk)
  · skip
    subst hv1
    subst hw1
    refine gx_st (s1 := [_]) rfl ?_
    refine gx_ws (w1 := fbW a ty N r en re O z tx X Y fc sl pt tot hv P ++ mdW b ty B N E J ph V rd []) (if_neg hk) ?_
    refine gy_swap _ _ ?_
    refine gx_ws (w1 := mdW b ty B N E J ph V rd (fbW a ty N r en re O z tx X Y fc sl pt tot hv P)) rfl ?_
    refine gx_aload_n K d_Law_law_204 rfl rfl ?_
    refine gx_arg K S (i := i) (j := 1) (by omega) rfl rfl rfl d_Law_law_205 d_Law_law_206 d_Law_law_207 d_Law_law_208 d_Law_law_209 ?_
    refine gx_arg K S (i := i) (j := 2) (by omega) rfl rfl rfl d_Law_law_210 d_Law_law_211 d_Law_law_212 d_Law_law_213 d_Law_law_214 ?_
    refine gx_arg K S (i := i) (j := 3) (by omega) rfl rfl rfl d_Law_law_215 d_Law_law_216 d_Law_law_217 d_Law_law_218 d_Law_law_219 ?_
    refine gx_arg K S (i := i) (j := 4) (by omega) rfl rfl rfl d_Law_law_220 d_Law_law_221 d_Law_law_222 d_Law_law_223 d_Law_law_224 ?_
    refine gx_Vd K (z_Mod_concept I a3 (xs (i + 1)) (xs (i + 2)) (xs (i + 3)) (xs (i + 4))) Y_Mod_concept (ci := 12) rfl (q0 := 0) rfl k847 k848 k846 rfl ⟨by omega, by omega⟩ ⟨by omega, by omega⟩ (gle rfl) d_Law_law_225 ?_
    refine gx_ws (w1 := mdW b ty B N E J ph V rd (fbW a ty N r en re O z tx X Y fc sl pt tot hv P)) (if_neg hk) ?_
    refine gx_icmp_eqT K d_Law_law_228 rfl (rfl) ?_
    refine gx_wide (k1 := k + 1) (n1 := n + 8) (by omega) (by omega) ?_
    exact nx _ _ _ _ _ _ _ _ _ _ _ _ _ _ _ _ _ _ _ _ _ (h)
set_option maxRecDepth 100000 in
set_option maxHeartbeats 1000000 in
theorem w_setting (K : gK p s m args c c_Law_law 4 "FactBinderLaw" D ty tt A) (S : lwS bb ll xs s A) (hi : i + 6 ≤ ll) (hR : 9 ≤ R.frames ∧ 400 ≤ R.locals) (hC : k + 1 ≤ R.cells ∧ n + 8 ≤ R.slots) (nx : LC p l e R s m args below meth c D A Q ty a b (k + 1) (n + 8) (lwL bb a b i) 792) (h : RL B N E J ph V r en re O z tx X Y fc sl P) : gG p l e R s m args below meth c 4 D A Q k n (mdW b ty B N E J ph V rd (fbW a ty N r en re O z tx X Y fc sl pt tot hv P)) (lwL bb a b i) [] 233 := by
  obtain ⟨a1, a2, a3, a4, a5, a6, a7, a8⟩ := id h
  obtain ⟨-, -, -, -, -, I, -, -, -, hV⟩ := id a2
  have G := cI_ext (mdW b ty B N E J ph V rd []) a2
  obtain ⟨hR1, hR2⟩ := hR
  obtain ⟨hC1, hC2⟩ := hC
  refine gx_aload_n K d_Law_law_233 rfl rfl ?_
  refine gx_arg K S (i := i) (j := 1) (by omega) rfl rfl rfl d_Law_law_234 d_Law_law_235 d_Law_law_236 d_Law_law_237 d_Law_law_238 ?_
  refine gx_arg K S (i := i) (j := 2) (by omega) rfl rfl rfl d_Law_law_239 d_Law_law_240 d_Law_law_241 d_Law_law_242 d_Law_law_243 ?_
  refine gx_cut (X := !decide (xs (i + 3) = 0)) 257 ?_ (fun jn => ?_)
  rotate_left
  · refine gx_arg K S (i := i) (j := 3) (by omega) rfl rfl rfl d_Law_law_244 d_Law_law_245 d_Law_law_246 d_Law_law_247 d_Law_law_248 ?_
    refine gx_if_eq K d_Law_law_249 rfl (fun hz => ?_) (fun hz => ?_)
    · refine gx_iconst (v := b2i false) K d_Law_law_256 rfl ?_
      exact jn _ (by simp [hz])
    · refine gx_iconst (v := b2i true) K d_Law_law_252 rfl ?_
      refine gx_goto K d_Law_law_253 rfl ?_
      exact jn _ (by simp [hz])
  refine gx_ws (w1 := mdW b ty B N E J ph V rd [] ++ fbW a ty N r en re O z tx X Y fc sl pt tot hv P) rfl ?_
  refine gy_swap _ _ ?_
  refine gx_ws (w1 := fbW a ty N r en re O z tx X Y fc sl pt tot hv (P ++ mdW b ty B N E J ph V rd [])) rfl ?_
  have hM := z_FB_setting (l := l) (D := D) (ty := ty) (tt := tt) (a := a) (N := N) (r := r) (en := en) (re := re) (O := O) (z := z) (tx := tx) (X := X) (Y := Y) (fc := fc) (sl := sl) (pt := pt) (tot := tot) (hv := hv) (rest := P ++ mdW b ty B N E J ph V rd []) a3 (xs (i + 1)) (xs (i + 2)) (!decide ((xs (i + 3)) = 0))
  refine gx_V K (hM) Y_FB_setting (ci := 0) rfl (q0 := 0) rfl k279 k280 k278 rfl ⟨by omega, by omega⟩ ⟨by omega, by omega⟩ (gle rfl) d_Law_law_257 (fun v w hp => ?_)
  obtain ⟨q, hv1, hw1⟩ := hp
  by_cases hk : k_set (xs (i + 1)) (xs (i + 2)) = true
  · skip
    subst hv1
    subst hw1
    refine gx_st (s1 := [_]) rfl ?_
    refine gx_ws (w1 := (fbW a ty N r en re O q tx X Y fc sl pt tot hv P ++ mdW b ty B N E J ph V rd []) ++ [(q, .inr (7, [.int (xs (i + 1)), .int (xs (i + 2)), .int (b2i (!decide ((xs (i + 3)) = 0)))]))]) (if_pos hk) ?_
    refine gy_swap3 _ _ _ ?_
    refine gx_ws (w1 := mdW b ty B N E J ph V rd (fbW a ty N r en re O q tx X Y fc sl pt tot hv (P ++ [(q, .inr (7, [.int (xs (i + 1)), .int (xs (i + 2)), .int (b2i (!decide ((xs (i + 3)) = 0)))]))]))) rfl ?_
    refine gx_aload_n K d_Law_law_260 rfl rfl ?_
    refine gx_arg K S (i := i) (j := 1) (by omega) rfl rfl rfl d_Law_law_261 d_Law_law_262 d_Law_law_263 d_Law_law_264 d_Law_law_265 ?_
    refine gx_arg K S (i := i) (j := 2) (by omega) rfl rfl rfl d_Law_law_266 d_Law_law_267 d_Law_law_268 d_Law_law_269 d_Law_law_270 ?_
    refine gx_cut (X := !decide (xs (i + 3) = 0)) 284 ?_ (fun jn => ?_)
    rotate_left
    · refine gx_arg K S (i := i) (j := 3) (by omega) rfl rfl rfl d_Law_law_271 d_Law_law_272 d_Law_law_273 d_Law_law_274 d_Law_law_275 ?_
      refine gx_if_eq K d_Law_law_276 rfl (fun hz => ?_) (fun hz => ?_)
      · refine gx_iconst (v := b2i false) K d_Law_law_283 rfl ?_
        exact jn _ (by simp [hz])
      · refine gx_iconst (v := b2i true) K d_Law_law_279 rfl ?_
        refine gx_goto K d_Law_law_280 rfl ?_
        exact jn _ (by simp [hz])
    refine gx_Vd K (z_Mod_setting I a3 (xs (i + 1)) (xs (i + 2)) (!decide ((xs (i + 3)) = 0))) Y_Mod_setting (ci := 12) rfl (q0 := 0) rfl k875 k876 k874 rfl ⟨by omega, by omega⟩ ⟨by omega, by omega⟩ (gle rfl) d_Law_law_284 ?_
    refine gx_ws (w1 := mdW b ty B N E (va_up (va_up J 0 (xs (i + 1))) 1 (xs (i + 2))) (!decide ((xs (i + 3)) = 0)) V rd (fbW a ty N r en re O q tx X Y fc sl pt tot hv (P ++ [(q, .inr (7, [.int (xs (i + 1)), .int (xs (i + 2)), .int (b2i (!decide ((xs (i + 3)) = 0)))]))]))) (if_pos hk) ?_
    refine gx_icmp_eqT K d_Law_law_287 rfl (rfl) ?_
    refine gx_wide (k1 := k + 1) (n1 := n + 8) (by omega) (by omega) ?_
    exact nx _ _ _ _ _ _ _ _ _ _ _ _ _ _ _ _ _ _ _ _ _ (RL_set h)
  · skip
    subst hv1
    subst hw1
    refine gx_st (s1 := [_]) rfl ?_
    refine gx_ws (w1 := fbW a ty N r en re O z tx X Y fc sl pt tot hv P ++ mdW b ty B N E J ph V rd []) (if_neg hk) ?_
    refine gy_swap _ _ ?_
    refine gx_ws (w1 := mdW b ty B N E J ph V rd (fbW a ty N r en re O z tx X Y fc sl pt tot hv P)) rfl ?_
    refine gx_aload_n K d_Law_law_260 rfl rfl ?_
    refine gx_arg K S (i := i) (j := 1) (by omega) rfl rfl rfl d_Law_law_261 d_Law_law_262 d_Law_law_263 d_Law_law_264 d_Law_law_265 ?_
    refine gx_arg K S (i := i) (j := 2) (by omega) rfl rfl rfl d_Law_law_266 d_Law_law_267 d_Law_law_268 d_Law_law_269 d_Law_law_270 ?_
    refine gx_cut (X := !decide (xs (i + 3) = 0)) 284 ?_ (fun jn => ?_)
    rotate_left
    · refine gx_arg K S (i := i) (j := 3) (by omega) rfl rfl rfl d_Law_law_271 d_Law_law_272 d_Law_law_273 d_Law_law_274 d_Law_law_275 ?_
      refine gx_if_eq K d_Law_law_276 rfl (fun hz => ?_) (fun hz => ?_)
      · refine gx_iconst (v := b2i false) K d_Law_law_283 rfl ?_
        exact jn _ (by simp [hz])
      · refine gx_iconst (v := b2i true) K d_Law_law_279 rfl ?_
        refine gx_goto K d_Law_law_280 rfl ?_
        exact jn _ (by simp [hz])
    refine gx_Vd K (z_Mod_setting I a3 (xs (i + 1)) (xs (i + 2)) (!decide ((xs (i + 3)) = 0))) Y_Mod_setting (ci := 12) rfl (q0 := 0) rfl k875 k876 k874 rfl ⟨by omega, by omega⟩ ⟨by omega, by omega⟩ (gle rfl) d_Law_law_284 ?_
    refine gx_ws (w1 := mdW b ty B N E J ph V rd (fbW a ty N r en re O z tx X Y fc sl pt tot hv P)) (if_neg hk) ?_
    refine gx_icmp_eqT K d_Law_law_287 rfl (rfl) ?_
    refine gx_wide (k1 := k + 1) (n1 := n + 8) (by omega) (by omega) ?_
    exact nx _ _ _ _ _ _ _ _ _ _ _ _ _ _ _ _ _ _ _ _ _ (h)
set_option maxRecDepth 100000 in
set_option maxHeartbeats 1000000 in
theorem w_arc (K : gK p s m args c c_Law_law 4 "FactBinderLaw" D ty tt A) (S : lwS bb ll xs s A) (hi : i + 6 ≤ ll) (hR : 9 ≤ R.frames ∧ 400 ≤ R.locals) (hC : k + 1 ≤ R.cells ∧ n + 8 ≤ R.slots) (nx : LC p l e R s m args below meth c D A Q ty a b (k + 1) (n + 8) (lwL bb a b i) 792) (h : RL B N E J ph V r en re O z tx X Y fc sl P) : gG p l e R s m args below meth c 4 D A Q k n (mdW b ty B N E J ph V rd (fbW a ty N r en re O z tx X Y fc sl pt tot hv P)) (lwL bb a b i) [] 292 := by
  obtain ⟨a1, a2, a3, a4, a5, a6, a7, a8⟩ := id h
  obtain ⟨-, -, -, -, -, I, -, -, -, hV⟩ := id a2
  have G := cI_ext (mdW b ty B N E J ph V rd []) a2
  obtain ⟨hR1, hR2⟩ := hR
  obtain ⟨hC1, hC2⟩ := hC
  refine gx_aload_n K d_Law_law_292 rfl rfl ?_
  refine gx_arg K S (i := i) (j := 1) (by omega) rfl rfl rfl d_Law_law_293 d_Law_law_294 d_Law_law_295 d_Law_law_296 d_Law_law_297 ?_
  refine gx_arg K S (i := i) (j := 2) (by omega) rfl rfl rfl d_Law_law_298 d_Law_law_299 d_Law_law_300 d_Law_law_301 d_Law_law_302 ?_
  refine gx_arg K S (i := i) (j := 3) (by omega) rfl rfl rfl d_Law_law_303 d_Law_law_304 d_Law_law_305 d_Law_law_306 d_Law_law_307 ?_
  refine gx_arg K S (i := i) (j := 4) (by omega) rfl rfl rfl d_Law_law_308 d_Law_law_309 d_Law_law_310 d_Law_law_311 d_Law_law_312 ?_
  refine gx_arg K S (i := i) (j := 5) (by omega) rfl rfl rfl d_Law_law_313 d_Law_law_314 d_Law_law_315 d_Law_law_316 d_Law_law_317 ?_
  refine gx_ws (w1 := mdW b ty B N E J ph V rd [] ++ fbW a ty N r en re O z tx X Y fc sl pt tot hv P) rfl ?_
  refine gy_swap _ _ ?_
  refine gx_ws (w1 := fbW a ty N r en re O z tx X Y fc sl pt tot hv (P ++ mdW b ty B N E J ph V rd [])) rfl ?_
  have hM := z_FB_arc (l := l) (D := D) (ty := ty) (tt := tt) (a := a) (N := N) (r := r) (en := en) (re := re) (O := O) (z := z) (tx := tx) (X := X) (Y := Y) (fc := fc) (sl := sl) (pt := pt) (tot := tot) (hv := hv) (rest := P ++ mdW b ty B N E J ph V rd []) a3 (xs (i + 1)) (xs (i + 2)) (xs (i + 3)) (xs (i + 4)) (xs (i + 5))
  refine gx_V K (hM) Y_FB_arc (ci := 0) rfl (q0 := 0) rfl k286 k287 k285 rfl ⟨by omega, by omega⟩ ⟨by omega, by omega⟩ (gle rfl) d_Law_law_318 (fun v w hp => ?_)
  obtain ⟨q, hv1, hw1⟩ := hp
  by_cases hk : k_arc N (xs (i + 1)) (xs (i + 2)) (xs (i + 3)) (xs (i + 4)) (xs (i + 5)) = true
  · skip
    subst hv1
    subst hw1
    refine gx_st (s1 := [_]) rfl ?_
    refine gx_ws (w1 := (fbW a ty (va_up N 1 (N 1 + 1)) r en re (va_up O 1 (va_up (O 1) (N 1) (some q))) z tx X Y fc true pt tot hv P ++ mdW b ty B N E J ph V rd []) ++ [(q, .inr (8, [.int (xs (i + 1)), .int (xs (i + 2)), .int (xs (i + 3)), .int (xs (i + 4)), .int (xs (i + 5)), .ref z]))]) (if_pos hk) ?_
    refine gy_swap3 _ _ _ ?_
    refine gx_ws (w1 := mdW b ty B N E J ph V rd (fbW a ty (va_up N 1 (N 1 + 1)) r en re (va_up O 1 (va_up (O 1) (N 1) (some q))) z tx X Y fc true pt tot hv (P ++ [(q, .inr (8, [.int (xs (i + 1)), .int (xs (i + 2)), .int (xs (i + 3)), .int (xs (i + 4)), .int (xs (i + 5)), .ref z]))]))) rfl ?_
    refine gx_aload_n K d_Law_law_321 rfl rfl ?_
    refine gx_arg K S (i := i) (j := 1) (by omega) rfl rfl rfl d_Law_law_322 d_Law_law_323 d_Law_law_324 d_Law_law_325 d_Law_law_326 ?_
    refine gx_arg K S (i := i) (j := 2) (by omega) rfl rfl rfl d_Law_law_327 d_Law_law_328 d_Law_law_329 d_Law_law_330 d_Law_law_331 ?_
    refine gx_arg K S (i := i) (j := 3) (by omega) rfl rfl rfl d_Law_law_332 d_Law_law_333 d_Law_law_334 d_Law_law_335 d_Law_law_336 ?_
    refine gx_arg K S (i := i) (j := 4) (by omega) rfl rfl rfl d_Law_law_337 d_Law_law_338 d_Law_law_339 d_Law_law_340 d_Law_law_341 ?_
    refine gx_arg K S (i := i) (j := 5) (by omega) rfl rfl rfl d_Law_law_342 d_Law_law_343 d_Law_law_344 d_Law_law_345 d_Law_law_346 ?_
    refine gx_Vd K (z_Mod_arc I a3 (xs (i + 1)) (xs (i + 2)) (xs (i + 3)) (xs (i + 4)) (xs (i + 5))) Y_Mod_arc (ci := 12) rfl (q0 := 0) rfl k879 k880 k878 rfl ⟨by omega, by omega⟩ ⟨by omega, by omega⟩ (gle rfl) d_Law_law_347 ?_
    refine gx_ws (w1 := mdW b ty (va_up B 3 (va_up (B 3) (N 1) ph)) (va_up N 1 (N 1 + 1)) (e_arc E (N 1) (xs (i + 1)) (J 0) (xs (i + 2)) (xs (i + 3)) (xs (i + 4)) (xs (i + 5)) (J 1)) J ph V rd (fbW a ty (va_up N 1 (N 1 + 1)) r en re (va_up O 1 (va_up (O 1) (N 1) (some q))) z tx X Y fc true pt tot hv (P ++ [(q, .inr (8, [.int (xs (i + 1)), .int (xs (i + 2)), .int (xs (i + 3)), .int (xs (i + 4)), .int (xs (i + 5)), .ref z]))]))) (if_pos hk) ?_
    refine gx_icmp_eqT K d_Law_law_350 rfl (rfl) ?_
    refine gx_wide (k1 := k + 1) (n1 := n + 8) (by omega) (by omega) ?_
    exact nx _ _ _ _ _ _ _ _ _ _ _ _ _ _ _ _ _ _ _ _ _ (RL_arc h hk)
  · skip
    subst hv1
    subst hw1
    refine gx_st (s1 := [_]) rfl ?_
    refine gx_ws (w1 := fbW a ty N r en re O z tx X Y fc sl pt tot hv P ++ mdW b ty B N E J ph V rd []) (if_neg hk) ?_
    refine gy_swap _ _ ?_
    refine gx_ws (w1 := mdW b ty B N E J ph V rd (fbW a ty N r en re O z tx X Y fc sl pt tot hv P)) rfl ?_
    refine gx_aload_n K d_Law_law_321 rfl rfl ?_
    refine gx_arg K S (i := i) (j := 1) (by omega) rfl rfl rfl d_Law_law_322 d_Law_law_323 d_Law_law_324 d_Law_law_325 d_Law_law_326 ?_
    refine gx_arg K S (i := i) (j := 2) (by omega) rfl rfl rfl d_Law_law_327 d_Law_law_328 d_Law_law_329 d_Law_law_330 d_Law_law_331 ?_
    refine gx_arg K S (i := i) (j := 3) (by omega) rfl rfl rfl d_Law_law_332 d_Law_law_333 d_Law_law_334 d_Law_law_335 d_Law_law_336 ?_
    refine gx_arg K S (i := i) (j := 4) (by omega) rfl rfl rfl d_Law_law_337 d_Law_law_338 d_Law_law_339 d_Law_law_340 d_Law_law_341 ?_
    refine gx_arg K S (i := i) (j := 5) (by omega) rfl rfl rfl d_Law_law_342 d_Law_law_343 d_Law_law_344 d_Law_law_345 d_Law_law_346 ?_
    refine gx_Vd K (z_Mod_arc I a3 (xs (i + 1)) (xs (i + 2)) (xs (i + 3)) (xs (i + 4)) (xs (i + 5))) Y_Mod_arc (ci := 12) rfl (q0 := 0) rfl k879 k880 k878 rfl ⟨by omega, by omega⟩ ⟨by omega, by omega⟩ (gle rfl) d_Law_law_347 ?_
    refine gx_ws (w1 := mdW b ty B N E J ph V rd (fbW a ty N r en re O z tx X Y fc sl pt tot hv P)) (if_neg hk) ?_
    refine gx_icmp_eqT K d_Law_law_350 rfl (rfl) ?_
    refine gx_wide (k1 := k + 1) (n1 := n + 8) (by omega) (by omega) ?_
    exact nx _ _ _ _ _ _ _ _ _ _ _ _ _ _ _ _ _ _ _ _ _ (h)
set_option maxRecDepth 100000 in
set_option maxHeartbeats 1000000 in
theorem w_context (K : gK p s m args c c_Law_law 4 "FactBinderLaw" D ty tt A) (S : lwS bb ll xs s A) (hi : i + 6 ≤ ll) (hR : 9 ≤ R.frames ∧ 400 ≤ R.locals) (hC : k + 1 ≤ R.cells ∧ n + 8 ≤ R.slots) (nx : LC p l e R s m args below meth c D A Q ty a b (k + 1) (n + 8) (lwL bb a b i) 792) (h : RL B N E J ph V r en re O z tx X Y fc sl P) : gG p l e R s m args below meth c 4 D A Q k n (mdW b ty B N E J ph V rd (fbW a ty N r en re O z tx X Y fc sl pt tot hv P)) (lwL bb a b i) [] 355 := by
  obtain ⟨a1, a2, a3, a4, a5, a6, a7, a8⟩ := id h
  obtain ⟨-, -, -, -, -, I, -, -, -, hV⟩ := id a2
  have G := cI_ext (mdW b ty B N E J ph V rd []) a2
  obtain ⟨hR1, hR2⟩ := hR
  obtain ⟨hC1, hC2⟩ := hC
  refine gx_aload_n K d_Law_law_355 rfl rfl ?_
  refine gx_arg K S (i := i) (j := 1) (by omega) rfl rfl rfl d_Law_law_356 d_Law_law_357 d_Law_law_358 d_Law_law_359 d_Law_law_360 ?_
  refine gx_arg K S (i := i) (j := 2) (by omega) rfl rfl rfl d_Law_law_361 d_Law_law_362 d_Law_law_363 d_Law_law_364 d_Law_law_365 ?_
  refine gx_arg K S (i := i) (j := 3) (by omega) rfl rfl rfl d_Law_law_366 d_Law_law_367 d_Law_law_368 d_Law_law_369 d_Law_law_370 ?_
  refine gx_arg K S (i := i) (j := 4) (by omega) rfl rfl rfl d_Law_law_371 d_Law_law_372 d_Law_law_373 d_Law_law_374 d_Law_law_375 ?_
  refine gx_ws (w1 := mdW b ty B N E J ph V rd [] ++ fbW a ty N r en re O z tx X Y fc sl pt tot hv P) rfl ?_
  refine gy_swap _ _ ?_
  refine gx_ws (w1 := fbW a ty N r en re O z tx X Y fc sl pt tot hv (P ++ mdW b ty B N E J ph V rd [])) rfl ?_
  have hM := z_FB_context (l := l) (D := D) (ty := ty) (tt := tt) (a := a) (N := N) (r := r) (en := en) (re := re) (O := O) (z := z) (tx := tx) (X := X) (Y := Y) (fc := fc) (sl := sl) (pt := pt) (tot := tot) (hv := hv) (rest := P ++ mdW b ty B N E J ph V rd []) a3 (xs (i + 1)) (xs (i + 2)) (xs (i + 3)) (xs (i + 4))
  refine gx_V K (hM) Y_FB_context (ci := 0) rfl (q0 := 0) rfl k333 k334 k332 rfl ⟨by omega, by omega⟩ ⟨by omega, by omega⟩ (gle rfl) d_Law_law_376 (fun v w hp => ?_)
  obtain ⟨q, hv1, hw1⟩ := hp
  by_cases hk : k_ctx N (xs (i + 1)) (xs (i + 2)) (xs (i + 3)) (xs (i + 4)) = true
  · skip
    subst hv1
    subst hw1
    refine gx_st (s1 := [_]) rfl ?_
    refine gx_ws (w1 := (fbW a ty (va_up N 2 (N 2 + 1)) r en re (va_up O 2 (va_up (O 2) (N 2) (some q))) z tx X Y fc sl pt tot hv P ++ mdW b ty B N E J ph V rd []) ++ [(q, .inr (9, [.int (xs (i + 1)), .int (xs (i + 2)), .int (xs (i + 3)), .int (xs (i + 4))]))]) (if_pos hk) ?_
    refine gy_swap3 _ _ _ ?_
    refine gx_ws (w1 := mdW b ty B N E J ph V rd (fbW a ty (va_up N 2 (N 2 + 1)) r en re (va_up O 2 (va_up (O 2) (N 2) (some q))) z tx X Y fc sl pt tot hv (P ++ [(q, .inr (9, [.int (xs (i + 1)), .int (xs (i + 2)), .int (xs (i + 3)), .int (xs (i + 4))]))]))) rfl ?_
    refine gx_aload_n K d_Law_law_379 rfl rfl ?_
    refine gx_arg K S (i := i) (j := 1) (by omega) rfl rfl rfl d_Law_law_380 d_Law_law_381 d_Law_law_382 d_Law_law_383 d_Law_law_384 ?_
    refine gx_arg K S (i := i) (j := 2) (by omega) rfl rfl rfl d_Law_law_385 d_Law_law_386 d_Law_law_387 d_Law_law_388 d_Law_law_389 ?_
    refine gx_arg K S (i := i) (j := 3) (by omega) rfl rfl rfl d_Law_law_390 d_Law_law_391 d_Law_law_392 d_Law_law_393 d_Law_law_394 ?_
    refine gx_arg K S (i := i) (j := 4) (by omega) rfl rfl rfl d_Law_law_395 d_Law_law_396 d_Law_law_397 d_Law_law_398 d_Law_law_399 ?_
    refine gx_Vd K (z_Mod_context I a3 (xs (i + 1)) (xs (i + 2)) (xs (i + 3)) (xs (i + 4))) Y_Mod_context (ci := 12) rfl (q0 := 0) rfl k851 k852 k850 rfl ⟨by omega, by omega⟩ ⟨by omega, by omega⟩ (gle rfl) d_Law_law_400 ?_
    refine gx_ws (w1 := mdW b ty B (va_up N 2 (N 2 + 1)) (e_ctx E (N 2) (xs (i + 1)) (xs (i + 2)) (xs (i + 3)) (xs (i + 4))) J ph V rd (fbW a ty (va_up N 2 (N 2 + 1)) r en re (va_up O 2 (va_up (O 2) (N 2) (some q))) z tx X Y fc sl pt tot hv (P ++ [(q, .inr (9, [.int (xs (i + 1)), .int (xs (i + 2)), .int (xs (i + 3)), .int (xs (i + 4))]))]))) (if_pos hk) ?_
    refine gx_icmp_eqT K d_Law_law_403 rfl (rfl) ?_
    refine gx_wide (k1 := k + 1) (n1 := n + 8) (by omega) (by omega) ?_
    exact nx _ _ _ _ _ _ _ _ _ _ _ _ _ _ _ _ _ _ _ _ _ (RL_ctx h hk)
  · skip
    subst hv1
    subst hw1
    refine gx_st (s1 := [_]) rfl ?_
    refine gx_ws (w1 := fbW a ty N r en re O z tx X Y fc sl pt tot hv P ++ mdW b ty B N E J ph V rd []) (if_neg hk) ?_
    refine gy_swap _ _ ?_
    refine gx_ws (w1 := mdW b ty B N E J ph V rd (fbW a ty N r en re O z tx X Y fc sl pt tot hv P)) rfl ?_
    refine gx_aload_n K d_Law_law_379 rfl rfl ?_
    refine gx_arg K S (i := i) (j := 1) (by omega) rfl rfl rfl d_Law_law_380 d_Law_law_381 d_Law_law_382 d_Law_law_383 d_Law_law_384 ?_
    refine gx_arg K S (i := i) (j := 2) (by omega) rfl rfl rfl d_Law_law_385 d_Law_law_386 d_Law_law_387 d_Law_law_388 d_Law_law_389 ?_
    refine gx_arg K S (i := i) (j := 3) (by omega) rfl rfl rfl d_Law_law_390 d_Law_law_391 d_Law_law_392 d_Law_law_393 d_Law_law_394 ?_
    refine gx_arg K S (i := i) (j := 4) (by omega) rfl rfl rfl d_Law_law_395 d_Law_law_396 d_Law_law_397 d_Law_law_398 d_Law_law_399 ?_
    refine gx_Vd K (z_Mod_context I a3 (xs (i + 1)) (xs (i + 2)) (xs (i + 3)) (xs (i + 4))) Y_Mod_context (ci := 12) rfl (q0 := 0) rfl k851 k852 k850 rfl ⟨by omega, by omega⟩ ⟨by omega, by omega⟩ (gle rfl) d_Law_law_400 ?_
    refine gx_ws (w1 := mdW b ty B N E J ph V rd (fbW a ty N r en re O z tx X Y fc sl pt tot hv P)) (if_neg hk) ?_
    refine gx_icmp_eqT K d_Law_law_403 rfl (rfl) ?_
    refine gx_wide (k1 := k + 1) (n1 := n + 8) (by omega) (by omega) ?_
    exact nx _ _ _ _ _ _ _ _ _ _ _ _ _ _ _ _ _ _ _ _ _ (h)
set_option maxRecDepth 100000 in
set_option maxHeartbeats 1000000 in
theorem w_unit (K : gK p s m args c c_Law_law 4 "FactBinderLaw" D ty tt A) (S : lwS bb ll xs s A) (hi : i + 6 ≤ ll) (hR : 9 ≤ R.frames ∧ 400 ≤ R.locals) (hC : k + 1 ≤ R.cells ∧ n + 8 ≤ R.slots) (nx : LC p l e R s m args below meth c D A Q ty a b (k + 1) (n + 8) (lwL bb a b i) 792) (h : RL B N E J ph V r en re O z tx X Y fc sl P) : gG p l e R s m args below meth c 4 D A Q k n (mdW b ty B N E J ph V rd (fbW a ty N r en re O z tx X Y fc sl pt tot hv P)) (lwL bb a b i) [] 408 := by
  obtain ⟨a1, a2, a3, a4, a5, a6, a7, a8⟩ := id h
  obtain ⟨-, -, -, -, -, I, -, -, -, hV⟩ := id a2
  have G := cI_ext (mdW b ty B N E J ph V rd []) a2
  obtain ⟨hR1, hR2⟩ := hR
  obtain ⟨hC1, hC2⟩ := hC
  refine gx_aload_n K d_Law_law_408 rfl rfl ?_
  refine gx_arg K S (i := i) (j := 1) (by omega) rfl rfl rfl d_Law_law_409 d_Law_law_410 d_Law_law_411 d_Law_law_412 d_Law_law_413 ?_
  refine gx_arg K S (i := i) (j := 2) (by omega) rfl rfl rfl d_Law_law_414 d_Law_law_415 d_Law_law_416 d_Law_law_417 d_Law_law_418 ?_
  refine gx_arg K S (i := i) (j := 3) (by omega) rfl rfl rfl d_Law_law_419 d_Law_law_420 d_Law_law_421 d_Law_law_422 d_Law_law_423 ?_
  refine gx_ws (w1 := mdW b ty B N E J ph V rd [] ++ fbW a ty N r en re O z tx X Y fc sl pt tot hv P) rfl ?_
  refine gy_swap _ _ ?_
  refine gx_ws (w1 := fbW a ty N r en re O z tx X Y fc sl pt tot hv (P ++ mdW b ty B N E J ph V rd [])) rfl ?_
  have hM := z_FB_unit (l := l) (D := D) (ty := ty) (tt := tt) (a := a) (N := N) (r := r) (en := en) (re := re) (O := O) (z := z) (tx := tx) (X := X) (Y := Y) (fc := fc) (sl := sl) (pt := pt) (tot := tot) (hv := hv) (rest := P ++ mdW b ty B N E J ph V rd []) a3 (xs (i + 1)) (xs (i + 2)) (xs (i + 3))
  refine gx_V K (hM) Y_FB_unit (ci := 0) rfl (q0 := 0) rfl k364 k365 k363 rfl ⟨by omega, by omega⟩ ⟨by omega, by omega⟩ (gle rfl) d_Law_law_424 (fun v w hp => ?_)
  obtain ⟨q, hv1, hw1⟩ := hp
  by_cases hk : k_uni N (xs (i + 1)) (xs (i + 2)) (xs (i + 3)) = true
  · skip
    subst hv1
    subst hw1
    refine gx_st (s1 := [_]) rfl ?_
    refine gx_ws (w1 := (fbW a ty (va_up N 3 (N 3 + 1)) r en re (va_up O 3 (va_up (O 3) (N 3) (some q))) z tx X Y fc sl pt tot hv P ++ mdW b ty B N E J ph V rd []) ++ [(q, .inr (10, [.int (xs (i + 1)), .int (xs (i + 2)), .int (xs (i + 3))]))]) (if_pos hk) ?_
    refine gy_swap3 _ _ _ ?_
    refine gx_ws (w1 := mdW b ty B N E J ph V rd (fbW a ty (va_up N 3 (N 3 + 1)) r en re (va_up O 3 (va_up (O 3) (N 3) (some q))) z tx X Y fc sl pt tot hv (P ++ [(q, .inr (10, [.int (xs (i + 1)), .int (xs (i + 2)), .int (xs (i + 3))]))]))) rfl ?_
    refine gx_aload_n K d_Law_law_427 rfl rfl ?_
    refine gx_arg K S (i := i) (j := 1) (by omega) rfl rfl rfl d_Law_law_428 d_Law_law_429 d_Law_law_430 d_Law_law_431 d_Law_law_432 ?_
    refine gx_arg K S (i := i) (j := 2) (by omega) rfl rfl rfl d_Law_law_433 d_Law_law_434 d_Law_law_435 d_Law_law_436 d_Law_law_437 ?_
    refine gx_arg K S (i := i) (j := 3) (by omega) rfl rfl rfl d_Law_law_438 d_Law_law_439 d_Law_law_440 d_Law_law_441 d_Law_law_442 ?_
    refine gx_Vd K (z_Mod_unit I a3 (xs (i + 1)) (xs (i + 2)) (xs (i + 3))) Y_Mod_unit (ci := 12) rfl (q0 := 0) rfl k863 k864 k862 rfl ⟨by omega, by omega⟩ ⟨by omega, by omega⟩ (gle rfl) d_Law_law_443 ?_
    refine gx_ws (w1 := mdW b ty B (va_up N 3 (N 3 + 1)) (e_uni E (N 3) (xs (i + 1)) (xs (i + 2)) (xs (i + 3))) J ph V rd (fbW a ty (va_up N 3 (N 3 + 1)) r en re (va_up O 3 (va_up (O 3) (N 3) (some q))) z tx X Y fc sl pt tot hv (P ++ [(q, .inr (10, [.int (xs (i + 1)), .int (xs (i + 2)), .int (xs (i + 3))]))]))) (if_pos hk) ?_
    refine gx_icmp_eqT K d_Law_law_446 rfl (rfl) ?_
    refine gx_wide (k1 := k + 1) (n1 := n + 8) (by omega) (by omega) ?_
    exact nx _ _ _ _ _ _ _ _ _ _ _ _ _ _ _ _ _ _ _ _ _ (RL_uni h hk)
  · skip
    subst hv1
    subst hw1
    refine gx_st (s1 := [_]) rfl ?_
    refine gx_ws (w1 := fbW a ty N r en re O z tx X Y fc sl pt tot hv P ++ mdW b ty B N E J ph V rd []) (if_neg hk) ?_
    refine gy_swap _ _ ?_
    refine gx_ws (w1 := mdW b ty B N E J ph V rd (fbW a ty N r en re O z tx X Y fc sl pt tot hv P)) rfl ?_
    refine gx_aload_n K d_Law_law_427 rfl rfl ?_
    refine gx_arg K S (i := i) (j := 1) (by omega) rfl rfl rfl d_Law_law_428 d_Law_law_429 d_Law_law_430 d_Law_law_431 d_Law_law_432 ?_
    refine gx_arg K S (i := i) (j := 2) (by omega) rfl rfl rfl d_Law_law_433 d_Law_law_434 d_Law_law_435 d_Law_law_436 d_Law_law_437 ?_
    refine gx_arg K S (i := i) (j := 3) (by omega) rfl rfl rfl d_Law_law_438 d_Law_law_439 d_Law_law_440 d_Law_law_441 d_Law_law_442 ?_
    refine gx_Vd K (z_Mod_unit I a3 (xs (i + 1)) (xs (i + 2)) (xs (i + 3))) Y_Mod_unit (ci := 12) rfl (q0 := 0) rfl k863 k864 k862 rfl ⟨by omega, by omega⟩ ⟨by omega, by omega⟩ (gle rfl) d_Law_law_443 ?_
    refine gx_ws (w1 := mdW b ty B N E J ph V rd (fbW a ty N r en re O z tx X Y fc sl pt tot hv P)) (if_neg hk) ?_
    refine gx_icmp_eqT K d_Law_law_446 rfl (rfl) ?_
    refine gx_wide (k1 := k + 1) (n1 := n + 8) (by omega) (by omega) ?_
    exact nx _ _ _ _ _ _ _ _ _ _ _ _ _ _ _ _ _ _ _ _ _ (h)
set_option maxRecDepth 100000 in
set_option maxHeartbeats 1000000 in
theorem w_write (K : gK p s m args c c_Law_law 4 "FactBinderLaw" D ty tt A) (S : lwS bb ll xs s A) (hi : i + 6 ≤ ll) (hR : 9 ≤ R.frames ∧ 400 ≤ R.locals) (hC : k + 1 ≤ R.cells ∧ n + 8 ≤ R.slots) (nx : LC p l e R s m args below meth c D A Q ty a b (k + 1) (n + 8) (lwL bb a b i) 792) (h : RL B N E J ph V r en re O z tx X Y fc sl P) : gG p l e R s m args below meth c 4 D A Q k n (mdW b ty B N E J ph V rd (fbW a ty N r en re O z tx X Y fc sl pt tot hv P)) (lwL bb a b i) [] 451 := by
  obtain ⟨a1, a2, a3, a4, a5, a6, a7, a8⟩ := id h
  obtain ⟨-, -, -, -, -, I, -, -, -, hV⟩ := id a2
  have G := cI_ext (mdW b ty B N E J ph V rd []) a2
  obtain ⟨hR1, hR2⟩ := hR
  obtain ⟨hC1, hC2⟩ := hC
  refine gx_aload_n K d_Law_law_451 rfl rfl ?_
  refine gx_arg K S (i := i) (j := 1) (by omega) rfl rfl rfl d_Law_law_452 d_Law_law_453 d_Law_law_454 d_Law_law_455 d_Law_law_456 ?_
  refine gx_i2c K d_Law_law_457 ?_
  refine gx_ws (w1 := mdW b ty B N E J ph V rd [] ++ fbW a ty N r en re O z tx X Y fc sl pt tot hv P) rfl ?_
  refine gy_swap _ _ ?_
  refine gx_ws (w1 := fbW a ty N r en re O z tx X Y fc sl pt tot hv (P ++ mdW b ty B N E J ph V rd [])) rfl ?_
  have hM := z_FB_write (l := l) (D := D) (ty := ty) (tt := tt) (a := a) (N := N) (r := r) (en := en) (re := re) (O := O) (z := z) (tx := tx) (X := X) (Y := Y) (fc := fc) (sl := sl) (pt := pt) (tot := tot) (hv := hv) (rest := P ++ mdW b ty B N E J ph V rd []) a3 ((xs (i + 1)).toUInt32 % 65536).toInt32 (char2 (xs (i + 1)))
  refine gx_Vd K (hM) Y_FB_write (ci := 0) rfl (q0 := 0) rfl k387 k388 k386 rfl ⟨by omega, by omega⟩ ⟨by omega, by omega⟩ (gle rfl) d_Law_law_458 ?_
  by_cases hk : k_wri N ((xs (i + 1)).toUInt32 % 65536).toInt32 = true
  · skip
    refine gx_ws (w1 := fbW a ty (va_up N 4 (N 4 + 1)) r en re O z (upd tx (N 4) ((xs (i + 1)).toUInt32 % 65536).toInt32) X Y fc sl pt tot hv P ++ mdW b ty B N E J ph V rd []) (if_pos hk) ?_
    refine gy_swap _ _ ?_
    refine gx_ws (w1 := mdW b ty B N E J ph V rd (fbW a ty (va_up N 4 (N 4 + 1)) r en re O z (upd tx (N 4) ((xs (i + 1)).toUInt32 % 65536).toInt32) X Y fc sl pt tot hv P)) rfl ?_
    refine gx_aload_n K d_Law_law_461 rfl rfl ?_
    refine gx_arg K S (i := i) (j := 1) (by omega) rfl rfl rfl d_Law_law_462 d_Law_law_463 d_Law_law_464 d_Law_law_465 d_Law_law_466 ?_
    refine gx_i2c K d_Law_law_467 ?_
    refine gx_Vd K (z_Mod_write I a3 ((xs (i + 1)).toUInt32 % 65536).toInt32) Y_Mod_write (ci := 12) rfl (q0 := 0) rfl k903 k904 k902 rfl ⟨by omega, by omega⟩ ⟨by omega, by omega⟩ (gle rfl) d_Law_law_468 ?_
    refine gx_ws (w1 := mdW b ty B (va_up N 4 (N 4 + 1)) (e_wri E (N 4) ((xs (i + 1)).toUInt32 % 65536).toInt32) J ph V rd (fbW a ty (va_up N 4 (N 4 + 1)) r en re O z (upd tx (N 4) ((xs (i + 1)).toUInt32 % 65536).toInt32) X Y fc sl pt tot hv P)) (if_pos hk) ?_
    refine gx_icmp_eqT K d_Law_law_471 rfl (rfl) ?_
    refine gx_wide (k1 := k + 1) (n1 := n + 8) (by omega) (by omega) ?_
    exact nx _ _ _ _ _ _ _ _ _ _ _ _ _ _ _ _ _ _ _ _ _ (RL_write h _ (wri_lt hk))
  · skip
    refine gx_ws (w1 := fbW a ty N r en re O z tx X Y fc sl pt tot hv P ++ mdW b ty B N E J ph V rd []) (if_neg hk) ?_
    refine gy_swap _ _ ?_
    refine gx_ws (w1 := mdW b ty B N E J ph V rd (fbW a ty N r en re O z tx X Y fc sl pt tot hv P)) rfl ?_
    refine gx_aload_n K d_Law_law_461 rfl rfl ?_
    refine gx_arg K S (i := i) (j := 1) (by omega) rfl rfl rfl d_Law_law_462 d_Law_law_463 d_Law_law_464 d_Law_law_465 d_Law_law_466 ?_
    refine gx_i2c K d_Law_law_467 ?_
    refine gx_Vd K (z_Mod_write I a3 ((xs (i + 1)).toUInt32 % 65536).toInt32) Y_Mod_write (ci := 12) rfl (q0 := 0) rfl k903 k904 k902 rfl ⟨by omega, by omega⟩ ⟨by omega, by omega⟩ (gle rfl) d_Law_law_468 ?_
    refine gx_ws (w1 := mdW b ty B N E J ph V rd (fbW a ty N r en re O z tx X Y fc sl pt tot hv P)) (if_neg hk) ?_
    refine gx_icmp_eqT K d_Law_law_471 rfl (rfl) ?_
    refine gx_wide (k1 := k + 1) (n1 := n + 8) (by omega) (by omega) ?_
    exact nx _ _ _ _ _ _ _ _ _ _ _ _ _ _ _ _ _ _ _ _ _ (h)
set_option maxRecDepth 100000 in
set_option maxHeartbeats 1000000 in
theorem w_fact (K : gK p s m args c c_Law_law 4 "FactBinderLaw" D ty tt A) (S : lwS bb ll xs s A) (hi : i + 6 ≤ ll) (hR : 9 ≤ R.frames ∧ 400 ≤ R.locals) (hC : k + 1 ≤ R.cells ∧ n + 8 ≤ R.slots) (nx : LC p l e R s m args below meth c D A Q ty a b (k + 1) (n + 8) (lwL bb a b i) 792) (h : RL B N E J ph V r en re O z tx X Y fc sl P) : gG p l e R s m args below meth c 4 D A Q k n (mdW b ty B N E J ph V rd (fbW a ty N r en re O z tx X Y fc sl pt tot hv P)) (lwL bb a b i) [] 476 := by
  obtain ⟨a1, a2, a3, a4, a5, a6, a7, a8⟩ := id h
  obtain ⟨-, -, -, -, -, I, -, -, -, hV⟩ := id a2
  have G := cI_ext (mdW b ty B N E J ph V rd []) a2
  obtain ⟨hR1, hR2⟩ := hR
  obtain ⟨hC1, hC2⟩ := hC
  subst a6
  refine gx_aload_n K d_Law_law_476 rfl rfl ?_
  refine gx_arg K S (i := i) (j := 1) (by omega) rfl rfl rfl d_Law_law_477 d_Law_law_478 d_Law_law_479 d_Law_law_480 d_Law_law_481 ?_
  refine gx_arg K S (i := i) (j := 2) (by omega) rfl rfl rfl d_Law_law_482 d_Law_law_483 d_Law_law_484 d_Law_law_485 d_Law_law_486 ?_
  refine gx_arg K S (i := i) (j := 3) (by omega) rfl rfl rfl d_Law_law_487 d_Law_law_488 d_Law_law_489 d_Law_law_490 d_Law_law_491 ?_
  refine gx_arg K S (i := i) (j := 4) (by omega) rfl rfl rfl d_Law_law_492 d_Law_law_493 d_Law_law_494 d_Law_law_495 d_Law_law_496 ?_
  refine gx_arg K S (i := i) (j := 5) (by omega) rfl rfl rfl d_Law_law_497 d_Law_law_498 d_Law_law_499 d_Law_law_500 d_Law_law_501 ?_
  refine gx_ws (w1 := mdW b ty B N E J ph V rd [] ++ fbW a ty N r en re O z (E 18) X Y fc sl pt tot hv P) rfl ?_
  refine gy_swap _ _ ?_
  refine gx_ws (w1 := fbW a ty N r en re O z (E 18) X Y fc sl pt tot hv (P ++ mdW b ty B N E J ph V rd [])) rfl ?_
  have hM := z_FB_fact (l := l) (D := D) (ty := ty) (tt := tt) (a := a) (N := N) (r := r) (en := en) (re := re) (O := O) (z := z) (tx := E 18) (X := X) (Y := Y) (fc := fc) (sl := sl) (pt := pt) (tot := tot) (hv := hv) (rest := P ++ mdW b ty B N E J ph V rd []) a3 G (xs (i + 1)) (xs (i + 2)) (xs (i + 3)) (xs (i + 4)) (xs (i + 5)) (fun q => kv_bound a3.2.2.2.2.1 q)
  rw [fac_eq a3] at hM
  refine gx_V K (hM) Y_FB_fact (ci := 0) rfl (q0 := 0) rfl k398 k399 k397 rfl ⟨by omega, by omega⟩ ⟨by omega, by omega⟩ (gle rfl) d_Law_law_502 (fun v w hp => ?_)
  obtain ⟨q, xq, ul, hv1, hw1, hp⟩ := hp
  by_cases hk : k_fac N E (xs (i + 1)) (xs (i + 2)) (xs (i + 3)) (xs (i + 4)) (xs (i + 5)) = true
  · skip
    subst hv1
    rw [amt_eq a3 hk] at hw1
    subst hw1
    refine gx_st (s1 := [_]) rfl ?_
    refine gx_ws (w1 := (fbW a ty (va_up (va_up N 4 0) 5 (N 5 + 1)) r en re (va_up O 4 (va_up (O 4) (N 5) (some q))) z (E 18) X Y fc true pt tot hv P ++ mdW b ty B N E J ph V rd []) ++ [(q, .inr (11, [.int (xs (i + 1)), .ref xq, ul, .int (xs (i + 4)), .int (xs (i + 5)), .long (e_amt N E (xs (i + 1))), .int (m_places (xs (i + 4)) (xs (i + 5)) (e_amt N E (xs (i + 1)))), .long (r_m (e_amt N E (xs (i + 1))) (m_ten (6 - m_places (xs (i + 4)) (xs (i + 5)) (e_amt N E (xs (i + 1))))))]))]) (if_pos hk) ?_
    refine gy_swap3 _ _ _ ?_
    refine gx_ws (w1 := mdW b ty B N E J ph V rd (fbW a ty (va_up (va_up N 4 0) 5 (N 5 + 1)) r en re (va_up O 4 (va_up (O 4) (N 5) (some q))) z (E 18) X Y fc true pt tot hv (P ++ [(q, .inr (11, [.int (xs (i + 1)), .ref xq, ul, .int (xs (i + 4)), .int (xs (i + 5)), .long (e_amt N E (xs (i + 1))), .int (m_places (xs (i + 4)) (xs (i + 5)) (e_amt N E (xs (i + 1)))), .long (r_m (e_amt N E (xs (i + 1))) (m_ten (6 - m_places (xs (i + 4)) (xs (i + 5)) (e_amt N E (xs (i + 1))))))]))]))) rfl ?_
    refine gx_aload_n K d_Law_law_505 rfl rfl ?_
    refine gx_arg K S (i := i) (j := 1) (by omega) rfl rfl rfl d_Law_law_506 d_Law_law_507 d_Law_law_508 d_Law_law_509 d_Law_law_510 ?_
    refine gx_arg K S (i := i) (j := 2) (by omega) rfl rfl rfl d_Law_law_511 d_Law_law_512 d_Law_law_513 d_Law_law_514 d_Law_law_515 ?_
    refine gx_arg K S (i := i) (j := 3) (by omega) rfl rfl rfl d_Law_law_516 d_Law_law_517 d_Law_law_518 d_Law_law_519 d_Law_law_520 ?_
    refine gx_arg K S (i := i) (j := 4) (by omega) rfl rfl rfl d_Law_law_521 d_Law_law_522 d_Law_law_523 d_Law_law_524 d_Law_law_525 ?_
    refine gx_arg K S (i := i) (j := 5) (by omega) rfl rfl rfl d_Law_law_526 d_Law_law_527 d_Law_law_528 d_Law_law_529 d_Law_law_530 ?_
    refine gx_V K (z_Mod_fact I a3 (xs (i + 1)) (xs (i + 2)) (xs (i + 3)) (xs (i + 4)) (xs (i + 5))) Y_Mod_fact (ci := 12) rfl (q0 := 0) rfl k907 k908 k906 rfl ⟨by omega, by omega⟩ ⟨by omega, by omega⟩ (gle rfl) d_Law_law_531 (fun v w hp2 => ?_)
    obtain ⟨rd1, hv2, hw2⟩ := hp2
    subst hv2
    subst hw2
    refine gx_st (s1 := [_, _]) rfl ?_
    refine gx_ws (w1 := mdW b ty B (va_up (va_up N 4 0) 5 (N 5 + 1)) (e_fac E (N 5) (xs (i + 1)) (xs (i + 2)) (xs (i + 3)) (xs (i + 4)) (xs (i + 5))) J ph (vp_updL V (N 5) (e_amt N E (xs (i + 1)))) rd1 (fbW a ty (va_up (va_up N 4 0) 5 (N 5 + 1)) r en re (va_up O 4 (va_up (O 4) (N 5) (some q))) z (E 18) X Y fc true pt tot hv (P ++ [(q, .inr (11, [.int (xs (i + 1)), .ref xq, ul, .int (xs (i + 4)), .int (xs (i + 5)), .long (e_amt N E (xs (i + 1))), .int (m_places (xs (i + 4)) (xs (i + 5)) (e_amt N E (xs (i + 1)))), .long (r_m (e_amt N E (xs (i + 1))) (m_ten (6 - m_places (xs (i + 4)) (xs (i + 5)) (e_amt N E (xs (i + 1))))))]))]))) (if_pos hk) ?_
    refine gx_icmp_eqT K d_Law_law_534 rfl (rfl) ?_
    refine gx_wide (k1 := k + 1) (n1 := n + 8) (by omega) (by omega) ?_
    exact nx _ _ _ _ _ _ _ _ _ _ _ _ _ _ _ _ _ _ _ _ _ (RL_fac h hk (hp hk).1 (hp hk).2)
  · skip
    subst hv1
    subst hw1
    refine gx_st (s1 := [_]) rfl ?_
    refine gx_ws (w1 := fbW a ty N r en re O z (E 18) X Y fc sl pt tot hv P ++ mdW b ty B N E J ph V rd []) (if_neg hk) ?_
    refine gy_swap _ _ ?_
    refine gx_ws (w1 := mdW b ty B N E J ph V rd (fbW a ty N r en re O z (E 18) X Y fc sl pt tot hv P)) rfl ?_
    refine gx_aload_n K d_Law_law_505 rfl rfl ?_
    refine gx_arg K S (i := i) (j := 1) (by omega) rfl rfl rfl d_Law_law_506 d_Law_law_507 d_Law_law_508 d_Law_law_509 d_Law_law_510 ?_
    refine gx_arg K S (i := i) (j := 2) (by omega) rfl rfl rfl d_Law_law_511 d_Law_law_512 d_Law_law_513 d_Law_law_514 d_Law_law_515 ?_
    refine gx_arg K S (i := i) (j := 3) (by omega) rfl rfl rfl d_Law_law_516 d_Law_law_517 d_Law_law_518 d_Law_law_519 d_Law_law_520 ?_
    refine gx_arg K S (i := i) (j := 4) (by omega) rfl rfl rfl d_Law_law_521 d_Law_law_522 d_Law_law_523 d_Law_law_524 d_Law_law_525 ?_
    refine gx_arg K S (i := i) (j := 5) (by omega) rfl rfl rfl d_Law_law_526 d_Law_law_527 d_Law_law_528 d_Law_law_529 d_Law_law_530 ?_
    refine gx_V K (z_Mod_fact I a3 (xs (i + 1)) (xs (i + 2)) (xs (i + 3)) (xs (i + 4)) (xs (i + 5))) Y_Mod_fact (ci := 12) rfl (q0 := 0) rfl k907 k908 k906 rfl ⟨by omega, by omega⟩ ⟨by omega, by omega⟩ (gle rfl) d_Law_law_531 (fun v w hp2 => ?_)
    obtain ⟨rd1, hv2, hw2⟩ := hp2
    subst hv2
    subst hw2
    refine gx_st (s1 := [_, _]) rfl ?_
    refine gx_ws (w1 := mdW b ty B N E J ph V rd1 (fbW a ty N r en re O z (E 18) X Y fc sl pt tot hv P)) (if_neg hk) ?_
    refine gx_icmp_eqT K d_Law_law_534 rfl (rfl) ?_
    refine gx_wide (k1 := k + 1) (n1 := n + 8) (by omega) (by omega) ?_
    exact nx _ _ _ _ _ _ _ _ _ _ _ _ _ _ _ _ _ _ _ _ _ (h)
end LA
