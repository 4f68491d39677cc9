/-! the law's calls: questions -/
section LQ
variable {p : Program} {l : Launch} {e : Env} {R : Room} {s : State} {m : MethodId} {args : Array Value} {below : List Frame} {meth : Method} {c : Code} {Q : State → Prop} {k n : Nat}
variable {D : va_G} {ty : Nat → ClassId} {tt : Nat} {A : Nat → Prop} {a b : Nat → Nat} {bb ll i : Nat} {xs : Nat → Int32}
variable {B : Nat → Nat → Bool} {N : Nat → Nat} {E : Nat → Nat → Int32} {J : Nat → Int32} {ph : Bool} {V : Nat → Int64} {rd : Int64} {r : Nat → Int32} {en re : Int32} {O : Nat → Nat → Option Nat} {z : Nat} {tx : Nat → Int32} {X : Nat → Nat → Bool} {Y : Nat → Nat → Int32} {fc : Nat} {sl : Bool} {pt : Int32} {tot : Int64} {hv : Bool} {P : va_W}
set_option maxRecDepth 100000 in
set_option maxHeartbeats 1000000 in
theorem w_discovered (K : gK p s m args c c_Law_law 4 "FactBinderLaw" D ty tt A) (S : lwS bb ll xs s A) (hi : i + 6 ≤ ll) (hR : 9 ≤ R.frames ∧ 400 ≤ R.locals) (hC : k + 1 ≤ R.cells ∧ n + 8 ≤ R.slots) (nx : LC p l e R s m args below meth c D A Q ty a b (k + 1) (n + 8) (lwL bb a b i) 792) (h : RL B N E J ph V r en re O z tx X Y fc sl P) : gG p l e R s m args below meth c 4 D A Q k n (mdW b ty B N E J ph V rd (fbW a ty N r en re O z tx X Y fc sl pt tot hv P)) (lwL bb a b i) [] 539 := by
  obtain ⟨a1, a2, a3, a4, a5, a6, a7, a8⟩ := id h
  obtain ⟨-, -, -, -, -, I, -, -, -, hV⟩ := id a2
  have G := cI_ext (mdW b ty B N E J ph V rd []) a2
  obtain ⟨hR1, hR2⟩ := hR
  obtain ⟨hC1, hC2⟩ := hC
  refine gx_aload_n K d_Law_law_539 rfl rfl ?_
  refine gx_arg K S (i := i) (j := 1) (by omega) rfl rfl rfl d_Law_law_540 d_Law_law_541 d_Law_law_542 d_Law_law_543 d_Law_law_544 ?_
  refine gx_ws (w1 := mdW b ty B N E J ph V rd [] ++ fbW a ty N r en re O z tx X Y fc sl pt tot hv P) rfl ?_
  refine gy_swap _ _ ?_
  refine gx_ws (w1 := fbW a ty N r en re O z tx X Y fc sl pt tot hv (P ++ mdW b ty B N E J ph V rd [])) rfl ?_
  have hM := z_FB_discovered (l := l) (D := D) (ty := ty) (tt := tt) (a := a) (N := N) (r := r) (en := en) (re := re) (O := O) (z := z) (tx := tx) (X := X) (Y := Y) (fc := fc) (sl := sl) (pt := pt) (tot := tot) (hv := hv) (rest := P ++ mdW b ty B N E J ph V rd []) a3 (xs (i + 1))
  rw [disc_eq a1] at hM
  refine gx_Vd K (hM) Y_FB_discovered (ci := 0) rfl (q0 := 0) rfl k499 k500 k498 rfl ⟨by omega, by omega⟩ ⟨by omega, by omega⟩ (gle rfl) d_Law_law_545 ?_
  refine gx_ws (w1 := fbW a ty N r en re O z tx X Y fc sl pt tot hv P ++ mdW b ty B N E J ph V rd []) rfl ?_
  refine gy_swap _ _ ?_
  refine gx_ws (w1 := mdW b ty B N E J ph V rd (fbW a ty N r en re O z tx X Y fc sl pt tot hv P)) rfl ?_
  refine gx_aload_n K d_Law_law_548 rfl rfl ?_
  refine gx_arg K S (i := i) (j := 1) (by omega) rfl rfl rfl d_Law_law_549 d_Law_law_550 d_Law_law_551 d_Law_law_552 d_Law_law_553 ?_
  refine gx_Vd K (z_Mod_discovered I a3 (xs (i + 1))) Y_Mod_discovered (ci := 12) rfl (q0 := 0) rfl k839 k840 k838 rfl ⟨by omega, by omega⟩ ⟨by omega, by omega⟩ (gle rfl) d_Law_law_554 ?_
  refine gx_icmp_eqT K d_Law_law_557 rfl (rfl) ?_
  refine gx_wide (k1 := k + 1) (n1 := n + 8) (by omega) (by omega) ?_
  exact nx _ _ _ _ _ _ _ _ _ _ _ _ _ _ _ _ _ _ _ _ _ (RL_B (h) rfl rfl rfl rfl rfl)
set_option maxRecDepth 100000 in
set_option maxHeartbeats 1000000 in
theorem w_left (K : gK p s m args c c_Law_law 4 "FactBinderLaw" D ty tt A) (S : lwS bb ll xs s A) (hi : i + 6 ≤ ll) (hR : 9 ≤ R.frames ∧ 400 ≤ R.locals) (hC : k + 1 ≤ R.cells ∧ n + 8 ≤ R.slots) (nx : LC p l e R s m args below meth c D A Q ty a b (k + 1) (n + 8) (lwL bb a b i) 792) (h : RL B N E J ph V r en re O z tx X Y fc sl P) : gG p l e R s m args below meth c 4 D A Q k n (mdW b ty B N E J ph V rd (fbW a ty N r en re O z tx X Y fc sl pt tot hv P)) (lwL bb a b i) [] 562 := by
  obtain ⟨a1, a2, a3, a4, a5, a6, a7, a8⟩ := id h
  obtain ⟨-, -, -, -, -, I, -, -, -, hV⟩ := id a2
  have G := cI_ext (mdW b ty B N E J ph V rd []) a2
  obtain ⟨hR1, hR2⟩ := hR
  obtain ⟨hC1, hC2⟩ := hC
  refine gx_aload_n K d_Law_law_562 rfl rfl ?_
  refine gx_arg K S (i := i) (j := 1) (by omega) rfl rfl rfl d_Law_law_563 d_Law_law_564 d_Law_law_565 d_Law_law_566 d_Law_law_567 ?_
  refine gx_ws (w1 := mdW b ty B N E J ph V rd [] ++ fbW a ty N r en re O z tx X Y fc sl pt tot hv P) rfl ?_
  refine gy_swap _ _ ?_
  refine gx_ws (w1 := fbW a ty N r en re O z tx X Y fc sl pt tot hv (P ++ mdW b ty B N E J ph V rd [])) rfl ?_
  have hM := z_FB_left (l := l) (D := D) (ty := ty) (tt := tt) (a := a) (N := N) (r := r) (en := en) (re := re) (O := O) (z := z) (tx := tx) (X := X) (Y := Y) (fc := fc) (sl := sl) (pt := pt) (tot := tot) (hv := hv) (rest := P ++ mdW b ty B N E J ph V rd []) a3 G a4 a8 (xs (i + 1))
  refine gx_V K (hM) Y_FB_left (ci := 0) rfl (q0 := 0) rfl k504 k505 k503 rfl ⟨by omega, by omega⟩ ⟨by omega, by omega⟩ (gle rfl) d_Law_law_568 (fun v w hp => ?_)
  obtain ⟨rfl, X1, Y1, fc1, sl1, pt1, tot1, hv1, rfl, hf⟩ := hp
  refine gx_ws (w1 := fbW a ty N r en re O z tx X1 Y1 fc1 sl1 pt1 tot1 hv1 P ++ mdW b ty B N E J ph V rd []) rfl ?_
  refine gy_swap _ _ ?_
  refine gx_ws (w1 := mdW b ty B N E J ph V rd (fbW a ty N r en re O z tx X1 Y1 fc1 sl1 pt1 tot1 hv1 P)) rfl ?_
  refine gx_st (s1 := [_]) rfl ?_
  refine gx_aload_n K d_Law_law_571 rfl rfl ?_
  refine gx_arg K S (i := i) (j := 1) (by omega) rfl rfl rfl d_Law_law_572 d_Law_law_573 d_Law_law_574 d_Law_law_575 d_Law_law_576 ?_
  refine gx_Vd K (z_Mod_left I a3 (xs (i + 1))) Y_Mod_left (ci := 12) rfl (q0 := 0) rfl k883 k884 k882 rfl ⟨by omega, by omega⟩ ⟨by omega, by omega⟩ (gle rfl) d_Law_law_577 ?_
  refine gx_icmp_eqT K d_Law_law_580 rfl (rfl) ?_
  refine gx_wide (k1 := k + 1) (n1 := n + 8) (by omega) (by omega) ?_
  exact nx _ _ _ _ _ _ _ _ _ _ _ _ _ _ _ _ _ _ _ _ _ (RL_B (RL_F h hf) rfl rfl rfl rfl rfl)
set_option maxRecDepth 100000 in
set_option maxHeartbeats 1000000 in
theorem w_sameContext (K : gK p s m args c c_Law_law 4 "FactBinderLaw" D ty tt A) (S : lwS bb ll xs s A) (hi : i + 6 ≤ ll) (hR : 9 ≤ R.frames ∧ 400 ≤ R.locals) (hC : k + 1 ≤ R.cells ∧ n + 8 ≤ R.slots) (nx : LC p l e R s m args below meth c D A Q ty a b (k + 1) (n + 8) (lwL bb a b i) 792) (h : RL B N E J ph V r en re O z tx X Y fc sl P) : gG p l e R s m args below meth c 4 D A Q k n (mdW b ty B N E J ph V rd (fbW a ty N r en re O z tx X Y fc sl pt tot hv P)) (lwL bb a b i) [] 585 := by
  obtain ⟨a1, a2, a3, a4, a5, a6, a7, a8⟩ := id h
  obtain ⟨-, -, -, -, -, I, -, -, -, hV⟩ := id a2
  have G := cI_ext (mdW b ty B N E J ph V rd []) a2
  obtain ⟨hR1, hR2⟩ := hR
  obtain ⟨hC1, hC2⟩ := hC
  refine gx_aload_n K d_Law_law_585 rfl rfl ?_
  refine gx_arg K S (i := i) (j := 1) (by omega) rfl rfl rfl d_Law_law_586 d_Law_law_587 d_Law_law_588 d_Law_law_589 d_Law_law_590 ?_
  refine gx_arg K S (i := i) (j := 2) (by omega) rfl rfl rfl d_Law_law_591 d_Law_law_592 d_Law_law_593 d_Law_law_594 d_Law_law_595 ?_
  refine gx_ws (w1 := mdW b ty B N E J ph V rd [] ++ fbW a ty N r en re O z tx X Y fc sl pt tot hv P) rfl ?_
  refine gy_swap _ _ ?_
  refine gx_ws (w1 := fbW a ty N r en re O z tx X Y fc sl pt tot hv (P ++ mdW b ty B N E J ph V rd [])) rfl ?_
  have hM := z_FB_sameContext (l := l) (D := D) (ty := ty) (tt := tt) (a := a) (N := N) (r := r) (en := en) (re := re) (O := O) (z := z) (tx := tx) (X := X) (Y := Y) (fc := fc) (sl := sl) (pt := pt) (tot := tot) (hv := hv) (rest := P ++ mdW b ty B N E J ph V rd []) a3 (xs (i + 1)) (xs (i + 2)) G
  refine gx_Vd K (hM) Y_FB_sameContext (ci := 0) rfl (q0 := 0) rfl k650 k651 k649 rfl ⟨by omega, by omega⟩ ⟨by omega, by omega⟩ (gle rfl) d_Law_law_596 ?_
  refine gx_ws (w1 := fbW a ty N r en re O z tx X Y fc sl pt tot hv P ++ mdW b ty B N E J ph V rd []) rfl ?_
  refine gy_swap _ _ ?_
  refine gx_ws (w1 := mdW b ty B N E J ph V rd (fbW a ty N r en re O z tx X Y fc sl pt tot hv P)) rfl ?_
  refine gx_aload_n K d_Law_law_599 rfl rfl ?_
  refine gx_arg K S (i := i) (j := 1) (by omega) rfl rfl rfl d_Law_law_600 d_Law_law_601 d_Law_law_602 d_Law_law_603 d_Law_law_604 ?_
  refine gx_arg K S (i := i) (j := 2) (by omega) rfl rfl rfl d_Law_law_605 d_Law_law_606 d_Law_law_607 d_Law_law_608 d_Law_law_609 ?_
  refine gx_Vd K (z_Mod_sameContext I a3 (xs (i + 1)) (xs (i + 2))) Y_Mod_sameContext (ci := 12) rfl (q0 := 0) rfl k855 k856 k854 rfl ⟨by omega, by omega⟩ ⟨by omega, by omega⟩ (gle rfl) d_Law_law_610 ?_
  refine gx_icmp_eqT K d_Law_law_613 rfl (rfl) ?_
  refine gx_wide (k1 := k + 1) (n1 := n + 8) (by omega) (by omega) ?_
  exact nx _ _ _ _ _ _ _ _ _ _ _ _ _ _ _ _ _ _ _ _ _ (h)
set_option maxRecDepth 100000 in
set_option maxHeartbeats 1000000 in
theorem w_sameUnit (K : gK p s m args c c_Law_law 4 "FactBinderLaw" D ty tt A) (S : lwS bb ll xs s A) (hi : i + 6 ≤ ll) (hR : 9 ≤ R.frames ∧ 400 ≤ R.locals) (hC : k + 1 ≤ R.cells ∧ n + 8 ≤ R.slots) (nx : LC p l e R s m args below meth c D A Q ty a b (k + 1) (n + 8) (lwL bb a b i) 792) (h : RL B N E J ph V r en re O z tx X Y fc sl P) : gG p l e R s m args below meth c 4 D A Q k n (mdW b ty B N E J ph V rd (fbW a ty N r en re O z tx X Y fc sl pt tot hv P)) (lwL bb a b i) [] 618 := by
  obtain ⟨a1, a2, a3, a4, a5, a6, a7, a8⟩ := id h
  obtain ⟨-, -, -, -, -, I, -, -, -, hV⟩ := id a2
  have G := cI_ext (mdW b ty B N E J ph V rd []) a2
  obtain ⟨hR1, hR2⟩ := hR
  obtain ⟨hC1, hC2⟩ := hC
  refine gx_aload_n K d_Law_law_618 rfl rfl ?_
  refine gx_arg K S (i := i) (j := 1) (by omega) rfl rfl rfl d_Law_law_619 d_Law_law_620 d_Law_law_621 d_Law_law_622 d_Law_law_623 ?_
  refine gx_arg K S (i := i) (j := 2) (by omega) rfl rfl rfl d_Law_law_624 d_Law_law_625 d_Law_law_626 d_Law_law_627 d_Law_law_628 ?_
  refine gx_ws (w1 := mdW b ty B N E J ph V rd [] ++ fbW a ty N r en re O z tx X Y fc sl pt tot hv P) rfl ?_
  refine gy_swap _ _ ?_
  refine gx_ws (w1 := fbW a ty N r en re O z tx X Y fc sl pt tot hv (P ++ mdW b ty B N E J ph V rd [])) rfl ?_
  have hM := z_FB_sameUnit (l := l) (D := D) (ty := ty) (tt := tt) (a := a) (N := N) (r := r) (en := en) (re := re) (O := O) (z := z) (tx := tx) (X := X) (Y := Y) (fc := fc) (sl := sl) (pt := pt) (tot := tot) (hv := hv) (rest := P ++ mdW b ty B N E J ph V rd []) a3 (xs (i + 1)) (xs (i + 2)) G
  refine gx_Vd K (hM) Y_FB_sameUnit (ci := 0) rfl (q0 := 0) rfl k656 k657 k655 rfl ⟨by omega, by omega⟩ ⟨by omega, by omega⟩ (gle rfl) d_Law_law_629 ?_
  refine gx_ws (w1 := fbW a ty N r en re O z tx X Y fc sl pt tot hv P ++ mdW b ty B N E J ph V rd []) rfl ?_
  refine gy_swap _ _ ?_
  refine gx_ws (w1 := mdW b ty B N E J ph V rd (fbW a ty N r en re O z tx X Y fc sl pt tot hv P)) rfl ?_
  refine gx_aload_n K d_Law_law_632 rfl rfl ?_
  refine gx_arg K S (i := i) (j := 1) (by omega) rfl rfl rfl d_Law_law_633 d_Law_law_634 d_Law_law_635 d_Law_law_636 d_Law_law_637 ?_
  refine gx_arg K S (i := i) (j := 2) (by omega) rfl rfl rfl d_Law_law_638 d_Law_law_639 d_Law_law_640 d_Law_law_641 d_Law_law_642 ?_
  refine gx_Vd K (z_Mod_sameUnit I a3 (xs (i + 1)) (xs (i + 2))) Y_Mod_sameUnit (ci := 12) rfl (q0 := 0) rfl k867 k868 k866 rfl ⟨by omega, by omega⟩ ⟨by omega, by omega⟩ (gle rfl) d_Law_law_643 ?_
  refine gx_icmp_eqT K d_Law_law_646 rfl (rfl) ?_
  refine gx_wide (k1 := k + 1) (n1 := n + 8) (by omega) (by omega) ?_
  exact nx _ _ _ _ _ _ _ _ _ _ _ _ _ _ _ _ _ _ _ _ _ (h)
set_option maxRecDepth 100000 in
set_option maxHeartbeats 1000000 in
theorem w_value (K : gK p s m args c c_Law_law 4 "FactBinderLaw" D ty tt A) (S : lwS bb ll xs s A) (hi : i + 6 ≤ ll) (hR : 9 ≤ R.frames ∧ 400 ≤ R.locals) (hC : k + 1 ≤ R.cells ∧ n + 8 ≤ R.slots) (nx : LC p l e R s m args below meth c D A Q ty a b (k + 1) (n + 8) (lwL bb a b i) 792) (h : RL B N E J ph V r en re O z tx X Y fc sl P) : gG p l e R s m args below meth c 4 D A Q k n (mdW b ty B N E J ph V rd (fbW a ty N r en re O z tx X Y fc sl pt tot hv P)) (lwL bb a b i) [] 651 := by
  obtain ⟨a1, a2, a3, a4, a5, a6, a7, a8⟩ := id h
  obtain ⟨-, -, -, -, -, I, -, -, -, hV⟩ := id a2
  have G := cI_ext (mdW b ty B N E J ph V rd []) a2
  obtain ⟨hR1, hR2⟩ := hR
  obtain ⟨hC1, hC2⟩ := hC
  refine gx_aload_n K d_Law_law_651 rfl rfl ?_
  refine gx_arg K S (i := i) (j := 1) (by omega) rfl rfl rfl d_Law_law_652 d_Law_law_653 d_Law_law_654 d_Law_law_655 d_Law_law_656 ?_
  refine gx_ws (w1 := mdW b ty B N E J ph V rd [] ++ fbW a ty N r en re O z tx X Y fc sl pt tot hv P) rfl ?_
  refine gy_swap _ _ ?_
  refine gx_ws (w1 := fbW a ty N r en re O z tx X Y fc sl pt tot hv (P ++ mdW b ty B N E J ph V rd [])) rfl ?_
  have hM := z_FB_value (l := l) (D := D) (ty := ty) (tt := tt) (a := a) (N := N) (r := r) (en := en) (re := re) (O := O) (z := z) (tx := tx) (X := X) (Y := Y) (fc := fc) (sl := sl) (pt := pt) (tot := tot) (hv := hv) (rest := P ++ mdW b ty B N E J ph V rd []) a3 (xs (i + 1)) G
  refine gx_Vd K (hM) Y_FB_value (ci := 0) rfl (q0 := 0) rfl k662 k663 k661 rfl ⟨by omega, by omega⟩ ⟨by omega, by omega⟩ (gle rfl) d_Law_law_657 ?_
  refine gx_ws (w1 := fbW a ty N r en re O z tx X Y fc sl pt tot hv P ++ mdW b ty B N E J ph V rd []) rfl ?_
  refine gy_swap _ _ ?_
  refine gx_ws (w1 := mdW b ty B N E J ph V rd (fbW a ty N r en re O z tx X Y fc sl pt tot hv P)) rfl ?_
  refine gx_aload_n K d_Law_law_660 rfl rfl ?_
  refine gx_arg K S (i := i) (j := 1) (by omega) rfl rfl rfl d_Law_law_661 d_Law_law_662 d_Law_law_663 d_Law_law_664 d_Law_law_665 ?_
  refine gx_Vd K (z_Mod_value I a3 (xs (i + 1))) Y_Mod_value (ci := 12) rfl (q0 := 0) rfl k917 k918 k916 rfl ⟨by omega, by omega⟩ ⟨by omega, by omega⟩ (gle rfl) d_Law_law_666 ?_
  refine gx_lcmp K d_Law_law_669 ?_
  refine gx_ifl_eq K d_Law_law_670 rfl (fun _ => ?_) (fun q => absurd (rfl) q)
  refine gx_wide (k1 := k + 1) (n1 := n + 8) (by omega) (by omega) ?_
  exact nx _ _ _ _ _ _ _ _ _ _ _ _ _ _ _ _ _ _ _ _ _ (h)
set_option maxRecDepth 100000 in
set_option maxHeartbeats 1000000 in
theorem w_places (K : gK p s m args c c_Law_law 4 "FactBinderLaw" D ty tt A) (S : lwS bb ll xs s A) (hi : i + 6 ≤ ll) (hR : 9 ≤ R.frames ∧ 400 ≤ R.locals) (hC : k + 1 ≤ R.cells ∧ n + 8 ≤ R.slots) (nx : LC p l e R s m args below meth c D A Q ty a b (k + 1) (n + 8) (lwL bb a b i) 792) (h : RL B N E J ph V r en re O z tx X Y fc sl P) : gG p l e R s m args below meth c 4 D A Q k n (mdW b ty B N E J ph V rd (fbW a ty N r en re O z tx X Y fc sl pt tot hv P)) (lwL bb a b i) [] 675 := by
  obtain ⟨a1, a2, a3, a4, a5, a6, a7, a8⟩ := id h
  obtain ⟨-, -, -, -, -, I, -, -, -, hV⟩ := id a2
  have G := cI_ext (mdW b ty B N E J ph V rd []) a2
  obtain ⟨hR1, hR2⟩ := hR
  obtain ⟨hC1, hC2⟩ := hC
  refine gx_aload_n K d_Law_law_675 rfl rfl ?_
  refine gx_arg K S (i := i) (j := 1) (by omega) rfl rfl rfl d_Law_law_676 d_Law_law_677 d_Law_law_678 d_Law_law_679 d_Law_law_680 ?_
  refine gx_ws (w1 := mdW b ty B N E J ph V rd [] ++ fbW a ty N r en re O z tx X Y fc sl pt tot hv P) rfl ?_
  refine gy_swap _ _ ?_
  refine gx_ws (w1 := fbW a ty N r en re O z tx X Y fc sl pt tot hv (P ++ mdW b ty B N E J ph V rd [])) rfl ?_
  have hM := z_FB_places (l := l) (D := D) (ty := ty) (tt := tt) (a := a) (N := N) (r := r) (en := en) (re := re) (O := O) (z := z) (tx := tx) (X := X) (Y := Y) (fc := fc) (sl := sl) (pt := pt) (tot := tot) (hv := hv) (rest := P ++ mdW b ty B N E J ph V rd []) a3 (xs (i + 1)) G
  refine gx_Vd K (hM) Y_FB_places (ci := 0) rfl (q0 := 0) rfl k670 k671 k669 rfl ⟨by omega, by omega⟩ ⟨by omega, by omega⟩ (gle rfl) d_Law_law_681 ?_
  refine gx_ws (w1 := fbW a ty N r en re O z tx X Y fc sl pt tot hv P ++ mdW b ty B N E J ph V rd []) rfl ?_
  refine gy_swap _ _ ?_
  refine gx_ws (w1 := mdW b ty B N E J ph V rd (fbW a ty N r en re O z tx X Y fc sl pt tot hv P)) rfl ?_
  refine gx_aload_n K d_Law_law_684 rfl rfl ?_
  refine gx_arg K S (i := i) (j := 1) (by omega) rfl rfl rfl d_Law_law_685 d_Law_law_686 d_Law_law_687 d_Law_law_688 d_Law_law_689 ?_
  refine gx_Vd K (z_Mod_places I a3 (xs (i + 1)) hV) Y_Mod_places (ci := 12) rfl (q0 := 0) rfl k925 k926 k924 rfl ⟨by omega, by omega⟩ ⟨by omega, by omega⟩ (gle rfl) d_Law_law_690 ?_
  refine gx_icmp_eqT K d_Law_law_693 rfl (rfl) ?_
  refine gx_wide (k1 := k + 1) (n1 := n + 8) (by omega) (by omega) ?_
  exact nx _ _ _ _ _ _ _ _ _ _ _ _ _ _ _ _ _ _ _ _ _ (h)
set_option maxRecDepth 100000 in
set_option maxHeartbeats 1000000 in
theorem w_rounded (K : gK p s m args c c_Law_law 4 "FactBinderLaw" D ty tt A) (S : lwS bb ll xs s A) (hi : i + 6 ≤ ll) (hR : 9 ≤ R.frames ∧ 400 ≤ R.locals) (hC : k + 1 ≤ R.cells ∧ n + 8 ≤ R.slots) (nx : LC p l e R s m args below meth c D A Q ty a b (k + 1) (n + 8) (lwL bb a b i) 792) (h : RL B N E J ph V r en re O z tx X Y fc sl P) : gG p l e R s m args below meth c 4 D A Q k n (mdW b ty B N E J ph V rd (fbW a ty N r en re O z tx X Y fc sl pt tot hv P)) (lwL bb a b i) [] 698 := by
  obtain ⟨a1, a2, a3, a4, a5, a6, a7, a8⟩ := id h
  obtain ⟨-, -, -, -, -, I, -, -, -, hV⟩ := id a2
  have G := cI_ext (mdW b ty B N E J ph V rd []) a2
  obtain ⟨hR1, hR2⟩ := hR
  obtain ⟨hC1, hC2⟩ := hC
  refine gx_aload_n K d_Law_law_698 rfl rfl ?_
  refine gx_arg K S (i := i) (j := 1) (by omega) rfl rfl rfl d_Law_law_699 d_Law_law_700 d_Law_law_701 d_Law_law_702 d_Law_law_703 ?_
  refine gx_ws (w1 := mdW b ty B N E J ph V rd [] ++ fbW a ty N r en re O z tx X Y fc sl pt tot hv P) rfl ?_
  refine gy_swap _ _ ?_
  refine gx_ws (w1 := fbW a ty N r en re O z tx X Y fc sl pt tot hv (P ++ mdW b ty B N E J ph V rd [])) rfl ?_
  have hM := z_FB_rounded (l := l) (D := D) (ty := ty) (tt := tt) (a := a) (N := N) (r := r) (en := en) (re := re) (O := O) (z := z) (tx := tx) (X := X) (Y := Y) (fc := fc) (sl := sl) (pt := pt) (tot := tot) (hv := hv) (rest := P ++ mdW b ty B N E J ph V rd []) a3 (xs (i + 1)) G
  refine gx_Vd K (hM) Y_FB_rounded (ci := 0) rfl (q0 := 0) rfl k674 k675 k673 rfl ⟨by omega, by omega⟩ ⟨by omega, by omega⟩ (gle rfl) d_Law_law_704 ?_
  refine gx_ws (w1 := fbW a ty N r en re O z tx X Y fc sl pt tot hv P ++ mdW b ty B N E J ph V rd []) rfl ?_
  refine gy_swap _ _ ?_
  refine gx_ws (w1 := mdW b ty B N E J ph V rd (fbW a ty N r en re O z tx X Y fc sl pt tot hv P)) rfl ?_
  refine gx_aload_n K d_Law_law_707 rfl rfl ?_
  refine gx_arg K S (i := i) (j := 1) (by omega) rfl rfl rfl d_Law_law_708 d_Law_law_709 d_Law_law_710 d_Law_law_711 d_Law_law_712 ?_
  refine gx_Vd K (z_Mod_rounded I a3 (xs (i + 1)) hV) Y_Mod_rounded (ci := 12) rfl (q0 := 0) rfl k935 k936 k934 rfl ⟨by omega, by omega⟩ ⟨by omega, by omega⟩ (gle rfl) d_Law_law_713 ?_
  refine gx_lcmp K d_Law_law_716 ?_
  refine gx_ifl_eq K d_Law_law_717 rfl (fun _ => ?_) (fun q => absurd (rfl) q)
  refine gx_wide (k1 := k + 1) (n1 := n + 8) (by omega) (by omega) ?_
  exact nx _ _ _ _ _ _ _ _ _ _ _ _ _ _ _ _ _ _ _ _ _ (h)
set_option maxRecDepth 100000 in
set_option maxHeartbeats 1000000 in
theorem w_sum (K : gK p s m args c c_Law_law 4 "FactBinderLaw" D ty tt A) (S : lwS bb ll xs s A) (hi : i + 6 ≤ ll) (hR : 9 ≤ R.frames ∧ 400 ≤ R.locals) (hC : k + 1 ≤ R.cells ∧ n + 8 ≤ R.slots) (nx : LC p l e R s m args below meth c D A Q ty a b (k + 1) (n + 8) (lwL bb a b i) 792) (h : RL B N E J ph V r en re O z tx X Y fc sl P) : gG p l e R s m args below meth c 4 D A Q k n (mdW b ty B N E J ph V rd (fbW a ty N r en re O z tx X Y fc sl pt tot hv P)) (lwL bb a b i) [] 722 := by
  obtain ⟨a1, a2, a3, a4, a5, a6, a7, a8⟩ := id h
  obtain ⟨-, -, -, -, -, I, -, -, -, hV⟩ := id a2
  have G := cI_ext (mdW b ty B N E J ph V rd []) a2
  obtain ⟨hR1, hR2⟩ := hR
  obtain ⟨hC1, hC2⟩ := hC
  refine gx_aload_n K d_Law_law_722 rfl rfl ?_
  refine gx_arg K S (i := i) (j := 1) (by omega) rfl rfl rfl d_Law_law_723 d_Law_law_724 d_Law_law_725 d_Law_law_726 d_Law_law_727 ?_
  refine gx_arg K S (i := i) (j := 2) (by omega) rfl rfl rfl d_Law_law_728 d_Law_law_729 d_Law_law_730 d_Law_law_731 d_Law_law_732 ?_
  refine gx_ws (w1 := mdW b ty B N E J ph V rd [] ++ fbW a ty N r en re O z tx X Y fc sl pt tot hv P) rfl ?_
  refine gy_swap _ _ ?_
  refine gx_ws (w1 := fbW a ty N r en re O z tx X Y fc sl pt tot hv (P ++ mdW b ty B N E J ph V rd [])) rfl ?_
  have hM := z_FB_sum (l := l) (D := D) (ty := ty) (tt := tt) (a := a) (N := N) (r := r) (en := en) (re := re) (O := O) (z := z) (tx := tx) (X := X) (Y := Y) (fc := fc) (sl := sl) (pt := pt) (tot := tot) (hv := hv) (rest := P ++ mdW b ty B N E J ph V rd []) a3 G a4 a8 (xs (i + 1)) (xs (i + 2))
  refine gx_V K (hM) Y_FB_sum (ci := 0) rfl (q0 := 0) rfl k678 k679 k677 rfl ⟨by omega, by omega⟩ ⟨by omega, by omega⟩ (gle rfl) d_Law_law_733 (fun v w hp => ?_)
  obtain ⟨rfl, X1, Y1, fc1, sl1, pt1, tot1, hv1, rfl, hf⟩ := hp
  refine gx_ws (w1 := fbW a ty N r en re O z tx X1 Y1 fc1 sl1 pt1 tot1 hv1 P ++ mdW b ty B N E J ph V rd []) rfl ?_
  refine gy_swap _ _ ?_
  refine gx_ws (w1 := mdW b ty B N E J ph V rd (fbW a ty N r en re O z tx X1 Y1 fc1 sl1 pt1 tot1 hv1 P)) rfl ?_
  refine gx_st (s1 := [_]) rfl ?_
  refine gx_aload_n K d_Law_law_736 rfl rfl ?_
  refine gx_arg K S (i := i) (j := 1) (by omega) rfl rfl rfl d_Law_law_737 d_Law_law_738 d_Law_law_739 d_Law_law_740 d_Law_law_741 ?_
  refine gx_arg K S (i := i) (j := 2) (by omega) rfl rfl rfl d_Law_law_742 d_Law_law_743 d_Law_law_744 d_Law_law_745 d_Law_law_746 ?_
  refine gx_Vd K (z_Mod_sum I a3 (xs (i + 1)) (xs (i + 2)) hV) Y_Mod_sum (ci := 12) rfl (q0 := 0) rfl k950 k951 k949 rfl ⟨by omega, by omega⟩ ⟨by omega, by omega⟩ (gle rfl) d_Law_law_747 ?_
  refine gx_lcmp K d_Law_law_750 ?_
  refine gx_ifl_eq K d_Law_law_751 rfl (fun _ => ?_) (fun q => absurd (rfl) q)
  refine gx_wide (k1 := k + 1) (n1 := n + 8) (by omega) (by omega) ?_
  exact nx _ _ _ _ _ _ _ _ _ _ _ _ _ _ _ _ _ _ _ _ _ (RL_B (RL_F h hf) rfl rfl rfl rfl rfl)
set_option maxRecDepth 100000 in
set_option maxHeartbeats 1000000 in
theorem w_problems (K : gK p s m args c c_Law_law 4 "FactBinderLaw" D ty tt A) (S : lwS bb ll xs s A) (hi : i + 6 ≤ ll) (hR : 9 ≤ R.frames ∧ 400 ≤ R.locals) (hC : k + 1 ≤ R.cells ∧ n + 8 ≤ R.slots) (nx : LC p l e R s m args below meth c D A Q ty a b (k + 1) (n + 8) (lwL bb a b i) 792) (h : RL B N E J ph V r en re O z tx X Y fc sl P) : gG p l e R s m args below meth c 4 D A Q k n (mdW b ty B N E J ph V rd (fbW a ty N r en re O z tx X Y fc sl pt tot hv P)) (lwL bb a b i) [] 756 := by
  obtain ⟨a1, a2, a3, a4, a5, a6, a7, a8⟩ := id h
  obtain ⟨-, -, -, -, -, I, -, -, -, hV⟩ := id a2
  have G := cI_ext (mdW b ty B N E J ph V rd []) a2
  obtain ⟨hR1, hR2⟩ := hR
  obtain ⟨hC1, hC2⟩ := hC
  refine gx_aload_n K d_Law_law_756 rfl rfl ?_
  refine gx_ws (w1 := mdW b ty B N E J ph V rd [] ++ fbW a ty N r en re O z tx X Y fc sl pt tot hv P) rfl ?_
  refine gy_swap _ _ ?_
  refine gx_ws (w1 := fbW a ty N r en re O z tx X Y fc sl pt tot hv (P ++ mdW b ty B N E J ph V rd [])) rfl ?_
  have hM := z_FB_problems (l := l) (D := D) (ty := ty) (tt := tt) (a := a) (N := N) (r := r) (en := en) (re := re) (O := O) (z := z) (tx := tx) (X := X) (Y := Y) (fc := fc) (sl := sl) (pt := pt) (tot := tot) (hv := hv) (rest := P ++ mdW b ty B N E J ph V rd []) a3 G a4 a8
  refine gx_V K (hM) Y_FB_problems (ci := 0) rfl (q0 := 0) rfl k683 k684 k682 rfl ⟨by omega, by omega⟩ ⟨by omega, by omega⟩ (gle rfl) d_Law_law_757 (fun v w hp => ?_)
  obtain ⟨rfl, X1, Y1, fc1, sl1, pt1, tot1, hv1, rfl, hf⟩ := hp
  refine gx_ws (w1 := fbW a ty N r en re O z tx X1 Y1 fc1 sl1 pt1 tot1 hv1 P ++ mdW b ty B N E J ph V rd []) rfl ?_
  refine gy_swap _ _ ?_
  refine gx_ws (w1 := mdW b ty B N E J ph V rd (fbW a ty N r en re O z tx X1 Y1 fc1 sl1 pt1 tot1 hv1 P)) rfl ?_
  refine gx_st (s1 := [_]) rfl ?_
  refine gx_aload_n K d_Law_law_760 rfl rfl ?_
  refine gx_Vd K (z_Mod_problems I a3 hV) Y_Mod_problems (ci := 12) rfl (q0 := 0) rfl k982 k983 k981 rfl ⟨by omega, by omega⟩ ⟨by omega, by omega⟩ (gle rfl) d_Law_law_761 ?_
  refine gx_icmp_eqT K d_Law_law_764 rfl (rfl) ?_
  refine gx_wide (k1 := k + 1) (n1 := n + 8) (by omega) (by omega) ?_
  exact nx _ _ _ _ _ _ _ _ _ _ _ _ _ _ _ _ _ _ _ _ _ (RL_B (RL_F h hf) rfl rfl rfl rfl rfl)
set_option maxRecDepth 100000 in
set_option maxHeartbeats 1000000 in
theorem w_problem (K : gK p s m args c c_Law_law 4 "FactBinderLaw" D ty tt A) (S : lwS bb ll xs s A) (hi : i + 6 ≤ ll) (hR : 9 ≤ R.frames ∧ 400 ≤ R.locals) (hC : k + 1 ≤ R.cells ∧ n + 8 ≤ R.slots) (nx : LC p l e R s m args below meth c D A Q ty a b (k + 1) (n + 8) (lwL bb a b i) 792) (h : RL B N E J ph V r en re O z tx X Y fc sl P) : gG p l e R s m args below meth c 4 D A Q k n (mdW b ty B N E J ph V rd (fbW a ty N r en re O z tx X Y fc sl pt tot hv P)) (lwL bb a b i) [] 769 := by
  obtain ⟨a1, a2, a3, a4, a5, a6, a7, a8⟩ := id h
  obtain ⟨-, -, -, -, -, I, -, -, -, hV⟩ := id a2
  have G := cI_ext (mdW b ty B N E J ph V rd []) a2
  obtain ⟨hR1, hR2⟩ := hR
  obtain ⟨hC1, hC2⟩ := hC
  refine gx_aload_n K d_Law_law_769 rfl rfl ?_
  refine gx_arg K S (i := i) (j := 1) (by omega) rfl rfl rfl d_Law_law_770 d_Law_law_771 d_Law_law_772 d_Law_law_773 d_Law_law_774 ?_
  refine gx_ws (w1 := mdW b ty B N E J ph V rd [] ++ fbW a ty N r en re O z tx X Y fc sl pt tot hv P) rfl ?_
  refine gy_swap _ _ ?_
  refine gx_ws (w1 := fbW a ty N r en re O z tx X Y fc sl pt tot hv (P ++ mdW b ty B N E J ph V rd [])) rfl ?_
  have hM := z_FB_problem (l := l) (D := D) (ty := ty) (tt := tt) (a := a) (N := N) (r := r) (en := en) (re := re) (O := O) (z := z) (tx := tx) (X := X) (Y := Y) (fc := fc) (sl := sl) (pt := pt) (tot := tot) (hv := hv) (rest := P ++ mdW b ty B N E J ph V rd []) a3 G a4 a8 (xs (i + 1))
  refine gx_V K (hM) Y_FB_problem (ci := 0) rfl (q0 := 0) rfl k687 k688 k686 rfl ⟨by omega, by omega⟩ ⟨by omega, by omega⟩ (gle rfl) d_Law_law_775 (fun v w hp => ?_)
  obtain ⟨rfl, X1, Y1, fc1, sl1, pt1, tot1, hv1, rfl, hf⟩ := hp
  refine gx_ws (w1 := fbW a ty N r en re O z tx X1 Y1 fc1 sl1 pt1 tot1 hv1 P ++ mdW b ty B N E J ph V rd []) rfl ?_
  refine gy_swap _ _ ?_
  refine gx_ws (w1 := mdW b ty B N E J ph V rd (fbW a ty N r en re O z tx X1 Y1 fc1 sl1 pt1 tot1 hv1 P)) rfl ?_
  refine gx_st (s1 := [_]) rfl ?_
  refine gx_aload_n K d_Law_law_778 rfl rfl ?_
  refine gx_arg K S (i := i) (j := 1) (by omega) rfl rfl rfl d_Law_law_779 d_Law_law_780 d_Law_law_781 d_Law_law_782 d_Law_law_783 ?_
  refine gx_Vd K (z_Mod_problem I a3 (xs (i + 1)) hV) Y_Mod_problem (ci := 12) rfl (q0 := 0) rfl k1019 k1020 k1018 rfl ⟨by omega, by omega⟩ ⟨by omega, by omega⟩ (gle rfl) d_Law_law_784 ?_
  by_cases hk : 0 ≤ (xs (i + 1))
  · skip
    refine gx_ws (w1 := mdW b ty (va_up (va_up B 2 (d_fo B)) 4 (w_rol (va_up B 2 (d_fo B)) N E 3)) N E (mJ J (xs (i + 1)) (m_probs (va_up B 2 (d_fo B)) N E V)) ph V rd (fbW a ty N r en re O z tx X1 Y1 fc1 sl1 pt1 tot1 hv1 P)) (if_pos hk) ?_
    refine gx_icmp_eqT K d_Law_law_787 rfl (prob_eq (probs_len a3)) ?_
    refine gx_wide (k1 := k + 1) (n1 := n + 8) (by omega) (by omega) ?_
    exact nx _ _ _ _ _ _ _ _ _ _ _ _ _ _ _ _ _ _ _ _ _ (RL_B (RL_F h hf) rfl rfl rfl rfl rfl)
  · skip
    refine gx_ws (w1 := mdW b ty B N E J ph V rd (fbW a ty N r en re O z tx X1 Y1 fc1 sl1 pt1 tot1 hv1 P)) (if_neg hk) ?_
    refine gx_icmp_eqT K d_Law_law_787 rfl (prob_eq (probs_len a3)) ?_
    refine gx_wide (k1 := k + 1) (n1 := n + 8) (by omega) (by omega) ?_
    exact nx _ _ _ _ _ _ _ _ _ _ _ _ _ _ _ _ _ _ _ _ _ (RL_F h hf)
end LQ
