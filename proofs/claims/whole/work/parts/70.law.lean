/-! the law: its script, its switch -/
/-- the script: ll ints xs at the cell bb, which nobody writes -/
def lwS (bb ll : Nat) (xs : Nat → Int32) (s : State) (A : Nat → Prop) : Prop := va_X bb ll xs s s.heap ∧ bb < s.heap.size ∧ ¬ A bb ∧ ll ≤ 3072
theorem and31 (x : Int32) : ∃ j : Nat, j < 32 ∧ x &&& 31 = nI j := by
  refine ⟨(x.toBitVec &&& 31#32).toNat, ?_, ?_⟩
  · rw [BitVec.toNat_and]
    exact Nat.lt_of_le_of_lt Nat.and_le_right (by decide)
  · apply Int32.toBitVec_inj.mp
    rw [Int32.toBitVec_and]
    show _ = BitVec.ofNat 32 _
    rw [BitVec.ofNat_toNat, BitVec.setWidth_eq]
    rfl
theorem char2 (y : Int32) : vp_nar .char (y.toUInt32 % 65536).toInt32 = (y.toUInt32 % 65536).toInt32 := by
  show ((y.toUInt32 % 65536).toInt32.toUInt32 % 65536).toInt32 = _
  congr 1
  rw [UInt32.toUInt32_toInt32]
  apply UInt32.toNat_inj.mp
  rw [UInt32.toNat_mod, UInt32.toNat_mod]
  exact Nat.mod_mod _ _
section LR
variable {p : Program} {l : Launch} {e : Env} {R : Room} {s : State} {m : MethodId} {args : Array Value} {below : List Frame} {meth : Method} {c : Code} {Q : State → Prop} {k n : Nat}
variable {cc : ByteArray} {nL : Nat} {own : String} {D : va_G} {ty : Nat → ClassId} {tt : Nat} {A : Nat → Prop} {ws : va_W} {L : List (Option Value)} {st : List Value} {pc : Nat}
variable {bb ll i : Nat} {xs : Nat → Int32}
theorem gx_sld (K : gK p s m args c cc nL own D ty tt A) (S : lwS bb ll xs s A) {x : Int32} {j : Nat} (hi : x = nI j) (hj : j < ll) (hd : decode cc pc = .ok (.iaload, 1)) (h : gG p l e R s m args below meth c nL D A Q k n ws L (.int (xs j) :: st) (pc + 1)) : gG p l e R s m args below meth c nL D A Q k n ws L (.int x :: .ref bb :: st) pc := by
  obtain ⟨h1, h2⟩ := gIdx hi hj (by have := S.2.2.2; omega)
  refine fun H locs ls hL hP hD hS => va_sld K.1 K.2.1 S.1 S.2.1 S.2.2.1 hS h1 hd ?_
  rw [h2]
  exact h H locs ls hL hP hD hS
theorem gx_slen (K : gK p s m args c cc nL own D ty tt A) (S : lwS bb ll xs s A) (hd : decode cc pc = .ok (.arraylength, 1)) (h : gG p l e R s m args below meth c nL D A Q k n ws L (.int (nI ll) :: st) (pc + 1)) : gG p l e R s m args below meth c nL D A Q k n ws L (.ref bb :: st) pc :=
  fun H locs ls hL hP hD hS => va_slen K.1 K.2.1 S.1 S.2.1 S.2.2.1 hS hd (h H locs ls hL hP hD hS)
theorem gx_arg (K : gK p s m args c cc nL own D ty tt A) (S : lwS bb ll xs s A) {j : Nat} {jv : Int} (hj : i + j < ll) (hn : Int32.ofInt jv = nI j) (h0 : L[0]? = some (some (.ref bb))) (h3 : L[3]? = some (some (.int (nI i)))) (d0 : decode cc pc = .ok (.aload_n 0, 1)) (d1 : decode cc (pc + 1) = .ok (.iload_n 3, 1)) (d2 : decode cc (pc + 2) = .ok (.iconst jv, 1)) (d3 : decode cc (pc + 3) = .ok (.iadd, 1)) (d4 : decode cc (pc + 4) = .ok (.iaload, 1)) (h : gG p l e R s m args below meth c nL D A Q k n ws L (.int (xs (i + j)) :: st) (pc + 5)) : gG p l e R s m args below meth c nL D A Q k n ws L st pc := by
  refine gx_aload_n (i := 0) K d0 rfl h0 ?_
  refine gx_iload_n (i := 3) K d1 rfl h3 ?_
  refine gx_iconst K d2 hn ?_
  refine gx_iadd K d3 ?_
  refine gx_sld K S (j := i + j) (nI_add i j) hj d4 ?_
  exact h
theorem gx_swi (K : gK p s m args c cc nL own D ty tt A) {dflt lo hi : Int} {offs : Array Int} {len : Nat} {x : Int32} {off : Int} {tgt : Nat} (hd : decode cc pc = .ok (.tableswitch dflt lo hi offs, len)) (h1 : ¬ x.toInt < lo) (h2 : ¬ hi < x.toInt) (ho : offs[(x.toInt - lo).toNat]? = some off) (ht : (pc : Int) + off = (tgt : Int)) (h : gG p l e R s m args below meth c nL D A Q k n ws L st tgt) : gG p l e R s m args below meth c nL D A Q k n ws L (.int x :: st) pc :=
  fun H locs ls hL hP hD hS => lv_tableIn K.1 K.2.1 hd h1 h2 ho ht (h H locs ls hL hP hD hS)
theorem gx_swo (K : gK p s m args c cc nL own D ty tt A) {dflt lo hi : Int} {offs : Array Int} {len : Nat} {x : Int32} {tgt : Nat} (hd : decode cc pc = .ok (.tableswitch dflt lo hi offs, len)) (h1 : x.toInt < lo ∨ hi < x.toInt) (ht : (pc : Int) + dflt = (tgt : Int)) (h : gG p l e R s m args below meth c nL D A Q k n ws L st tgt) : gG p l e R s m args below meth c nL D A Q k n ws L (.int x :: st) pc :=
  fun H locs ls hL hP hD hS => lv_tableOut K.1 K.2.1 hd h1 ht (h H locs ls hL hP hD hS)
end LR
theorem RL_F {B : Nat → Nat → Bool} {N : Nat → Nat} {E : Nat → Nat → Int32} {J : Nat → Int32} {ph : Bool} {V : Nat → Int64} {r : Nat → Int32} {en re : Int32} {O : Nat → Nat → Option Nat} {z : Nat} {tx : Nat → Int32} {X X1 : Nat → Nat → Bool} {Y Y1 : Nat → Nat → Int32} {fc fc1 : Nat} {sl sl1 : Bool} {P : va_W} (h : RL B N E J ph V r en re O z tx X Y fc sl P) (hf : sl1 = false → fresh (bF B) N E V X1 Y1 fc1) : RL B N E J ph V r en re O z tx X1 Y1 fc1 sl1 P :=
  ⟨h.1, h.2.1, h.2.2.1, h.2.2.2.1, h.2.2.2.2.1, h.2.2.2.2.2.1, h.2.2.2.2.2.2.1, hf⟩
abbrev lwL (bb : Nat) (a b : Nat → Nat) (i : Nat) : List (Option Value) := [some (.ref bb), some (.ref (a 0)), some (.ref (b 0)), some (.int (nI i))]
/-- from every state of the two that fit together -/
def LC (p : Program) (l : Launch) (e : Env) (R : Room) (s : State) (m : MethodId) (args : Array Value) (below : List Frame) (meth : Method) (c : Code) (D : va_G) (A : Nat → Prop) (Q : State → Prop) (ty : Nat → ClassId) (a b : Nat → Nat) (k n : Nat) (L : List (Option Value)) (pc : Nat) : Prop :=
  ∀ (B : Nat → Nat → Bool) (N : Nat → Nat) (E : Nat → Nat → Int32) (J : Nat → Int32) (ph : Bool) (V : Nat → Int64) (rd : Int64) (r : Nat → Int32) (en re : Int32) (O : Nat → Nat → Option Nat) (z : Nat) (tx : Nat → Int32) (X : Nat → Nat → Bool) (Y : Nat → Nat → Int32) (fc : Nat) (sl : Bool) (pt : Int32) (tot : Int64) (hv : Bool) (P : va_W), RL B N E J ph V r en re O z tx X Y fc sl P → gG p l e R s m args below meth c 4 D A Q k n (mdW b ty B N E J ph V rd (fbW a ty N r en re O z tx X Y fc sl pt tot hv P)) L [] pc
theorem ref_rg {B : Nat → Nat → Bool} {x y : Int32} (h : k_ref B x y = true) : rg x 8 ∧ rg y 8 := by
  unfold k_ref at h
  simp only [Bool.and_eq_true] at h
  exact ⟨in_rg h.1 (n := 8) rfl (by decide), in_rg h.2.1 (n := 8) rfl (by decide)⟩
theorem ent_rg {B : Nat → Nat → Bool} {x : Int32} (h : k_ent B x = true) : rg x 8 := by
  unfold k_ent at h
  simp only [Bool.and_eq_true] at h
  exact in_rg h.1 (n := 8) rfl (by decide)
theorem wri_lt {N : Nat → Nat} {x : Int32} (h : k_wri N x = true) : N 4 < 20 := by
  unfold k_wri at h
  simp only [Bool.and_eq_true, decide_eq_true_eq] at h
  exact h.2
