def gFg : List (Option Value) → List Bool → List (Option Value)
  | x :: L, b :: m => (if b = true then x else none) :: gFg L m
  | _, _ => []
theorem gFg_sub : ∀ (L : List (Option Value)) (m : List Bool) (i : Nat) (v : Value), (gFg L m)[i]? = some (some v) → L[i]? = some (some v)
  | [], m, i, v, h => by cases m <;> simp [gFg] at h
  | x :: L, [], i, v, h => by simp [gFg] at h
  | x :: L, b :: m, 0, v, h => by
    cases b
    · simp [gFg] at h
    · simpa [gFg] using h
  | x :: L, b :: m, i + 1, v, h => by
    have h1 : (gFg L m)[i]? = some (some v) := by simpa [gFg] using h
    simpa using gFg_sub L m i v h1
section GZ
variable {p : Program} {l : Launch} {e : Env} {R : Room} {s : State} {m : MethodId} {args : Array Value} {below : List Frame} {meth : Method} {c : Code} {Q : State → Prop} {k n : Nat}
variable {nL : Nat} {D : va_G} {A : Nat → Prop} {ws : va_W} {L : List (Option Value)} {st : List Value} {pc : Nat}
/-- a boolean that several roads make: what it is, the road behind it, the roads to it -/
theorem gx_cut {X : Bool} (J : Nat) (hJ : gG p l e R s m args below meth c nL D A Q (k) (n) (ws) (L) (.int (b2i X) :: st) (J)) (h : (∀ x : Bool, x = X → gG p l e R s m args below meth c nL D A Q (k) (n) (ws) (L) (.int (b2i x) :: st) (J)) → gG p l e R s m args below meth c nL D A Q (k) (n) (ws) (L) (st) (pc)) : gG p l e R s m args below meth c nL D A Q (k) (n) (ws) (L) (st) (pc) := h (fun _ q => q ▸ hJ)
theorem gx_cutI {X : Int32} (J : Nat) (hJ : gG p l e R s m args below meth c nL D A Q (k) (n) (ws) (L) (.int X :: st) (J)) (h : (∀ x : Int32, x = X → gG p l e R s m args below meth c nL D A Q (k) (n) (ws) (L) (.int x :: st) (J)) → gG p l e R s m args below meth c nL D A Q (k) (n) (ws) (L) (st) (pc)) : gG p l e R s m args below meth c nL D A Q (k) (n) (ws) (L) (st) (pc) := h (fun _ q => q ▸ hJ)
theorem gx_cutL {X : Int64} (J : Nat) (hJ : gG p l e R s m args below meth c nL D A Q (k) (n) (ws) (L) (.long X :: st) (J)) (h : (∀ x : Int64, x = X → gG p l e R s m args below meth c nL D A Q (k) (n) (ws) (L) (.long x :: st) (J)) → gG p l e R s m args below meth c nL D A Q (k) (n) (ws) (L) (st) (pc)) : gG p l e R s m args below meth c nL D A Q (k) (n) (ws) (L) (st) (pc) := h (fun _ q => q ▸ hJ)
/-- roads that meet with the same stack; P says what is known there -/
theorem gx_cutP {P : Prop} (J : Nat) (hJ : P → gG p l e R s m args below meth c nL D A Q (k) (n) (ws) (L) (st) (J)) (h : (P → gG p l e R s m args below meth c nL D A Q (k) (n) (ws) (L) (st) (J)) → gG p l e R s m args below meth c nL D A Q (k) (n) (ws) (L) (st) (pc)) : gG p l e R s m args below meth c nL D A Q (k) (n) (ws) (L) (st) (pc) := h hJ
/-- sums and quotients of small numbers; two booleans compared -/
theorem gx_iaddN {cc : ByteArray} {own : String} {ty : Nat → ClassId} {tt : Nat} (K : gK p s m args c cc nL own D ty tt A) (a b : Nat) (hd : decode cc pc = .ok (.iadd, 1)) (h : gG p l e R s m args below meth c nL D A Q (k) (n) (ws) (L) (.int (nI (a + b)) :: st) (pc + 1)) : gG p l e R s m args below meth c nL D A Q (k) (n) (ws) (L) (.int (nI b) :: .int (nI a) :: st) (pc) := gx_iadd K hd (by rw [nI_add]; exact h)
theorem gx_imulN {cc : ByteArray} {own : String} {ty : Nat → ClassId} {tt : Nat} (K : gK p s m args c cc nL own D ty tt A) (a b : Nat) (hd : decode cc pc = .ok (.imul, 1)) (h : gG p l e R s m args below meth c nL D A Q (k) (n) (ws) (L) (.int (nI (a * b)) :: st) (pc + 1)) : gG p l e R s m args below meth c nL D A Q (k) (n) (ws) (L) (.int (nI b) :: .int (nI a) :: st) (pc) := gx_imul K hd (by rw [pk_mul]; exact h)
theorem gx_isubN {cc : ByteArray} {own : String} {ty : Nat → ClassId} {tt : Nat} (K : gK p s m args c cc nL own D ty tt A) (a b : Nat) (hab : b ≤ a) (hd : decode cc pc = .ok (.isub, 1)) (h : gG p l e R s m args below meth c nL D A Q (k) (n) (ws) (L) (.int (nI (a - b)) :: st) (pc + 1)) : gG p l e R s m args below meth c nL D A Q (k) (n) (ws) (L) (.int (nI b) :: .int (nI a) :: st) (pc) := gx_isub K hd (by rw [pk_sub hab]; exact h)
theorem gx_iremN {cc : ByteArray} {own : String} {ty : Nat → ClassId} {tt : Nat} (K : gK p s m args c cc nL own D ty tt A) (a b : Nat) (ha : a < 2 ^ 31) (h0 : 0 < b) (hb : b < 2 ^ 31) (hd : decode cc pc = .ok (.irem, 1)) (h : gG p l e R s m args below meth c nL D A Q (k) (n) (ws) (L) (.int (nI (a % b)) :: st) (pc + 1)) : gG p l e R s m args below meth c nL D A Q (k) (n) (ws) (L) (.int (nI b) :: .int (nI a) :: st) (pc) := gx_irem K hd (nI_ne0 h0 hb) (by rw [pk_rem ha h0 hb]; exact h)
theorem gx_idivN {cc : ByteArray} {own : String} {ty : Nat → ClassId} {tt : Nat} (K : gK p s m args c cc nL own D ty tt A) (a b : Nat) (ha : a < 2 ^ 31) (h0 : 0 < b) (hb : b < 2 ^ 31) (hd : decode cc pc = .ok (.idiv, 1)) (h : gG p l e R s m args below meth c nL D A Q (k) (n) (ws) (L) (.int (nI (a / b)) :: st) (pc + 1)) : gG p l e R s m args below meth c nL D A Q (k) (n) (ws) (L) (.int (nI b) :: .int (nI a) :: st) (pc) := gx_idiv K hd (nI_ne0 h0 hb) (by rw [pk_div ha h0 hb]; exact h)
theorem gx_icmp_eqB {cc : ByteArray} {own : String} {ty : Nat → ClassId} {tt : Nat} (K : gK p s m args c cc nL own D ty tt A) {x y : Bool} {off : Int} {tgt : Nat} (hd : decode cc pc = .ok (.if_icmp .eq off, 3)) (ht : (pc : Int) + off = (tgt : Int)) (kt : x = y → gG p l e R s m args below meth c nL D A Q (k) (n) (ws) (L) (st) (tgt)) (kf : ¬ x = y → gG p l e R s m args below meth c nL D A Q (k) (n) (ws) (L) (st) (pc + 3)) : gG p l e R s m args below meth c nL D A Q (k) (n) (ws) (L) (.int (b2i y) :: .int (b2i x) :: st) (pc) := gx_icmp_eq K hd ht (fun q => kt (b2i_inj.mp q)) (fun q => kf (fun r => q (b2i_inj.mpr r)))
theorem gx_icmp_neB {cc : ByteArray} {own : String} {ty : Nat → ClassId} {tt : Nat} (K : gK p s m args c cc nL own D ty tt A) {x y : Bool} {off : Int} {tgt : Nat} (hd : decode cc pc = .ok (.if_icmp .ne off, 3)) (ht : (pc : Int) + off = (tgt : Int)) (kt : ¬ x = y → gG p l e R s m args below meth c nL D A Q (k) (n) (ws) (L) (st) (tgt)) (kf : x = y → gG p l e R s m args below meth c nL D A Q (k) (n) (ws) (L) (st) (pc + 3)) : gG p l e R s m args below meth c nL D A Q (k) (n) (ws) (L) (.int (b2i y) :: .int (b2i x) :: st) (pc) := gx_icmp_ne K hd ht (fun q => kt (fun r => q (b2i_inj.mpr r))) (fun q => kf (b2i_inj.mp q))
theorem gx_ifl_eq {cc : ByteArray} {own : String} {ty : Nat → ClassId} {tt : Nat} (K : gK p s m args c cc nL own D ty tt A) {x y : Int64} {off : Int} {tgt : Nat} (hd : decode cc pc = .ok (.ifCond .eq off, 3)) (ht : (pc : Int) + off = (tgt : Int)) (kt : x = y → gG p l e R s m args below meth c nL D A Q (k) (n) (ws) (L) (st) (tgt)) (kf : ¬ x = y → gG p l e R s m args below meth c nL D A Q (k) (n) (ws) (L) (st) (pc + 3)) : gG p l e R s m args below meth c nL D A Q (k) (n) (ws) (L) (.int (lg_cmp x y) :: st) (pc) := gx_if_eq K hd ht (fun q => kt ((lg_cmp_eq x y).mp q)) (fun q => kf (fun r => q ((lg_cmp_eq x y).mpr r)))
theorem gx_ifl_ne {cc : ByteArray} {own : String} {ty : Nat → ClassId} {tt : Nat} (K : gK p s m args c cc nL own D ty tt A) {x y : Int64} {off : Int} {tgt : Nat} (hd : decode cc pc = .ok (.ifCond .ne off, 3)) (ht : (pc : Int) + off = (tgt : Int)) (kt : ¬ x = y → gG p l e R s m args below meth c nL D A Q (k) (n) (ws) (L) (st) (tgt)) (kf : x = y → gG p l e R s m args below meth c nL D A Q (k) (n) (ws) (L) (st) (pc + 3)) : gG p l e R s m args below meth c nL D A Q (k) (n) (ws) (L) (.int (lg_cmp x y) :: st) (pc) := gx_if_ne K hd ht (fun q => kt (fun r => q ((lg_cmp_eq x y).mpr r))) (fun q => kf ((lg_cmp_eq x y).mp q))
theorem gx_ifl_lt {cc : ByteArray} {own : String} {ty : Nat → ClassId} {tt : Nat} (K : gK p s m args c cc nL own D ty tt A) {x y : Int64} {off : Int} {tgt : Nat} (hd : decode cc pc = .ok (.ifCond .lt off, 3)) (ht : (pc : Int) + off = (tgt : Int)) (kt : x < y → gG p l e R s m args below meth c nL D A Q (k) (n) (ws) (L) (st) (tgt)) (kf : ¬ x < y → gG p l e R s m args below meth c nL D A Q (k) (n) (ws) (L) (st) (pc + 3)) : gG p l e R s m args below meth c nL D A Q (k) (n) (ws) (L) (.int (lg_cmp x y) :: st) (pc) := gx_if_lt K hd ht (fun q => kt ((lg_cmp_lt x y).mp q)) (fun q => kf (fun r => q ((lg_cmp_lt x y).mpr r)))
theorem gx_ifl_ge {cc : ByteArray} {own : String} {ty : Nat → ClassId} {tt : Nat} (K : gK p s m args c cc nL own D ty tt A) {x y : Int64} {off : Int} {tgt : Nat} (hd : decode cc pc = .ok (.ifCond .ge off, 3)) (ht : (pc : Int) + off = (tgt : Int)) (kt : y ≤ x → gG p l e R s m args below meth c nL D A Q (k) (n) (ws) (L) (st) (tgt)) (kf : ¬ y ≤ x → gG p l e R s m args below meth c nL D A Q (k) (n) (ws) (L) (st) (pc + 3)) : gG p l e R s m args below meth c nL D A Q (k) (n) (ws) (L) (.int (lg_cmp x y) :: st) (pc) := gx_if_ge K hd ht (fun q => kt ((lg_cmp_ge x y).mp q)) (fun q => kf (fun r => q ((lg_cmp_ge x y).mpr r)))
theorem gx_ifl_gt {cc : ByteArray} {own : String} {ty : Nat → ClassId} {tt : Nat} (K : gK p s m args c cc nL own D ty tt A) {x y : Int64} {off : Int} {tgt : Nat} (hd : decode cc pc = .ok (.ifCond .gt off, 3)) (ht : (pc : Int) + off = (tgt : Int)) (kt : y < x → gG p l e R s m args below meth c nL D A Q (k) (n) (ws) (L) (st) (tgt)) (kf : ¬ y < x → gG p l e R s m args below meth c nL D A Q (k) (n) (ws) (L) (st) (pc + 3)) : gG p l e R s m args below meth c nL D A Q (k) (n) (ws) (L) (.int (lg_cmp x y) :: st) (pc) := gx_if_gt K hd ht (fun q => kt ((lg_cmp_gt x y).mp q)) (fun q => kf (fun r => q ((lg_cmp_gt x y).mpr r)))
theorem gx_ifl_le {cc : ByteArray} {own : String} {ty : Nat → ClassId} {tt : Nat} (K : gK p s m args c cc nL own D ty tt A) {x y : Int64} {off : Int} {tgt : Nat} (hd : decode cc pc = .ok (.ifCond .le off, 3)) (ht : (pc : Int) + off = (tgt : Int)) (kt : x ≤ y → gG p l e R s m args below meth c nL D A Q (k) (n) (ws) (L) (st) (tgt)) (kf : ¬ x ≤ y → gG p l e R s m args below meth c nL D A Q (k) (n) (ws) (L) (st) (pc + 3)) : gG p l e R s m args below meth c nL D A Q (k) (n) (ws) (L) (.int (lg_cmp x y) :: st) (pc) := gx_if_le K hd ht (fun q => kt ((lg_cmp_le x y).mp q)) (fun q => kf (fun r => q ((lg_cmp_le x y).mpr r)))
/-- locals of which no more is said -/
theorem gx_mask (mk : List Bool) (h : gG p l e R s m args below meth c nL D A Q (k) (n) (ws) (gFg L mk) (st) (pc)) : gG p l e R s m args below meth c nL D A Q (k) (n) (ws) (L) (st) (pc) :=
  fun H locs ls hL hP hD hS => h H locs ls ⟨hL.1, hL.2.1, fun i v q => hL.2.2 i v (gFg_sub L mk i v q)⟩ hP hD hS
/-- a loop that counts -/
theorem gx_loop (mk : List Bool) (n0 : Nat) (Wd : Nat → va_W) (Inv : Nat → List (Option Value)) (hw : ws = Wd 0) (hL : gFg L mk = Inv 0) (hs : ∀ i, i < n0 → gG p l e R s m args below meth c nL D A Q (k) (n) (Wd (i + 1)) (Inv (i + 1)) (st) (pc) → gG p l e R s m args below meth c nL D A Q (k) (n) (Wd i) (Inv i) (st) (pc)) (he : gG p l e R s m args below meth c nL D A Q (k) (n) (Wd n0) (Inv n0) (st) (pc)) : gG p l e R s m args below meth c nL D A Q (k) (n) (ws) (L) (st) (pc) := by
  have key : ∀ d i, i + d = n0 → gG p l e R s m args below meth c nL D A Q (k) (n) (Wd i) (Inv i) (st) (pc) := by
    intro d
    induction d with
    | zero => intro i hi; rw [show i = n0 by omega]; exact he
    | succ d ih => intro i hi; exact hs i (by omega) (ih (i + 1) (by omega))
  refine gx_mask mk ?_
  rw [hL, hw]
  exact key n0 0 (by omega)
/-- a loop that counts, with what is known so far -/
theorem gx_loopP (mk : List Bool) (n0 : Nat) (P : Nat → Prop) (Wd : Nat → va_W) (Inv : Nat → List (Option Value)) (h0 : P 0) (hw : ws = Wd 0) (hL : gFg L mk = Inv 0) (hs : ∀ i, i < n0 → P i → (P (i + 1) → gG p l e R s m args below meth c nL D A Q (k) (n) (Wd (i + 1)) (Inv (i + 1)) (st) (pc)) → gG p l e R s m args below meth c nL D A Q (k) (n) (Wd i) (Inv i) (st) (pc)) (he : P n0 → gG p l e R s m args below meth c nL D A Q (k) (n) (Wd n0) (Inv n0) (st) (pc)) : gG p l e R s m args below meth c nL D A Q (k) (n) (ws) (L) (st) (pc) := by
  have key : ∀ d i, i + d = n0 → P i → gG p l e R s m args below meth c nL D A Q (k) (n) (Wd i) (Inv i) (st) (pc) := by
    intro d
    induction d with
    | zero => intro i hi hp; rw [show i = n0 by omega] at hp ⊢; exact he hp
    | succ d ih => intro i hi hp; exact hs i (by omega) hp (ih (i + 1) (by omega))
  refine gx_mask mk ?_
  rw [hL, hw]
  exact key n0 0 (by omega) h0
/-- a back edge -/
theorem gx_back (mk : List Bool) {L1 : List (Option Value)} {w1 : va_W} (hL : gFg L mk = L1) (hw : ws = w1) (h : gG p l e R s m args below meth c nL D A Q (k) (n) (w1) (L1) (st) (pc)) : gG p l e R s m args below meth c nL D A Q (k) (n) (ws) (L) (st) (pc) := gx_mask mk (by rw [hL, hw]; exact h)
end GZ
theorem Met_ofF {l : Launch} {y : MethodName} {ws ws' : List Cond} {rm : Room} {Pc : Array Value → State → Prop} {Qc : Array Value → State → Outcome → State → Prop} {mc ms : Nat} {free : Addr → Prop} {cc : ByteArray} {maxL : Nat} {ret : Option FieldType}
    (hy : plainFor y = true) (hw : ws = Cond.code y cc maxL ret :: ws')
    (body : ∀ p e s m args below meth c s₁, BodyLoose p l y (headSpec ws rm) cc maxL ret e s m args below meth c s₁ → c.maxLocals = maxL → Pc args s →
      W p l e (headSpec ws rm).room s m args below meth c s.heap [] 0 0 (MQ below Qc args s mc ms free) (entryFrame m args maxL)) : Met l y ws rm Pc Qc mc ms free := by
  refine MetFree.of_bodySF (code := cc) (maxLocals := maxL) (ret := ret) hy ?_ ?_
  · intro args s m h hn
    obtain ⟨meth, c, h1, h2, h3, h4, h5, h6, -, -⟩ := Cond.code_spec hn (atoms_spec (ws := ws) h _ (by rw [hw]; exact List.mem_cons_self))
    exact ⟨meth, c, h1, h2, h3, h4, h5, h6⟩
  · intro p e s m args below meth c s₁ B hml hP _
    have hh0 : s₁.heap = s.heap := by rw [B.state]; rfl
    obtain ⟨t, a1, o, b1, b2, b3⟩ := body p e s m args below meth c s₁ B hml hP s₁ hh0 (Stand.of_body B)
    exact ⟨t, o, a1, b1, b2, ⟨b3.1, b3.2⟩⟩
theorem Ct_ofF {l : Launch} {y : MethodName} {b : ByteArray} {mL : Nat} {ret : Option FieldType} {d mc ms : Nat} {D : va_G} {ty : Nat → ClassId} {tt : Nat} {av : List Value} {ws : va_W} {Post : Option Value → va_W → Prop} (hy : plainFor y = true) (hn : (lg_sl av).length ≤ mL)
    (h : ∀ (p : Program) (e : Env) (s : State) (m : MethodId) (args : Array Value) (below : List Frame) (meth : Method) (c : Code), gK p s m args c b mL y.cls D ty tt (va_A ws s.heap.size) → meth.sig.returnType = ret → meth.locks = false → meth.name = y.name → gG p l e (gR d mc ms) s m args below meth c mL D (va_A ws s.heap.size) (gE D below ws Post args s mc ms) 0 0 ws (gI mL av) [] 0) : Ct l y b mL ret d mc ms D ty tt av ws Post := by
  intro sz
  refine Met_ofF (cc := b) (maxL := mL) (ret := ret) hy rfl ?_
  intro p e s m args below meth c s₁ B hml hv
  obtain ⟨rfl, hsz, hP, hD0, hN, hK, hO, hZ, hT⟩ := hv
  have hts := atoms_spec (ws := .code y b mL ret :: gB) B.pre
  subst hsz
  have hD := hD0.self (sz := s.heap.size)
  rw [lg_entry_eq]
  exact h p e s m av.toArray below meth c ⟨B.exec, B.bytes, hml, findClass_of_methodNamed B.named, fun w hw => hts w (List.mem_cons_of_mem _ hw), fun q hq => Or.inr hq, hN, hK, hO, hZ, hT⟩ B.returns B.notSynchronized (name_of_methodNamed B.named B.method).1 s.heap [] _ (gI_start av hn) hP hD va_S.rf
