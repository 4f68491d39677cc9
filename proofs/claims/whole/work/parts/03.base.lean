/-! the judgement of the walks: gG says that from any heap that holds the world ws, with the locals L and the stack st, the machine at pc comes to an end with Q -/
def gL (ls : Array Slot) (nL : Nat) (L : List (Option Value)) : Prop := ls.size = nL ∧ lv_wf ls ∧ ∀ (i : Nat) (v : Value), L[i]? = some (some v) → ls[i]? = some (.val v)
def gAl (L : List (Option Value)) : List (Nat × Value) := (List.range L.length).filterMap (fun j => match L[j]? with
  | some (some w) => some (j, w)
  | _ => none)
theorem gAl_mem {L : List (Option Value)} {j : Nat} {w : Value} (h : L[j]? = some (some w)) : (j, w) ∈ gAl L := by
  refine List.mem_filterMap.mpr ⟨j, List.mem_range.mpr (List.getElem?_eq_some_iff.mp h).1, ?_⟩
  rw [h]
theorem gAl_of {L : List (Option Value)} {q : Nat × Value} (h : q ∈ gAl L) : L[q.1]? = some (some q.2) := by
  obtain ⟨j, -, hj⟩ := List.mem_filterMap.mp h
  split at hj
  · rename_i w e
    cases hj
    exact e
  · cases hj
theorem gL_has {ls : Array Slot} {nL : Nat} {L : List (Option Value)} (h : gL ls nL L) : lv_has ls nL (gAl L) := ⟨h.1, h.2.1, fun q hq => h.2.2 q.1 q.2 (gAl_of hq)⟩
def gPv (L : List (Option Value)) (i : Nat) : Bool := match i with
  | 0 => true
  | j + 1 => match L[j]? with
    | some (some w) => !(w.category == 2)
    | _ => true
theorem gL_set1 {ls : Array Slot} {nL : Nat} {L : List (Option Value)} {i : Nat} {v : Value} (h : lv_has ls nL ((i, v) :: (gAl L).filter (fun q => !(q.1 == i) && !(q.1 + 1 == i && q.2.category == 2)))) (hp : gPv L i = true) : gL ls nL (L.set i (some v)) := by
  refine ⟨h.1, h.2.1, fun j w hj => ?_⟩
  by_cases hji : i = j
  · subst hji
    rw [List.getElem?_set, if_pos rfl] at hj
    split at hj
    · cases hj
      exact h.2.2 (i, v) List.mem_cons_self
    · cases hj
  · rw [List.getElem?_set, if_neg hji] at hj
    refine h.2.2 (j, w) (List.mem_cons_of_mem _ (List.mem_filter.mpr ⟨gAl_mem hj, ?_⟩))
    have h1 : ¬ j = i := fun q => hji q.symm
    by_cases h2 : j + 1 = i
    · subst h2
      simp only [gPv, hj] at hp
      simp [hp] <;> simpa using hp
    · simp [h1, h2]
theorem gL_set2 {ls : Array Slot} {nL : Nat} {L : List (Option Value)} {i : Nat} {v : Value} (h : lv_has ls nL ((i, v) :: (gAl L).filter (fun q => !(q.1 == i) && (!(q.1 == i + 1) && !(q.1 + 1 == i && q.2.category == 2))))) (hp : gPv L i = true) : gL ls nL ((L.set i (some v)).set (i + 1) none) := by
  refine ⟨h.1, h.2.1, fun j w hj => ?_⟩
  by_cases hj1 : i + 1 = j
  · subst hj1
    rw [List.getElem?_set, if_pos rfl] at hj
    split at hj <;> cases hj
  · rw [List.getElem?_set, if_neg hj1] at hj
    by_cases hji : i = j
    · subst hji
      rw [List.getElem?_set, if_pos rfl] at hj
      split at hj
      · cases hj
        exact h.2.2 (i, v) List.mem_cons_self
      · cases hj
    · rw [List.getElem?_set, if_neg hji] at hj
      refine h.2.2 (j, w) (List.mem_cons_of_mem _ (List.mem_filter.mpr ⟨gAl_mem hj, ?_⟩))
      have h1 : ¬ j = i := fun q => hji q.symm
      have h3 : ¬ j = i + 1 := fun q => hj1 q.symm
      by_cases h2 : j + 1 = i
      · subst h2
        simp only [gPv, hj] at hp
        have h4 : ¬ w.category = 2 := by simpa using hp
        have h5 : ¬ j = j + 1 + 1 := by omega
        simp [h4, h5]
      · simp [h1, h2, h3]
/-- the locals at a method's start -/
def gIn : List Value → List (Option Value)
  | [] => []
  | v :: vs => if v.category = 2 then some v :: none :: gIn vs else some v :: gIn vs
def gI (nL : Nat) (av : List Value) : List (Option Value) := gIn av ++ List.replicate (nL - (gIn av).length) none
theorem gIn_args : ∀ (av : List Value) (b : Nat) (i : Nat) (v : Value), (gIn av)[i]? = some (some v) → (b + i, v) ∈ lv_args b av
  | [], b, i, v, h => by simp [gIn] at h
  | w :: vs, b, i, v, h => by
    by_cases hc : w.category = 2
    · simp only [gIn, hc, if_true, lv_args] at h ⊢
      match i, h with
      | 0, h =>
        simp at h
        subst h
        exact List.mem_cons_self
      | 1, h => simp at h
      | j + 2, h =>
        have h2 := gIn_args vs (b + 2) j v (by simpa using h)
        exact List.mem_cons_of_mem _ (by rw [show b + (j + 2) = b + 2 + j by omega]; exact h2)
    · simp only [gIn, hc, if_false, lv_args] at h ⊢
      match i, h with
      | 0, h =>
        simp at h
        subst h
        exact List.mem_cons_self
      | j + 1, h =>
        have h2 := gIn_args vs (b + 1) j v (by simpa using h)
        exact List.mem_cons_of_mem _ (by rw [show b + (j + 1) = b + 1 + j by omega]; exact h2)
theorem gI_start (av : List Value) {nL : Nat} (h : (lg_sl av).length ≤ nL) : gL ((lg_sl av ++ List.replicate (nL - (lg_sl av).length) Slot.unset).toArray) nL (gI nL av) := by
  have h1 := lv_entry av h
  refine ⟨h1.1, h1.2.1, fun i v hi => ?_⟩
  have h2 : (gIn av)[i]? = some (some v) := by
    unfold gI at hi
    by_cases hl : i < (gIn av).length
    · rw [List.getElem?_append_left hl] at hi
      exact hi
    · rw [List.getElem?_append_right (by omega), List.getElem?_replicate] at hi
      split at hi <;> cases hi
  have h3 := gIn_args av 0 i v h2
  rw [Nat.zero_add] at h3
  exact h1.2.2 (i, v) h3
/-- booleans as ints -/
def b2i (b : Bool) : Int32 := if b = true then 1 else 0
theorem b2i_t : b2i true = 1 := rfl
theorem b2i_f : b2i false = 0 := rfl
theorem b2i_0 {b : Bool} : b2i b = 0 ↔ b = false := by cases b <;> decide
theorem b2i_1 {b : Bool} : b2i b = 1 ↔ b = true := by cases b <;> decide
theorem b2i_inj {a b : Bool} : b2i a = b2i b ↔ a = b := by cases a <;> cases b <;> decide
theorem b2i_nar (b : Bool) : vp_nar .boolean (b2i b) = b2i b := by cases b <;> rfl
theorem b2i_narrow (b : Bool) : narrow .boolean (.int (b2i b)) = .int (b2i b) := by cases b <;> rfl
theorem b2i_fits (b : Bool) : fits .boolean (.int (b2i b)) = true := by cases b <;> rfl
theorem b2i_upd (f : Nat → Bool) (k : Nat) (b : Bool) : upd (fun j => b2i (f j)) k (b2i b) = fun j => b2i (va_up f k b j) := by
  funext j
  by_cases h : j = k
  · simp [upd, va_up, h]
  · simp [upd, va_up, h]
/-! what every method may take of the tables -/
def gNw (U : State) : Prop := ∀ w ∈ gN, va_Nw w U
theorem gN_is : ∀ w ∈ gN, gIsN w = true := fun w hw => (List.mem_filter.mp hw).2
theorem gNw_same {u U : State} (h : u.vm = U.vm) (hu : gNw u) : gNw U := fun w hw => va_Nw.same (by have := gN_is w hw; cases w <;> first | rfl | cases this) h (hu w hw)
theorem gNw_warm {s U : State} (hW : s.WarmedH U.vm) (hu : gNw s) : gNw U := fun w hw => by
  have h1 := gN_is w hw
  have h2 := hu w hw
  cases w <;> first | exact va_Nw.warmF hW h2 | exact va_Nw.warmM hW h2 | cases h1
def gTy (ty : Nat → ClassId) : List (ClassId × FieldType) := [(ty 0, .int), (ty 1, .long), (ty 2, .boolean), (ty 3, .char), (ty 4, .object gO4), (ty 5, .object gO5), (ty 6, .object gO6), (ty 7, .object gO7), (ty 8, .object gO8)]
def gAO (U : State) : Prop := va_AO gO4 U ∧ va_AO gO5 U ∧ va_AO gO6 U ∧ va_AO gO7 U ∧ va_AO gO8 U
theorem gAO_moved {u U : State} (hvm : u.vm.Alike U.vm) (h : gAO u) : gAO U := ⟨h.1.moved hvm, h.2.1.moved hvm, h.2.2.1.moved hvm, h.2.2.2.1.moved hvm, h.2.2.2.2.moved hvm⟩
def gTens (j : Nat) : Value := .long (Int64.ofNat (10 ^ j))
def gR (d mc ms : Nat) : Room := { frames := d, cells := mc, slots := ms, locals := 40 * d }
/-- a callee's start, beside its world -/
def gKb (D : va_G) (ty : Nat → ClassId) (tt : Nat) (ws : va_W) (U : State) : Prop := gNw U ∧ va_K D vwCl (gTy ty) U ∧ gAO U ∧ va_Z gFB "TENS" "[J" (.ref tt) (va_A ws U.heap.size) U U.heap ∧ va_T .long tt 17 gTens (va_A ws U.heap.size) U U.heap
theorem gKb_calling {D : va_G} {ty : Nat → ClassId} {tt : Nat} {ws : va_W} {U : State} (g : JFrame) (mk : MethodId) (a : Array Value) (h : gKb D ty tt ws U) : gKb D ty tt ws (U.calling g mk a) :=
  ⟨gNw_same (u := U) (U := U.calling g mk a) rfl h.1, va_K.moved (u := U) (U := U.calling g mk a) (Vm.Alike.refl U.vm) h.2.1, gAO_moved (u := U) (U := U.calling g mk a) (Vm.Alike.refl U.vm) h.2.2.1, va_Z.moved (u := U) (U := U.calling g mk a) (Vm.Alike.refl U.vm) h.2.2.2.1, va_T.moved (u := U) (U := U.calling g mk a) (Vm.Alike.refl U.vm) h.2.2.2.2⟩
/-- what holds all through a method -/
def gK (p : Program) (s : State) (m : MethodId) (args : Array Value) (c : Code) (cc : ByteArray) (nL : Nat) (own : String) (D : va_G) (ty : Nat → ClassId) (tt : Nat) (A : Nat → Prop) : Prop :=
  p.tables.exec = Jvm.exec ∧ c.code = cc ∧ c.maxLocals = nL ∧ s.vm.findClass own = some m.cls ∧ (∀ w ∈ gB, w.before args s = true) ∧ (∀ q, s.heap.size ≤ q → A q) ∧ gNw s ∧ va_K D vwCl (gTy ty) s ∧ gAO s ∧ va_Z gFB "TENS" "[J" (.ref tt) A s s.heap ∧ va_T .long tt 17 gTens A s s.heap
def gG (p : Program) (l : Launch) (e : Env) (R : Room) (s : State) (m : MethodId) (args : Array Value) (below : List Frame) (meth : Method) (c : Code) (nL : Nat) (D : va_G) (A : Nat → Prop) (Q : State → Prop) (k n : Nat) (ws : va_W) (L : List (Option Value)) (st : List Value) (pc : Nat) : Prop :=
  ∀ (H : Heap) (locs : List Loc) (ls : Array Slot), gL ls nL L → va_P D vwCl ws H → va_D A ws → va_S A s.heap H locs → W p l e R s m args below meth c H locs k n Q (F0 m pc ls st)
theorem gFree {A : Nat → Prop} {ws : va_W} {H0 H : Heap} {locs : List Loc} (hD : va_D A ws) (hS : va_S A H0 H locs) (hA : ∀ q, H0.size ≤ q → A q) : ∀ q, va_A ws H.size q → A q := by
  intro q h
  rcases h with ⟨k, e, h⟩ | h
  · exact hD.2 k (q, e) h
  · exact hA q (Nat.le_trans hS.1 h)
theorem gKb_at {s U : State} {D : va_G} {ty : Nat → ClassId} {tt : Nat} {A : Nat → Prop} {ws : va_W} {H : Heap} {locs : List Loc} (hA : ∀ q, s.heap.size ≤ q → A q) (hN : gNw s) (hK : va_K D vwCl (gTy ty) s) (hO : gAO s) (hZ : va_Z gFB "TENS" "[J" (.ref tt) A s s.heap) (hT : va_T .long tt 17 gTens A s s.heap) (hD : va_D A ws) (hS : va_S A s.heap H locs) (hU : U.heap = H) (hW : s.WarmedH U.vm) : gKb D ty tt ws U := by
  have hF := gFree hD hS hA
  refine ⟨gNw_warm hW hN, va_K.moved hW.alike hK, gAO_moved hW.alike hO, ?_, ?_⟩
  · rw [hU]
    exact ((hZ.moved hW.alike).kept (fun a h1 h2 => hS.2.1 a h1 h2)).narrow hF
  · rw [hU]
    exact ((hT.moved hW.alike).kept (fun a h1 h2 => hS.2.1 a h1 h2)).narrow hF
/-- a method's end -/
def gQ (D : va_G) (ws : va_W) (sz : Nat) (Post : Option Value → va_W → Prop) : Array Value → State → Outcome → State → Prop := fun _ st oc t => (∃ (v : Option Value) (w : va_W), oc = .returned v ∧ Post v w ∧ va_P D vwCl w t.heap ∧ va_D (va_A ws sz) w) ∧ va_F (va_A ws sz) st t
/-- a method's contract: in any heap with the world ws, from these arguments: it ends, with an answer and a world of which Post says what they are -/
def Ct (l : Launch) (y : MethodName) (b : ByteArray) (mL : Nat) (ret : Option FieldType) (d mc ms : Nat) (D : va_G) (ty : Nat → ClassId) (tt : Nat) (av : List Value) (ws : va_W) (Post : Option Value → va_W → Prop) : Prop :=
  ∀ sz : Nat, Met l y (.code y b mL ret :: gB) (gR d mc ms) (va_Pc av (fun U => U.heap.size = sz ∧ va_P D vwCl ws U.heap ∧ va_D (fun _ => True) ws ∧ gKb D ty tt ws U)) (gQ D ws sz Post) mc ms (va_A ws sz)
/-- the same, of an answer and a world that are known -/
def Cd (l : Launch) (y : MethodName) (b : ByteArray) (mL : Nat) (ret : Option FieldType) (d : Nat) (D : va_G) (ty : Nat → ClassId) (tt : Nat) (av : List Value) (ws : va_W) (v : Option Value) (w : va_W) : Prop := Ct l y b mL ret d 0 0 D ty tt av ws (fun v1 w1 => v1 = v ∧ w1 = w)
abbrev gE (D : va_G) (below : List Frame) (ws : va_W) (Post : Option Value → va_W → Prop) (args : Array Value) (s : State) (mc ms : Nat) : State → Prop := MQ below (gQ D ws s.heap.size Post) args s mc ms (va_A ws s.heap.size)
theorem Ct_of {l : Launch} {y : MethodName} {b : ByteArray} {mL : Nat} {ret : Option FieldType} {d mc ms : Nat} {D : va_G} {ty : Nat → ClassId} {tt : Nat} {av : List Value} {ws : va_W} {Post : Option Value → va_W → Prop} (hy : plainName y.cls = true) (hn : (lg_sl av).length ≤ mL)
    (h : ∀ (p : Program) (e : Env) (s : State) (m : MethodId) (args : Array Value) (below : List Frame) (meth : Method) (c : Code), gK p s m args c b mL y.cls D ty tt (va_A ws s.heap.size) → meth.sig.returnType = ret → meth.locks = false → meth.name = y.name → gG p l e (gR d mc ms) s m args below meth c mL D (va_A ws s.heap.size) (gE D below ws Post args s mc ms) 0 0 ws (gI mL av) [] 0) : Ct l y b mL ret d mc ms D ty tt av ws Post := by
  intro sz
  refine Met.ofW (cc := b) (maxL := mL) (ret := ret) hy rfl ?_
  intro p e s m args below meth c s₁ B hml hv
  obtain ⟨rfl, hsz, hP, hD0, hN, hK, hO, hZ, hT⟩ := hv
  have hts := atoms_spec (ws := .code y b mL ret :: gB) B.pre
  subst hsz
  have hD := hD0.self (sz := s.heap.size)
  rw [lg_entry_eq]
  exact h p e s m av.toArray below meth c ⟨B.exec, B.bytes, hml, findClass_of_methodNamed B.named, fun w hw => hts w (List.mem_cons_of_mem _ hw), fun q hq => Or.inr hq, hN, hK, hO, hZ, hT⟩ B.returns B.notSynchronized (name_of_methodNamed B.named B.method).1 s.heap [] _ (gI_start av hn) hP hD va_S.rf
section GR
variable {p : Program} {l : Launch} {e : Env} {R : Room} {s : State} {m : MethodId} {args : Array Value} {below : List Frame} {meth : Method} {c : Code} {Q : State → Prop} {k n : Nat}
variable {cc : ByteArray} {nL : Nat} {own : String} {D : va_G} {ty : Nat → ClassId} {tt : Nat} {A : Nat → Prop} {ws : va_W} {L : List (Option Value)} {st : List Value} {pc : Nat}
theorem gx_iconst (K : gK p s m args c cc nL own D ty tt A) {a : Int} {v : Int32} (hd : decode cc pc = .ok (.iconst a, 1)) (hv : Int32.ofInt a = v)
    (h : gG p l e R s m args below meth c nL D A Q k n (ws) (L) (.int v :: st) (pc + 1)) : gG p l e R s m args below meth c nL D A Q k n (ws) (L) (st) (pc) :=
  fun H locs ls hL hP hD hS => lv_iconst K.1 K.2.1 hd hv (h H locs ls hL hP hD hS)
theorem gx_bipush (K : gK p s m args c cc nL own D ty tt A) {a : Int} {v : Int32} (hd : decode cc pc = .ok (.bipush a, 2)) (hv : (Int8.ofInt a).toInt32 = v)
    (h : gG p l e R s m args below meth c nL D A Q k n (ws) (L) (.int v :: st) (pc + 2)) : gG p l e R s m args below meth c nL D A Q k n (ws) (L) (st) (pc) :=
  fun H locs ls hL hP hD hS => lv_bipush K.1 K.2.1 hd hv (h H locs ls hL hP hD hS)
theorem gx_sipush (K : gK p s m args c cc nL own D ty tt A) {a : Int} {v : Int32} (hd : decode cc pc = .ok (.sipush a, 3)) (hv : (Int16.ofInt a).toInt32 = v)
    (h : gG p l e R s m args below meth c nL D A Q k n (ws) (L) (.int v :: st) (pc + 3)) : gG p l e R s m args below meth c nL D A Q k n (ws) (L) (st) (pc) :=
  fun H locs ls hL hP hD hS => lv_sipush K.1 K.2.1 hd hv (h H locs ls hL hP hD hS)
theorem gx_lconst (K : gK p s m args c cc nL own D ty tt A) {a : Fin 2} {v : Int64} (hd : decode cc pc = .ok (.lconst a, 1)) (hv : Int64.ofNat (a : Nat) = v)
    (h : gG p l e R s m args below meth c nL D A Q k n (ws) (L) (.long v :: st) (pc + 1)) : gG p l e R s m args below meth c nL D A Q k n (ws) (L) (st) (pc) :=
  fun H locs ls hL hP hD hS => lv_lconst K.1 K.2.1 hd hv (h H locs ls hL hP hD hS)
theorem gx_null (K : gK p s m args c cc nL own D ty tt A)  (hd : decode cc pc = .ok (.aconst_null, 1))
    (h : gG p l e R s m args below meth c nL D A Q k n (ws) (L) (.null :: st) (pc + 1)) : gG p l e R s m args below meth c nL D A Q k n (ws) (L) (st) (pc) :=
  fun H locs ls hL hP hD hS => lv_null K.1 K.2.1 hd (h H locs ls hL hP hD hS)
theorem gx_iload_n (K : gK p s m args c cc nL own D ty tt A) {a : Fin 4} {i : Nat} {x : Int32} (hd : decode cc pc = .ok (.iload_n a, 1)) (hi : (a : Nat) = i) (hl : L[i]? = some (some (.int x)))
    (h : gG p l e R s m args below meth c nL D A Q k n (ws) (L) (.int x :: st) (pc + 1)) : gG p l e R s m args below meth c nL D A Q k n (ws) (L) (st) (pc) :=
  fun H locs ls hL hP hD hS => lv_iload_n K.1 K.2.1 hd hi (hL.2.2 _ _ hl) (h H locs ls hL hP hD hS)
theorem gx_iload (K : gK p s m args c cc nL own D ty tt A) {i : Nat} {x : Int32} (hd : decode cc pc = .ok (.iload i, 2)) (hl : L[i]? = some (some (.int x)))
    (h : gG p l e R s m args below meth c nL D A Q k n (ws) (L) (.int x :: st) (pc + 2)) : gG p l e R s m args below meth c nL D A Q k n (ws) (L) (st) (pc) :=
  fun H locs ls hL hP hD hS => lv_iload K.1 K.2.1 hd (hL.2.2 _ _ hl) (h H locs ls hL hP hD hS)
theorem gx_lload_n (K : gK p s m args c cc nL own D ty tt A) {a : Fin 4} {i : Nat} {x : Int64} (hd : decode cc pc = .ok (.lload_n a, 1)) (hi : (a : Nat) = i) (hl : L[i]? = some (some (.long x)))
    (h : gG p l e R s m args below meth c nL D A Q k n (ws) (L) (.long x :: st) (pc + 1)) : gG p l e R s m args below meth c nL D A Q k n (ws) (L) (st) (pc) :=
  fun H locs ls hL hP hD hS => lv_lload_n K.1 K.2.1 hd hi (hL.2.2 _ _ hl) (h H locs ls hL hP hD hS)
theorem gx_lload (K : gK p s m args c cc nL own D ty tt A) {i : Nat} {x : Int64} (hd : decode cc pc = .ok (.lload i, 2)) (hl : L[i]? = some (some (.long x)))
    (h : gG p l e R s m args below meth c nL D A Q k n (ws) (L) (.long x :: st) (pc + 2)) : gG p l e R s m args below meth c nL D A Q k n (ws) (L) (st) (pc) :=
  fun H locs ls hL hP hD hS => lv_lload K.1 K.2.1 hd (hL.2.2 _ _ hl) (h H locs ls hL hP hD hS)
theorem gx_aload_n (K : gK p s m args c cc nL own D ty tt A) {a : Fin 4} {i : Nat} {x : Nat} (hd : decode cc pc = .ok (.aload_n a, 1)) (hi : (a : Nat) = i) (hl : L[i]? = some (some (.ref x)))
    (h : gG p l e R s m args below meth c nL D A Q k n (ws) (L) (.ref x :: st) (pc + 1)) : gG p l e R s m args below meth c nL D A Q k n (ws) (L) (st) (pc) :=
  fun H locs ls hL hP hD hS => lv_aload_n K.1 K.2.1 hd hi (hL.2.2 _ _ hl) (h H locs ls hL hP hD hS)
theorem gx_aload (K : gK p s m args c cc nL own D ty tt A) {i : Nat} {x : Nat} (hd : decode cc pc = .ok (.aload i, 2)) (hl : L[i]? = some (some (.ref x)))
    (h : gG p l e R s m args below meth c nL D A Q k n (ws) (L) (.ref x :: st) (pc + 2)) : gG p l e R s m args below meth c nL D A Q k n (ws) (L) (st) (pc) :=
  fun H locs ls hL hP hD hS => lv_aload K.1 K.2.1 hd (hL.2.2 _ _ hl) (h H locs ls hL hP hD hS)
theorem gx_aload_nN (K : gK p s m args c cc nL own D ty tt A) {a : Fin 4} {i : Nat} (hd : decode cc pc = .ok (.aload_n a, 1)) (hi : (a : Nat) = i) (hl : L[i]? = some (some .null))
    (h : gG p l e R s m args below meth c nL D A Q k n (ws) (L) (.null :: st) (pc + 1)) : gG p l e R s m args below meth c nL D A Q k n (ws) (L) (st) (pc) :=
  fun H locs ls hL hP hD hS => lv_aload_nN K.1 K.2.1 hd hi (hL.2.2 _ _ hl) (h H locs ls hL hP hD hS)
theorem gx_aloadN (K : gK p s m args c cc nL own D ty tt A) {i : Nat} (hd : decode cc pc = .ok (.aload i, 2)) (hl : L[i]? = some (some .null))
    (h : gG p l e R s m args below meth c nL D A Q k n (ws) (L) (.null :: st) (pc + 2)) : gG p l e R s m args below meth c nL D A Q k n (ws) (L) (st) (pc) :=
  fun H locs ls hL hP hD hS => lv_aloadN K.1 K.2.1 hd (hL.2.2 _ _ hl) (h H locs ls hL hP hD hS)
theorem gx_istore_n (K : gK p s m args c cc nL own D ty tt A) {a : Fin 4} {i : Nat} {x : Int32} (hd : decode cc pc = .ok (.istore_n a, 1)) (hi : (a : Nat) = i) (hn : i < nL) (hp : gPv L i = true)
    (h : gG p l e R s m args below meth c nL D A Q k n (ws) (L.set i (some (.int x))) (st) (pc + 1)) : gG p l e R s m args below meth c nL D A Q k n (ws) (L) (.int x :: st) (pc) :=
  fun H locs ls hL hP hD hS => lv_istore_n K.1 K.2.1 hd hi (gL_has hL) hn rfl (fun ls' h' => h H locs ls' (gL_set1 h' hp) hP hD hS)
theorem gx_istore (K : gK p s m args c cc nL own D ty tt A) {i : Nat} {x : Int32} (hd : decode cc pc = .ok (.istore i, 2)) (hn : i < nL) (hp : gPv L i = true)
    (h : gG p l e R s m args below meth c nL D A Q k n (ws) (L.set i (some (.int x))) (st) (pc + 2)) : gG p l e R s m args below meth c nL D A Q k n (ws) (L) (.int x :: st) (pc) :=
  fun H locs ls hL hP hD hS => lv_istore K.1 K.2.1 hd (gL_has hL) hn rfl (fun ls' h' => h H locs ls' (gL_set1 h' hp) hP hD hS)
theorem gx_astore_n (K : gK p s m args c cc nL own D ty tt A) {a : Fin 4} {i : Nat} {x : Nat} (hd : decode cc pc = .ok (.astore_n a, 1)) (hi : (a : Nat) = i) (hn : i < nL) (hp : gPv L i = true)
    (h : gG p l e R s m args below meth c nL D A Q k n (ws) (L.set i (some (.ref x))) (st) (pc + 1)) : gG p l e R s m args below meth c nL D A Q k n (ws) (L) (.ref x :: st) (pc) :=
  fun H locs ls hL hP hD hS => lv_astore_n K.1 K.2.1 hd hi (gL_has hL) hn rfl (fun ls' h' => h H locs ls' (gL_set1 h' hp) hP hD hS)
theorem gx_astore (K : gK p s m args c cc nL own D ty tt A) {i : Nat} {x : Nat} (hd : decode cc pc = .ok (.astore i, 2)) (hn : i < nL) (hp : gPv L i = true)
    (h : gG p l e R s m args below meth c nL D A Q k n (ws) (L.set i (some (.ref x))) (st) (pc + 2)) : gG p l e R s m args below meth c nL D A Q k n (ws) (L) (.ref x :: st) (pc) :=
  fun H locs ls hL hP hD hS => lv_astore K.1 K.2.1 hd (gL_has hL) hn rfl (fun ls' h' => h H locs ls' (gL_set1 h' hp) hP hD hS)
theorem gx_astoreN_n (K : gK p s m args c cc nL own D ty tt A) {a : Fin 4} {i : Nat}  (hd : decode cc pc = .ok (.astore_n a, 1)) (hi : (a : Nat) = i) (hn : i < nL) (hp : gPv L i = true)
    (h : gG p l e R s m args below meth c nL D A Q k n (ws) (L.set i (some (.null))) (st) (pc + 1)) : gG p l e R s m args below meth c nL D A Q k n (ws) (L) (.null :: st) (pc) :=
  fun H locs ls hL hP hD hS => lv_astore_nN K.1 K.2.1 hd hi (gL_has hL) hn rfl (fun ls' h' => h H locs ls' (gL_set1 h' hp) hP hD hS)
theorem gx_astoreN (K : gK p s m args c cc nL own D ty tt A) {i : Nat}  (hd : decode cc pc = .ok (.astore i, 2)) (hn : i < nL) (hp : gPv L i = true)
    (h : gG p l e R s m args below meth c nL D A Q k n (ws) (L.set i (some (.null))) (st) (pc + 2)) : gG p l e R s m args below meth c nL D A Q k n (ws) (L) (.null :: st) (pc) :=
  fun H locs ls hL hP hD hS => lv_astoreN K.1 K.2.1 hd (gL_has hL) hn rfl (fun ls' h' => h H locs ls' (gL_set1 h' hp) hP hD hS)
theorem gx_lstore_n (K : gK p s m args c cc nL own D ty tt A) {a : Fin 4} {i : Nat} {x : Int64} (hd : decode cc pc = .ok (.lstore_n a, 1)) (hi : (a : Nat) = i) (hn : i + 1 < nL) (hp : gPv L i = true)
    (h : gG p l e R s m args below meth c nL D A Q k n (ws) ((L.set i (some (.long x))).set (i + 1) none) (st) (pc + 1)) : gG p l e R s m args below meth c nL D A Q k n (ws) (L) (.long x :: st) (pc) :=
  fun H locs ls hL hP hD hS => lv_lstore_n K.1 K.2.1 hd hi (gL_has hL) hn rfl (fun ls' h' => h H locs ls' (gL_set2 h' hp) hP hD hS)
theorem gx_lstore (K : gK p s m args c cc nL own D ty tt A) {i : Nat} {x : Int64} (hd : decode cc pc = .ok (.lstore i, 2)) (hn : i + 1 < nL) (hp : gPv L i = true)
    (h : gG p l e R s m args below meth c nL D A Q k n (ws) ((L.set i (some (.long x))).set (i + 1) none) (st) (pc + 2)) : gG p l e R s m args below meth c nL D A Q k n (ws) (L) (.long x :: st) (pc) :=
  fun H locs ls hL hP hD hS => lv_lstore K.1 K.2.1 hd (gL_has hL) hn rfl (fun ls' h' => h H locs ls' (gL_set2 h' hp) hP hD hS)
theorem gx_iinc (K : gK p s m args c cc nL own D ty tt A) {i : Nat} {a : Int} {x v : Int32} (hd : decode cc pc = .ok (.iinc i a, 3)) (hl : L[i]? = some (some (.int x))) (hv : x + Int32.ofInt a = v) (hn : i < nL) (hp : gPv L i = true)
    (h : gG p l e R s m args below meth c nL D A Q k n (ws) (L.set i (some (.int v))) (st) (pc + 3)) : gG p l e R s m args below meth c nL D A Q k n (ws) (L) (st) (pc) := by
  intro H locs ls hL hP hD hS
  obtain ⟨j, hj⟩ := List.getElem?_of_mem (gAl_mem hl)
  exact lv_iinc K.1 K.2.1 hd (gL_has hL) hj hv hn rfl (fun ls' h' => h H locs ls' (gL_set1 h' hp) hP hD hS)
theorem gx_iadd (K : gK p s m args c cc nL own D ty tt A) {x y : Int32} (hd : decode cc pc = .ok (.iadd, 1))
    (h : gG p l e R s m args below meth c nL D A Q k n (ws) (L) (.int (x + y) :: st) (pc + 1)) : gG p l e R s m args below meth c nL D A Q k n (ws) (L) (.int y :: .int x :: st) (pc) :=
  fun H locs ls hL hP hD hS => lv_iadd K.1 K.2.1 hd (h H locs ls hL hP hD hS)
theorem gx_isub (K : gK p s m args c cc nL own D ty tt A) {x y : Int32} (hd : decode cc pc = .ok (.isub, 1))
    (h : gG p l e R s m args below meth c nL D A Q k n (ws) (L) (.int (x - y) :: st) (pc + 1)) : gG p l e R s m args below meth c nL D A Q k n (ws) (L) (.int y :: .int x :: st) (pc) :=
  fun H locs ls hL hP hD hS => lv_isub K.1 K.2.1 hd (h H locs ls hL hP hD hS)
theorem gx_imul (K : gK p s m args c cc nL own D ty tt A) {x y : Int32} (hd : decode cc pc = .ok (.imul, 1))
    (h : gG p l e R s m args below meth c nL D A Q k n (ws) (L) (.int (x * y) :: st) (pc + 1)) : gG p l e R s m args below meth c nL D A Q k n (ws) (L) (.int y :: .int x :: st) (pc) :=
  fun H locs ls hL hP hD hS => lv_imul K.1 K.2.1 hd (h H locs ls hL hP hD hS)
theorem gx_iand (K : gK p s m args c cc nL own D ty tt A) {x y : Int32} (hd : decode cc pc = .ok (.iand, 1))
    (h : gG p l e R s m args below meth c nL D A Q k n (ws) (L) (.int (x &&& y) :: st) (pc + 1)) : gG p l e R s m args below meth c nL D A Q k n (ws) (L) (.int y :: .int x :: st) (pc) :=
  fun H locs ls hL hP hD hS => lv_iand K.1 K.2.1 hd (h H locs ls hL hP hD hS)
theorem gx_ior (K : gK p s m args c cc nL own D ty tt A) {x y : Int32} (hd : decode cc pc = .ok (.ior, 1))
    (h : gG p l e R s m args below meth c nL D A Q k n (ws) (L) (.int (x ||| y) :: st) (pc + 1)) : gG p l e R s m args below meth c nL D A Q k n (ws) (L) (.int y :: .int x :: st) (pc) :=
  fun H locs ls hL hP hD hS => lv_ior K.1 K.2.1 hd (h H locs ls hL hP hD hS)
theorem gx_ishl (K : gK p s m args c cc nL own D ty tt A) {x y : Int32} (hd : decode cc pc = .ok (.ishl, 1))
    (h : gG p l e R s m args below meth c nL D A Q k n (ws) (L) (.int (x <<< (y &&& 31)) :: st) (pc + 1)) : gG p l e R s m args below meth c nL D A Q k n (ws) (L) (.int y :: .int x :: st) (pc) :=
  fun H locs ls hL hP hD hS => lv_ishl K.1 K.2.1 hd (h H locs ls hL hP hD hS)
theorem gx_ishr (K : gK p s m args c cc nL own D ty tt A) {x y : Int32} (hd : decode cc pc = .ok (.ishr, 1))
    (h : gG p l e R s m args below meth c nL D A Q k n (ws) (L) (.int (x >>> (y &&& 31)) :: st) (pc + 1)) : gG p l e R s m args below meth c nL D A Q k n (ws) (L) (.int y :: .int x :: st) (pc) :=
  fun H locs ls hL hP hD hS => lv_ishr K.1 K.2.1 hd (h H locs ls hL hP hD hS)
theorem gx_idiv (K : gK p s m args c cc nL own D ty tt A) {x y : Int32} (hd : decode cc pc = .ok (.idiv, 1)) (hne : ¬ y = 0)
    (h : gG p l e R s m args below meth c nL D A Q k n (ws) (L) (.int (x / y) :: st) (pc + 1)) : gG p l e R s m args below meth c nL D A Q k n (ws) (L) (.int y :: .int x :: st) (pc) :=
  fun H locs ls hL hP hD hS => lv_idiv K.1 K.2.1 hd hne (h H locs ls hL hP hD hS)
theorem gx_irem (K : gK p s m args c cc nL own D ty tt A) {x y : Int32} (hd : decode cc pc = .ok (.irem, 1)) (hne : ¬ y = 0)
    (h : gG p l e R s m args below meth c nL D A Q k n (ws) (L) (.int (x - x / y * y) :: st) (pc + 1)) : gG p l e R s m args below meth c nL D A Q k n (ws) (L) (.int y :: .int x :: st) (pc) :=
  fun H locs ls hL hP hD hS => lv_irem K.1 K.2.1 hd hne (h H locs ls hL hP hD hS)
theorem gx_ladd (K : gK p s m args c cc nL own D ty tt A) {x y : Int64} (hd : decode cc pc = .ok (.ladd, 1))
    (h : gG p l e R s m args below meth c nL D A Q k n (ws) (L) (.long (x + y) :: st) (pc + 1)) : gG p l e R s m args below meth c nL D A Q k n (ws) (L) (.long y :: .long x :: st) (pc) :=
  fun H locs ls hL hP hD hS => lv_ladd K.1 K.2.1 hd (h H locs ls hL hP hD hS)
theorem gx_lsub (K : gK p s m args c cc nL own D ty tt A) {x y : Int64} (hd : decode cc pc = .ok (.lsub, 1))
    (h : gG p l e R s m args below meth c nL D A Q k n (ws) (L) (.long (x - y) :: st) (pc + 1)) : gG p l e R s m args below meth c nL D A Q k n (ws) (L) (.long y :: .long x :: st) (pc) :=
  fun H locs ls hL hP hD hS => lv_lsub K.1 K.2.1 hd (h H locs ls hL hP hD hS)
theorem gx_lmul (K : gK p s m args c cc nL own D ty tt A) {x y : Int64} (hd : decode cc pc = .ok (.lmul, 1))
    (h : gG p l e R s m args below meth c nL D A Q k n (ws) (L) (.long (x * y) :: st) (pc + 1)) : gG p l e R s m args below meth c nL D A Q k n (ws) (L) (.long y :: .long x :: st) (pc) :=
  fun H locs ls hL hP hD hS => lv_lmul K.1 K.2.1 hd (h H locs ls hL hP hD hS)
theorem gx_land (K : gK p s m args c cc nL own D ty tt A) {x y : Int64} (hd : decode cc pc = .ok (.land, 1))
    (h : gG p l e R s m args below meth c nL D A Q k n (ws) (L) (.long (x &&& y) :: st) (pc + 1)) : gG p l e R s m args below meth c nL D A Q k n (ws) (L) (.long y :: .long x :: st) (pc) :=
  fun H locs ls hL hP hD hS => lv_land K.1 K.2.1 hd (h H locs ls hL hP hD hS)
theorem gx_lxor (K : gK p s m args c cc nL own D ty tt A) {x y : Int64} (hd : decode cc pc = .ok (.lxor, 1))
    (h : gG p l e R s m args below meth c nL D A Q k n (ws) (L) (.long (x ^^^ y) :: st) (pc + 1)) : gG p l e R s m args below meth c nL D A Q k n (ws) (L) (.long y :: .long x :: st) (pc) :=
  fun H locs ls hL hP hD hS => lv_lxor K.1 K.2.1 hd (h H locs ls hL hP hD hS)
theorem gx_ldiv (K : gK p s m args c cc nL own D ty tt A) {x y : Int64} (hd : decode cc pc = .ok (.ldiv, 1)) (hne : ¬ y = 0)
    (h : gG p l e R s m args below meth c nL D A Q k n (ws) (L) (.long (x / y) :: st) (pc + 1)) : gG p l e R s m args below meth c nL D A Q k n (ws) (L) (.long y :: .long x :: st) (pc) :=
  fun H locs ls hL hP hD hS => lv_ldiv K.1 K.2.1 hd hne (h H locs ls hL hP hD hS)
theorem gx_lrem (K : gK p s m args c cc nL own D ty tt A) {x y : Int64} (hd : decode cc pc = .ok (.lrem, 1)) (hne : ¬ y = 0)
    (h : gG p l e R s m args below meth c nL D A Q k n (ws) (L) (.long (x - x / y * y) :: st) (pc + 1)) : gG p l e R s m args below meth c nL D A Q k n (ws) (L) (.long y :: .long x :: st) (pc) :=
  fun H locs ls hL hP hD hS => lv_lrem K.1 K.2.1 hd hne (h H locs ls hL hP hD hS)
theorem gx_ineg (K : gK p s m args c cc nL own D ty tt A) {x : Int32} (hd : decode cc pc = .ok (.ineg, 1))
    (h : gG p l e R s m args below meth c nL D A Q k n (ws) (L) (.int (-x) :: st) (pc + 1)) : gG p l e R s m args below meth c nL D A Q k n (ws) (L) (.int x :: st) (pc) :=
  fun H locs ls hL hP hD hS => lv_ineg K.1 K.2.1 hd (h H locs ls hL hP hD hS)
theorem gx_lneg (K : gK p s m args c cc nL own D ty tt A) {x : Int64} (hd : decode cc pc = .ok (.lneg, 1))
    (h : gG p l e R s m args below meth c nL D A Q k n (ws) (L) (.long (-x) :: st) (pc + 1)) : gG p l e R s m args below meth c nL D A Q k n (ws) (L) (.long x :: st) (pc) :=
  fun H locs ls hL hP hD hS => lv_lneg K.1 K.2.1 hd (h H locs ls hL hP hD hS)
theorem gx_i2l (K : gK p s m args c cc nL own D ty tt A) {x : Int32} (hd : decode cc pc = .ok (.i2l, 1))
    (h : gG p l e R s m args below meth c nL D A Q k n (ws) (L) (.long x.toInt64 :: st) (pc + 1)) : gG p l e R s m args below meth c nL D A Q k n (ws) (L) (.int x :: st) (pc) :=
  fun H locs ls hL hP hD hS => lv_i2l K.1 K.2.1 hd rfl (h H locs ls hL hP hD hS)
theorem gx_i2c (K : gK p s m args c cc nL own D ty tt A) {x : Int32} (hd : decode cc pc = .ok (.i2c, 1))
    (h : gG p l e R s m args below meth c nL D A Q k n (ws) (L) (.int (x.toUInt32 % 65536).toInt32 :: st) (pc + 1)) : gG p l e R s m args below meth c nL D A Q k n (ws) (L) (.int x :: st) (pc) :=
  fun H locs ls hL hP hD hS => lv_i2c K.1 K.2.1 hd rfl (h H locs ls hL hP hD hS)
theorem gx_lcmp (K : gK p s m args c cc nL own D ty tt A) {x y : Int64} (hd : decode cc pc = .ok (.lcmp, 1))
    (h : gG p l e R s m args below meth c nL D A Q k n (ws) (L) (.int (lg_cmp x y) :: st) (pc + 1)) : gG p l e R s m args below meth c nL D A Q k n (ws) (L) (.long y :: .long x :: st) (pc) :=
  fun H locs ls hL hP hD hS => W.lcmp K.1 K.2.1 hd (h H locs ls hL hP hD hS)
theorem gx_dup (K : gK p s m args c cc nL own D ty tt A) {v : Value} (hd : decode cc pc = .ok (.dup, 1)) (hv : v.category = 1)
    (h : gG p l e R s m args below meth c nL D A Q k n (ws) (L) (v :: v :: st) (pc + 1)) : gG p l e R s m args below meth c nL D A Q k n (ws) (L) (v :: st) (pc) :=
  fun H locs ls hL hP hD hS => lv_dup K.1 K.2.1 hd hv (h H locs ls hL hP hD hS)
theorem gx_pop (K : gK p s m args c cc nL own D ty tt A) {v : Value} (hd : decode cc pc = .ok (.pop, 1)) (hv : v.category = 1)
    (h : gG p l e R s m args below meth c nL D A Q k n (ws) (L) (st) (pc + 1)) : gG p l e R s m args below meth c nL D A Q k n (ws) (L) (v :: st) (pc) :=
  fun H locs ls hL hP hD hS => lv_pop K.1 K.2.1 hd hv (h H locs ls hL hP hD hS)
theorem gx_dup_x1 (K : gK p s m args c cc nL own D ty tt A) {v w : Value} (hd : decode cc pc = .ok (.dup_x1, 1)) (hv : v.category = 1) (hw : w.category = 1)
    (h : gG p l e R s m args below meth c nL D A Q k n (ws) (L) (v :: w :: v :: st) (pc + 1)) : gG p l e R s m args below meth c nL D A Q k n (ws) (L) (v :: w :: st) (pc) :=
  fun H locs ls hL hP hD hS => lv_dup_x1 K.1 K.2.1 hd hv hw (h H locs ls hL hP hD hS)
theorem gx_dup_x2 (K : gK p s m args c cc nL own D ty tt A) {v w u : Value} (hd : decode cc pc = .ok (.dup_x2, 1)) (hv : v.category = 1) (hw : w.category = 1) (hu : u.category = 1)
    (h : gG p l e R s m args below meth c nL D A Q k n (ws) (L) (v :: w :: u :: v :: st) (pc + 1)) : gG p l e R s m args below meth c nL D A Q k n (ws) (L) (v :: w :: u :: st) (pc) :=
  fun H locs ls hL hP hD hS => lv_dup_x2 K.1 K.2.1 hd hv hw hu (h H locs ls hL hP hD hS)
theorem gx_dup2 (K : gK p s m args c cc nL own D ty tt A) {v w : Value} (hd : decode cc pc = .ok (.dup2, 1)) (hv : v.category = 1) (hw : w.category = 1)
    (h : gG p l e R s m args below meth c nL D A Q k n (ws) (L) (v :: w :: v :: w :: st) (pc + 1)) : gG p l e R s m args below meth c nL D A Q k n (ws) (L) (v :: w :: st) (pc) :=
  fun H locs ls hL hP hD hS => lv_dup2_11 K.1 K.2.1 hd hv hw (h H locs ls hL hP hD hS)
theorem gx_dup2L (K : gK p s m args c cc nL own D ty tt A) {v : Value} (hd : decode cc pc = .ok (.dup2, 1)) (hv : v.category = 2)
    (h : gG p l e R s m args below meth c nL D A Q k n (ws) (L) (v :: v :: st) (pc + 1)) : gG p l e R s m args below meth c nL D A Q k n (ws) (L) (v :: st) (pc) :=
  fun H locs ls hL hP hD hS => lv_dup2_2 K.1 K.2.1 hd hv (h H locs ls hL hP hD hS)
theorem gx_ldc (K : gK p s m args c cc nL own D ty tt A) {idx : Nat} {v : Int32} (hd : decode cc pc = .ok (.ldc idx, 2)) (hw : Cond.constant own idx v ∈ gB)
    (h : gG p l e R s m args below meth c nL D A Q k n (ws) (L) (.int v :: st) (pc + 2)) : gG p l e R s m args below meth c nL D A Q k n (ws) (L) (st) (pc) :=
  fun H locs ls hL hP hD hS => lv_ldc K.1 K.2.1 K.2.2.2.1 (K.2.2.2.2.1 _ hw) hd (h H locs ls hL hP hD hS)
theorem gx_ldc2 (K : gK p s m args c cc nL own D ty tt A) {idx : Nat} {v : Int64} (hd : decode cc pc = .ok (.ldc2_w idx, 3)) (hw : Cond.constantLong own idx v ∈ gB)
    (h : gG p l e R s m args below meth c nL D A Q k n (ws) (L) (.long v :: st) (pc + 3)) : gG p l e R s m args below meth c nL D A Q k n (ws) (L) (st) (pc) :=
  fun H locs ls hL hP hD hS => lv_ldc2 K.1 K.2.1 K.2.2.2.1 (K.2.2.2.2.1 _ hw) hd (h H locs ls hL hP hD hS)
theorem gx_if_eq (K : gK p s m args c cc nL own D ty tt A) {x : Int32} {off : Int} {tgt : Nat} (hd : decode cc pc = .ok (.ifCond .eq off, 3)) (ht : (pc : Int) + off = (tgt : Int))
    (kt : x = 0 → gG p l e R s m args below meth c nL D A Q k n (ws) (L) (st) (tgt)) (kf : ¬ x = 0 → gG p l e R s m args below meth c nL D A Q k n (ws) (L) (st) (pc + 3)) : gG p l e R s m args below meth c nL D A Q k n (ws) (L) (.int x :: st) (pc) :=
  fun H locs ls hL hP hD hS => lv_if_eq K.1 K.2.1 hd ht (fun q => kt q H locs ls hL hP hD hS) (fun q => kf q H locs ls hL hP hD hS)
theorem gx_icmp_eq (K : gK p s m args c cc nL own D ty tt A) {x y : Int32} {off : Int} {tgt : Nat} (hd : decode cc pc = .ok (.if_icmp .eq off, 3)) (ht : (pc : Int) + off = (tgt : Int))
    (kt : x = y → gG p l e R s m args below meth c nL D A Q k n (ws) (L) (st) (tgt)) (kf : ¬ x = y → gG p l e R s m args below meth c nL D A Q k n (ws) (L) (st) (pc + 3)) : gG p l e R s m args below meth c nL D A Q k n (ws) (L) (.int y :: .int x :: st) (pc) :=
  fun H locs ls hL hP hD hS => lv_icmp_eq K.1 K.2.1 hd ht (fun q => kt q H locs ls hL hP hD hS) (fun q => kf q H locs ls hL hP hD hS)
theorem gx_if_ne (K : gK p s m args c cc nL own D ty tt A) {x : Int32} {off : Int} {tgt : Nat} (hd : decode cc pc = .ok (.ifCond .ne off, 3)) (ht : (pc : Int) + off = (tgt : Int))
    (kt : ¬ x = 0 → gG p l e R s m args below meth c nL D A Q k n (ws) (L) (st) (tgt)) (kf : x = 0 → gG p l e R s m args below meth c nL D A Q k n (ws) (L) (st) (pc + 3)) : gG p l e R s m args below meth c nL D A Q k n (ws) (L) (.int x :: st) (pc) :=
  fun H locs ls hL hP hD hS => lv_if_ne K.1 K.2.1 hd ht (fun q => kt q H locs ls hL hP hD hS) (fun q => kf q H locs ls hL hP hD hS)
theorem gx_icmp_ne (K : gK p s m args c cc nL own D ty tt A) {x y : Int32} {off : Int} {tgt : Nat} (hd : decode cc pc = .ok (.if_icmp .ne off, 3)) (ht : (pc : Int) + off = (tgt : Int))
    (kt : ¬ x = y → gG p l e R s m args below meth c nL D A Q k n (ws) (L) (st) (tgt)) (kf : x = y → gG p l e R s m args below meth c nL D A Q k n (ws) (L) (st) (pc + 3)) : gG p l e R s m args below meth c nL D A Q k n (ws) (L) (.int y :: .int x :: st) (pc) :=
  fun H locs ls hL hP hD hS => lv_icmp_ne K.1 K.2.1 hd ht (fun q => kt q H locs ls hL hP hD hS) (fun q => kf q H locs ls hL hP hD hS)
theorem gx_if_lt (K : gK p s m args c cc nL own D ty tt A) {x : Int32} {off : Int} {tgt : Nat} (hd : decode cc pc = .ok (.ifCond .lt off, 3)) (ht : (pc : Int) + off = (tgt : Int))
    (kt : x < 0 → gG p l e R s m args below meth c nL D A Q k n (ws) (L) (st) (tgt)) (kf : ¬ x < 0 → gG p l e R s m args below meth c nL D A Q k n (ws) (L) (st) (pc + 3)) : gG p l e R s m args below meth c nL D A Q k n (ws) (L) (.int x :: st) (pc) :=
  fun H locs ls hL hP hD hS => lv_if_lt K.1 K.2.1 hd ht (fun q => kt q H locs ls hL hP hD hS) (fun q => kf q H locs ls hL hP hD hS)
theorem gx_icmp_lt (K : gK p s m args c cc nL own D ty tt A) {x y : Int32} {off : Int} {tgt : Nat} (hd : decode cc pc = .ok (.if_icmp .lt off, 3)) (ht : (pc : Int) + off = (tgt : Int))
    (kt : x < y → gG p l e R s m args below meth c nL D A Q k n (ws) (L) (st) (tgt)) (kf : ¬ x < y → gG p l e R s m args below meth c nL D A Q k n (ws) (L) (st) (pc + 3)) : gG p l e R s m args below meth c nL D A Q k n (ws) (L) (.int y :: .int x :: st) (pc) :=
  fun H locs ls hL hP hD hS => lv_icmp_lt K.1 K.2.1 hd ht (fun q => kt q H locs ls hL hP hD hS) (fun q => kf q H locs ls hL hP hD hS)
theorem gx_if_ge (K : gK p s m args c cc nL own D ty tt A) {x : Int32} {off : Int} {tgt : Nat} (hd : decode cc pc = .ok (.ifCond .ge off, 3)) (ht : (pc : Int) + off = (tgt : Int))
    (kt : 0 ≤ x → gG p l e R s m args below meth c nL D A Q k n (ws) (L) (st) (tgt)) (kf : ¬ 0 ≤ x → gG p l e R s m args below meth c nL D A Q k n (ws) (L) (st) (pc + 3)) : gG p l e R s m args below meth c nL D A Q k n (ws) (L) (.int x :: st) (pc) :=
  fun H locs ls hL hP hD hS => lv_if_ge K.1 K.2.1 hd ht (fun q => kt q H locs ls hL hP hD hS) (fun q => kf q H locs ls hL hP hD hS)
theorem gx_icmp_ge (K : gK p s m args c cc nL own D ty tt A) {x y : Int32} {off : Int} {tgt : Nat} (hd : decode cc pc = .ok (.if_icmp .ge off, 3)) (ht : (pc : Int) + off = (tgt : Int))
    (kt : y ≤ x → gG p l e R s m args below meth c nL D A Q k n (ws) (L) (st) (tgt)) (kf : ¬ y ≤ x → gG p l e R s m args below meth c nL D A Q k n (ws) (L) (st) (pc + 3)) : gG p l e R s m args below meth c nL D A Q k n (ws) (L) (.int y :: .int x :: st) (pc) :=
  fun H locs ls hL hP hD hS => lv_icmp_ge K.1 K.2.1 hd ht (fun q => kt q H locs ls hL hP hD hS) (fun q => kf q H locs ls hL hP hD hS)
theorem gx_if_gt (K : gK p s m args c cc nL own D ty tt A) {x : Int32} {off : Int} {tgt : Nat} (hd : decode cc pc = .ok (.ifCond .gt off, 3)) (ht : (pc : Int) + off = (tgt : Int))
    (kt : 0 < x → gG p l e R s m args below meth c nL D A Q k n (ws) (L) (st) (tgt)) (kf : ¬ 0 < x → gG p l e R s m args below meth c nL D A Q k n (ws) (L) (st) (pc + 3)) : gG p l e R s m args below meth c nL D A Q k n (ws) (L) (.int x :: st) (pc) :=
  fun H locs ls hL hP hD hS => lv_if_gt K.1 K.2.1 hd ht (fun q => kt q H locs ls hL hP hD hS) (fun q => kf q H locs ls hL hP hD hS)
theorem gx_icmp_gt (K : gK p s m args c cc nL own D ty tt A) {x y : Int32} {off : Int} {tgt : Nat} (hd : decode cc pc = .ok (.if_icmp .gt off, 3)) (ht : (pc : Int) + off = (tgt : Int))
    (kt : y < x → gG p l e R s m args below meth c nL D A Q k n (ws) (L) (st) (tgt)) (kf : ¬ y < x → gG p l e R s m args below meth c nL D A Q k n (ws) (L) (st) (pc + 3)) : gG p l e R s m args below meth c nL D A Q k n (ws) (L) (.int y :: .int x :: st) (pc) :=
  fun H locs ls hL hP hD hS => lv_icmp_gt K.1 K.2.1 hd ht (fun q => kt q H locs ls hL hP hD hS) (fun q => kf q H locs ls hL hP hD hS)
theorem gx_if_le (K : gK p s m args c cc nL own D ty tt A) {x : Int32} {off : Int} {tgt : Nat} (hd : decode cc pc = .ok (.ifCond .le off, 3)) (ht : (pc : Int) + off = (tgt : Int))
    (kt : x ≤ 0 → gG p l e R s m args below meth c nL D A Q k n (ws) (L) (st) (tgt)) (kf : ¬ x ≤ 0 → gG p l e R s m args below meth c nL D A Q k n (ws) (L) (st) (pc + 3)) : gG p l e R s m args below meth c nL D A Q k n (ws) (L) (.int x :: st) (pc) :=
  fun H locs ls hL hP hD hS => lv_if_le K.1 K.2.1 hd ht (fun q => kt q H locs ls hL hP hD hS) (fun q => kf q H locs ls hL hP hD hS)
theorem gx_icmp_le (K : gK p s m args c cc nL own D ty tt A) {x y : Int32} {off : Int} {tgt : Nat} (hd : decode cc pc = .ok (.if_icmp .le off, 3)) (ht : (pc : Int) + off = (tgt : Int))
    (kt : x ≤ y → gG p l e R s m args below meth c nL D A Q k n (ws) (L) (st) (tgt)) (kf : ¬ x ≤ y → gG p l e R s m args below meth c nL D A Q k n (ws) (L) (st) (pc + 3)) : gG p l e R s m args below meth c nL D A Q k n (ws) (L) (.int y :: .int x :: st) (pc) :=
  fun H locs ls hL hP hD hS => lv_icmp_le K.1 K.2.1 hd ht (fun q => kt q H locs ls hL hP hD hS) (fun q => kf q H locs ls hL hP hD hS)
theorem gx_icmp_eqT (K : gK p s m args c cc nL own D ty tt A) {x y : Int32} {off : Int} {tgt : Nat} (hd : decode cc pc = .ok (.if_icmp .eq off, 3)) (ht : (pc : Int) + off = (tgt : Int)) (hc : x = y) (h : gG p l e R s m args below meth c nL D A Q k n (ws) (L) (st) (tgt)) : gG p l e R s m args below meth c nL D A Q k n (ws) (L) (.int y :: .int x :: st) (pc) :=
  gx_icmp_eq K hd ht (fun _ => h) (fun q => absurd hc q)
theorem gx_icmp_eqF (K : gK p s m args c cc nL own D ty tt A) {x y : Int32} {off : Int} {tgt : Nat} (hd : decode cc pc = .ok (.if_icmp .eq off, 3)) (ht : (pc : Int) + off = (tgt : Int)) (hc : ¬ x = y) (h : gG p l e R s m args below meth c nL D A Q k n (ws) (L) (st) (pc + 3)) : gG p l e R s m args below meth c nL D A Q k n (ws) (L) (.int y :: .int x :: st) (pc) :=
  gx_icmp_eq K hd ht (fun q => absurd q hc) (fun _ => h)
theorem gx_if_eqT (K : gK p s m args c cc nL own D ty tt A) {x : Int32} {off : Int} {tgt : Nat} (hd : decode cc pc = .ok (.ifCond .eq off, 3)) (ht : (pc : Int) + off = (tgt : Int)) (hc : x = 0) (h : gG p l e R s m args below meth c nL D A Q k n (ws) (L) (st) (tgt)) : gG p l e R s m args below meth c nL D A Q k n (ws) (L) (.int x :: st) (pc) :=
  gx_if_eq K hd ht (fun _ => h) (fun q => absurd hc q)
theorem gx_if_eqF (K : gK p s m args c cc nL own D ty tt A) {x : Int32} {off : Int} {tgt : Nat} (hd : decode cc pc = .ok (.ifCond .eq off, 3)) (ht : (pc : Int) + off = (tgt : Int)) (hc : ¬ x = 0) (h : gG p l e R s m args below meth c nL D A Q k n (ws) (L) (st) (pc + 3)) : gG p l e R s m args below meth c nL D A Q k n (ws) (L) (.int x :: st) (pc) :=
  gx_if_eq K hd ht (fun q => absurd q hc) (fun _ => h)
theorem gx_icmp_neT (K : gK p s m args c cc nL own D ty tt A) {x y : Int32} {off : Int} {tgt : Nat} (hd : decode cc pc = .ok (.if_icmp .ne off, 3)) (ht : (pc : Int) + off = (tgt : Int)) (hc : ¬ x = y) (h : gG p l e R s m args below meth c nL D A Q k n (ws) (L) (st) (tgt)) : gG p l e R s m args below meth c nL D A Q k n (ws) (L) (.int y :: .int x :: st) (pc) :=
  gx_icmp_ne K hd ht (fun _ => h) (fun q => absurd q hc)
theorem gx_icmp_neF (K : gK p s m args c cc nL own D ty tt A) {x y : Int32} {off : Int} {tgt : Nat} (hd : decode cc pc = .ok (.if_icmp .ne off, 3)) (ht : (pc : Int) + off = (tgt : Int)) (hc : x = y) (h : gG p l e R s m args below meth c nL D A Q k n (ws) (L) (st) (pc + 3)) : gG p l e R s m args below meth c nL D A Q k n (ws) (L) (.int y :: .int x :: st) (pc) :=
  gx_icmp_ne K hd ht (fun q => absurd hc q) (fun _ => h)
theorem gx_if_neT (K : gK p s m args c cc nL own D ty tt A) {x : Int32} {off : Int} {tgt : Nat} (hd : decode cc pc = .ok (.ifCond .ne off, 3)) (ht : (pc : Int) + off = (tgt : Int)) (hc : ¬ x = 0) (h : gG p l e R s m args below meth c nL D A Q k n (ws) (L) (st) (tgt)) : gG p l e R s m args below meth c nL D A Q k n (ws) (L) (.int x :: st) (pc) :=
  gx_if_ne K hd ht (fun _ => h) (fun q => absurd q hc)
theorem gx_if_neF (K : gK p s m args c cc nL own D ty tt A) {x : Int32} {off : Int} {tgt : Nat} (hd : decode cc pc = .ok (.ifCond .ne off, 3)) (ht : (pc : Int) + off = (tgt : Int)) (hc : x = 0) (h : gG p l e R s m args below meth c nL D A Q k n (ws) (L) (st) (pc + 3)) : gG p l e R s m args below meth c nL D A Q k n (ws) (L) (.int x :: st) (pc) :=
  gx_if_ne K hd ht (fun q => absurd hc q) (fun _ => h)
theorem gx_icmp_ltT (K : gK p s m args c cc nL own D ty tt A) {x y : Int32} {off : Int} {tgt : Nat} (hd : decode cc pc = .ok (.if_icmp .lt off, 3)) (ht : (pc : Int) + off = (tgt : Int)) (hc : x < y) (h : gG p l e R s m args below meth c nL D A Q k n (ws) (L) (st) (tgt)) : gG p l e R s m args below meth c nL D A Q k n (ws) (L) (.int y :: .int x :: st) (pc) :=
  gx_icmp_lt K hd ht (fun _ => h) (fun q => absurd hc q)
theorem gx_icmp_ltF (K : gK p s m args c cc nL own D ty tt A) {x y : Int32} {off : Int} {tgt : Nat} (hd : decode cc pc = .ok (.if_icmp .lt off, 3)) (ht : (pc : Int) + off = (tgt : Int)) (hc : ¬ x < y) (h : gG p l e R s m args below meth c nL D A Q k n (ws) (L) (st) (pc + 3)) : gG p l e R s m args below meth c nL D A Q k n (ws) (L) (.int y :: .int x :: st) (pc) :=
  gx_icmp_lt K hd ht (fun q => absurd q hc) (fun _ => h)
theorem gx_if_ltT (K : gK p s m args c cc nL own D ty tt A) {x : Int32} {off : Int} {tgt : Nat} (hd : decode cc pc = .ok (.ifCond .lt off, 3)) (ht : (pc : Int) + off = (tgt : Int)) (hc : x < 0) (h : gG p l e R s m args below meth c nL D A Q k n (ws) (L) (st) (tgt)) : gG p l e R s m args below meth c nL D A Q k n (ws) (L) (.int x :: st) (pc) :=
  gx_if_lt K hd ht (fun _ => h) (fun q => absurd hc q)
theorem gx_if_ltF (K : gK p s m args c cc nL own D ty tt A) {x : Int32} {off : Int} {tgt : Nat} (hd : decode cc pc = .ok (.ifCond .lt off, 3)) (ht : (pc : Int) + off = (tgt : Int)) (hc : ¬ x < 0) (h : gG p l e R s m args below meth c nL D A Q k n (ws) (L) (st) (pc + 3)) : gG p l e R s m args below meth c nL D A Q k n (ws) (L) (.int x :: st) (pc) :=
  gx_if_lt K hd ht (fun q => absurd q hc) (fun _ => h)
theorem gx_icmp_geT (K : gK p s m args c cc nL own D ty tt A) {x y : Int32} {off : Int} {tgt : Nat} (hd : decode cc pc = .ok (.if_icmp .ge off, 3)) (ht : (pc : Int) + off = (tgt : Int)) (hc : y ≤ x) (h : gG p l e R s m args below meth c nL D A Q k n (ws) (L) (st) (tgt)) : gG p l e R s m args below meth c nL D A Q k n (ws) (L) (.int y :: .int x :: st) (pc) :=
  gx_icmp_ge K hd ht (fun _ => h) (fun q => absurd hc q)
theorem gx_icmp_geF (K : gK p s m args c cc nL own D ty tt A) {x y : Int32} {off : Int} {tgt : Nat} (hd : decode cc pc = .ok (.if_icmp .ge off, 3)) (ht : (pc : Int) + off = (tgt : Int)) (hc : ¬ y ≤ x) (h : gG p l e R s m args below meth c nL D A Q k n (ws) (L) (st) (pc + 3)) : gG p l e R s m args below meth c nL D A Q k n (ws) (L) (.int y :: .int x :: st) (pc) :=
  gx_icmp_ge K hd ht (fun q => absurd q hc) (fun _ => h)
theorem gx_if_geT (K : gK p s m args c cc nL own D ty tt A) {x : Int32} {off : Int} {tgt : Nat} (hd : decode cc pc = .ok (.ifCond .ge off, 3)) (ht : (pc : Int) + off = (tgt : Int)) (hc : 0 ≤ x) (h : gG p l e R s m args below meth c nL D A Q k n (ws) (L) (st) (tgt)) : gG p l e R s m args below meth c nL D A Q k n (ws) (L) (.int x :: st) (pc) :=
  gx_if_ge K hd ht (fun _ => h) (fun q => absurd hc q)
theorem gx_if_geF (K : gK p s m args c cc nL own D ty tt A) {x : Int32} {off : Int} {tgt : Nat} (hd : decode cc pc = .ok (.ifCond .ge off, 3)) (ht : (pc : Int) + off = (tgt : Int)) (hc : ¬ 0 ≤ x) (h : gG p l e R s m args below meth c nL D A Q k n (ws) (L) (st) (pc + 3)) : gG p l e R s m args below meth c nL D A Q k n (ws) (L) (.int x :: st) (pc) :=
  gx_if_ge K hd ht (fun q => absurd q hc) (fun _ => h)
theorem gx_icmp_gtT (K : gK p s m args c cc nL own D ty tt A) {x y : Int32} {off : Int} {tgt : Nat} (hd : decode cc pc = .ok (.if_icmp .gt off, 3)) (ht : (pc : Int) + off = (tgt : Int)) (hc : y < x) (h : gG p l e R s m args below meth c nL D A Q k n (ws) (L) (st) (tgt)) : gG p l e R s m args below meth c nL D A Q k n (ws) (L) (.int y :: .int x :: st) (pc) :=
  gx_icmp_gt K hd ht (fun _ => h) (fun q => absurd hc q)
theorem gx_icmp_gtF (K : gK p s m args c cc nL own D ty tt A) {x y : Int32} {off : Int} {tgt : Nat} (hd : decode cc pc = .ok (.if_icmp .gt off, 3)) (ht : (pc : Int) + off = (tgt : Int)) (hc : ¬ y < x) (h : gG p l e R s m args below meth c nL D A Q k n (ws) (L) (st) (pc + 3)) : gG p l e R s m args below meth c nL D A Q k n (ws) (L) (.int y :: .int x :: st) (pc) :=
  gx_icmp_gt K hd ht (fun q => absurd q hc) (fun _ => h)
theorem gx_if_gtT (K : gK p s m args c cc nL own D ty tt A) {x : Int32} {off : Int} {tgt : Nat} (hd : decode cc pc = .ok (.ifCond .gt off, 3)) (ht : (pc : Int) + off = (tgt : Int)) (hc : 0 < x) (h : gG p l e R s m args below meth c nL D A Q k n (ws) (L) (st) (tgt)) : gG p l e R s m args below meth c nL D A Q k n (ws) (L) (.int x :: st) (pc) :=
  gx_if_gt K hd ht (fun _ => h) (fun q => absurd hc q)
theorem gx_if_gtF (K : gK p s m args c cc nL own D ty tt A) {x : Int32} {off : Int} {tgt : Nat} (hd : decode cc pc = .ok (.ifCond .gt off, 3)) (ht : (pc : Int) + off = (tgt : Int)) (hc : ¬ 0 < x) (h : gG p l e R s m args below meth c nL D A Q k n (ws) (L) (st) (pc + 3)) : gG p l e R s m args below meth c nL D A Q k n (ws) (L) (.int x :: st) (pc) :=
  gx_if_gt K hd ht (fun q => absurd q hc) (fun _ => h)
theorem gx_icmp_leT (K : gK p s m args c cc nL own D ty tt A) {x y : Int32} {off : Int} {tgt : Nat} (hd : decode cc pc = .ok (.if_icmp .le off, 3)) (ht : (pc : Int) + off = (tgt : Int)) (hc : x ≤ y) (h : gG p l e R s m args below meth c nL D A Q k n (ws) (L) (st) (tgt)) : gG p l e R s m args below meth c nL D A Q k n (ws) (L) (.int y :: .int x :: st) (pc) :=
  gx_icmp_le K hd ht (fun _ => h) (fun q => absurd hc q)
theorem gx_icmp_leF (K : gK p s m args c cc nL own D ty tt A) {x y : Int32} {off : Int} {tgt : Nat} (hd : decode cc pc = .ok (.if_icmp .le off, 3)) (ht : (pc : Int) + off = (tgt : Int)) (hc : ¬ x ≤ y) (h : gG p l e R s m args below meth c nL D A Q k n (ws) (L) (st) (pc + 3)) : gG p l e R s m args below meth c nL D A Q k n (ws) (L) (.int y :: .int x :: st) (pc) :=
  gx_icmp_le K hd ht (fun q => absurd q hc) (fun _ => h)
theorem gx_if_leT (K : gK p s m args c cc nL own D ty tt A) {x : Int32} {off : Int} {tgt : Nat} (hd : decode cc pc = .ok (.ifCond .le off, 3)) (ht : (pc : Int) + off = (tgt : Int)) (hc : x ≤ 0) (h : gG p l e R s m args below meth c nL D A Q k n (ws) (L) (st) (tgt)) : gG p l e R s m args below meth c nL D A Q k n (ws) (L) (.int x :: st) (pc) :=
  gx_if_le K hd ht (fun _ => h) (fun q => absurd hc q)
theorem gx_if_leF (K : gK p s m args c cc nL own D ty tt A) {x : Int32} {off : Int} {tgt : Nat} (hd : decode cc pc = .ok (.ifCond .le off, 3)) (ht : (pc : Int) + off = (tgt : Int)) (hc : ¬ x ≤ 0) (h : gG p l e R s m args below meth c nL D A Q k n (ws) (L) (st) (pc + 3)) : gG p l e R s m args below meth c nL D A Q k n (ws) (L) (.int x :: st) (pc) :=
  gx_if_le K hd ht (fun q => absurd q hc) (fun _ => h)
theorem gle {a b : Nat} (h : Nat.ble a b = true) : a ≤ b := Nat.le_of_ble_eq_true h
theorem gx_Ltake (j : Nat) (h : gG p l e R s m args below meth c nL D A Q k n (ws) (L.take j) (st) (pc)) : gG p l e R s m args below meth c nL D A Q k n (ws) (L) (st) (pc) :=
  fun H locs ls hL hP hD hS => h H locs ls ⟨hL.1, hL.2.1, fun i v q => hL.2.2 i v (by
    rw [List.getElem?_take] at q
    split at q
    · exact q
    · cases q)⟩ hP hD hS
theorem gx_Ldrop (j : Nat) (h : gG p l e R s m args below meth c nL D A Q k n (ws) (L.set j none) (st) (pc)) : gG p l e R s m args below meth c nL D A Q k n (ws) (L) (st) (pc) :=
  fun H locs ls hL hP hD hS => h H locs ls ⟨hL.1, hL.2.1, fun i v q => hL.2.2 i v (by
    rw [List.getElem?_set] at q
    split at q
    · split at q <;> cases q
    · exact q)⟩ hP hD hS
theorem gx_if_eqB (K : gK p s m args c cc nL own D ty tt A) {b : Bool} {off : Int} {tgt : Nat} (hd : decode cc pc = .ok (.ifCond .eq off, 3)) (ht : (pc : Int) + off = (tgt : Int))
    (kt : b = false → gG p l e R s m args below meth c nL D A Q k n (ws) (L) (st) (tgt)) (kf : b = true → gG p l e R s m args below meth c nL D A Q k n (ws) (L) (st) (pc + 3)) : gG p l e R s m args below meth c nL D A Q k n (ws) (L) (.int (b2i b) :: st) (pc) :=
  gx_if_eq K hd ht (fun q => kt (b2i_0.mp q)) (fun q => kf (by cases b; exact absurd b2i_f q; rfl))
theorem gx_if_neB (K : gK p s m args c cc nL own D ty tt A) {b : Bool} {off : Int} {tgt : Nat} (hd : decode cc pc = .ok (.ifCond .ne off, 3)) (ht : (pc : Int) + off = (tgt : Int))
    (kt : b = true → gG p l e R s m args below meth c nL D A Q k n (ws) (L) (st) (tgt)) (kf : b = false → gG p l e R s m args below meth c nL D A Q k n (ws) (L) (st) (pc + 3)) : gG p l e R s m args below meth c nL D A Q k n (ws) (L) (.int (b2i b) :: st) (pc) :=
  gx_if_ne K hd ht (fun q => kt (by cases b; exact absurd b2i_f q; rfl)) (fun q => kf (b2i_0.mp q))
theorem gx_goto (K : gK p s m args c cc nL own D ty tt A) {off : Int} {tgt : Nat} (hd : decode cc pc = .ok (.goto off, 3)) (ht : (pc : Int) + off = (tgt : Int)) (h : gG p l e R s m args below meth c nL D A Q k n (ws) (L) (st) (tgt)) : gG p l e R s m args below meth c nL D A Q k n (ws) (L) (st) (pc) :=
  fun H locs ls hL hP hD hS => lv_goto K.1 K.2.1 hd ht (h H locs ls hL hP hD hS)
theorem gx_ifnonnull (K : gK p s m args c cc nL own D ty tt A) {x : Nat} {off : Int} {tgt : Nat} (hd : decode cc pc = .ok (.ifnonnull off, 3)) (ht : (pc : Int) + off = (tgt : Int)) (h : gG p l e R s m args below meth c nL D A Q k n (ws) (L) (st) (tgt)) : gG p l e R s m args below meth c nL D A Q k n (ws) (L) (.ref x :: st) (pc) :=
  fun H locs ls hL hP hD hS => lv_ifnonnull K.1 K.2.1 hd ht (h H locs ls hL hP hD hS)
theorem gx_ifnonnullN (K : gK p s m args c cc nL own D ty tt A) {off : Int} (hd : decode cc pc = .ok (.ifnonnull off, 3)) (h : gG p l e R s m args below meth c nL D A Q k n (ws) (L) (st) (pc + 3)) : gG p l e R s m args below meth c nL D A Q k n (ws) (L) (.null :: st) (pc) :=
  fun H locs ls hL hP hD hS => lv_ifnonnullN K.1 K.2.1 hd (h H locs ls hL hP hD hS)
theorem gx_ifnull (K : gK p s m args c cc nL own D ty tt A) {x : Nat} {off : Int} (hd : decode cc pc = .ok (.ifnull off, 3)) (h : gG p l e R s m args below meth c nL D A Q k n (ws) (L) (st) (pc + 3)) : gG p l e R s m args below meth c nL D A Q k n (ws) (L) (.ref x :: st) (pc) :=
  fun H locs ls hL hP hD hS => lv_ifnull K.1 K.2.1 hd (h H locs ls hL hP hD hS)
theorem gx_ifnullN (K : gK p s m args c cc nL own D ty tt A) {off : Int} {tgt : Nat} (hd : decode cc pc = .ok (.ifnull off, 3)) (ht : (pc : Int) + off = (tgt : Int)) (h : gG p l e R s m args below meth c nL D A Q k n (ws) (L) (st) (tgt)) : gG p l e R s m args below meth c nL D A Q k n (ws) (L) (.null :: st) (pc) :=
  fun H locs ls hL hP hD hS => lv_ifnullN K.1 K.2.1 hd ht (h H locs ls hL hP hD hS)
theorem gx_ws {w1 : va_W} (eq0 : ws = w1) (h : gG p l e R s m args below meth c nL D A Q k n (w1) (L) (st) (pc)) : gG p l e R s m args below meth c nL D A Q k n (ws) (L) (st) (pc) := eq0 ▸ h
theorem gx_L {L1 : List (Option Value)} (eq0 : L = L1) (h : gG p l e R s m args below meth c nL D A Q k n (ws) (L1) (st) (pc)) : gG p l e R s m args below meth c nL D A Q k n (ws) (L) (st) (pc) := eq0 ▸ h
theorem gx_Lsub {L1 : List (Option Value)} (eq0 : ∀ (i : Nat) (v : Value), L1[i]? = some (some v) → L[i]? = some (some v)) (h : gG p l e R s m args below meth c nL D A Q k n (ws) (L1) (st) (pc)) : gG p l e R s m args below meth c nL D A Q k n (ws) (L) (st) (pc) :=
  fun H locs ls hL hP hD hS => h H locs ls ⟨hL.1, hL.2.1, fun i v q => hL.2.2 i v (eq0 i v q)⟩ hP hD hS
theorem gx_st {s1 : List Value} (eq0 : st = s1) (h : gG p l e R s m args below meth c nL D A Q k n (ws) (L) (s1) (pc)) : gG p l e R s m args below meth c nL D A Q k n (ws) (L) (st) (pc) := eq0 ▸ h
theorem gx_wide {k1 n1 : Nat} (h1 : k ≤ k1) (h2 : n ≤ n1) (h : gG p l e R s m args below meth c nL D A Q k1 n1 (ws) (L) (st) (pc)) : gG p l e R s m args below meth c nL D A Q k n (ws) (L) (st) (pc) :=
  fun H locs ls hL hP hD hS => W.widen h1 h2 (h H locs ls hL hP hD hS)
theorem gx_perm {w1 : va_W} (f g : Nat → Nat) (h1 : ∀ (i : Nat) (q : Nat × va_E), w1[i]? = some q → ws[f i]? = some q) (h2 : ∀ i j : Nat, i < w1.length → j < w1.length → f i = f j → i = j) (h : gG p l e R s m args below meth c nL D A Q k n (w1) (L) (st) (pc)) : gG p l e R s m args below meth c nL D A Q k n (ws) (L) (st) (pc) :=
  fun H locs ls hL hP hD hS => h H locs ls hL (fun k q hk => hP (f k) q (h1 k q hk)) ⟨fun i j x y hi hj hxy => h2 i j (List.getElem?_eq_some_iff.mp hi).1 (List.getElem?_eq_some_iff.mp hj).1 (hD.1 _ _ x y (h1 i x hi) (h1 j y hj) hxy), fun k q hk => hD.2 (f k) q (h1 k q hk)⟩ hS
/-- what a field's site needs of the tables -/
def gF (own : String) (idx ci j : Nat) (C : String) (T : u_T) (N : Nat) : Prop := vwCl[ci]? = some (C, T, N) ∧ (∀ w ∈ u_ws C T N, w ∈ gB) ∧ j < N ∧ Cond.fieldLink own idx (T j).1 (T j).2.1 (T j).2.2.1 ∈ gB
def gFN (own : String) (idx ci j : Nat) (C : String) (T : u_T) (N : Nat) : Prop := vwCl[ci]? = some (C, T, N) ∧ (∀ w ∈ u_ws C T N, w ∈ gB) ∧ j < N ∧ ∃ h : String, Cond.fieldLinkNest own idx (T j).1 (T j).2.1 (T j).2.2.1 h ∈ gN
def gFt (C : String) (T : u_T) (N : Nat) (t0 : Nat → FieldType) : Prop := (∀ k, k < N → parseFieldDescriptor (T k).2.2.1 = some (t0 k)) ∧ (∀ a, a < N → ∀ b, b < N → a ≠ b → (T a).2.1 ≠ (T b).2.1)
variable {idx ci j : Nat} {C : String} {T : u_T} {N : Nat} {t0 : Nat → FieldType} {a q0 : Nat} {fs : List Value} {v : Value}
theorem gx_get (K : gK p s m args c cc nL own D ty tt A) (F : gF own idx ci j C T N) (he : ws[q0]? = some (a, .inr (ci, fs))) (hv : fs[j]? = some v) (hd : decode cc pc = .ok (.getfield idx, 3))
    (h : gG p l e R s m args below meth c nL D A Q k n (ws) (L) (v :: st) (pc + 3)) : gG p l e R s m args below meth c nL D A Q k n (ws) (L) (.ref a :: st) (pc) :=
  fun H locs ls hL hP hD hS => va_get K.1 K.2.1 K.2.2.2.2.1 F.2.1 K.2.2.2.1 K.2.2.2.2.2.2.2.1 hP q0 he F.1 j F.2.2.1 (K.2.2.2.2.1 _ F.2.2.2) (fun _ h9 => h9) hv hd (h H locs ls hL hP hD hS)
theorem gx_getN (K : gK p s m args c cc nL own D ty tt A) (F : gFN own idx ci j C T N) (he : ws[q0]? = some (a, .inr (ci, fs))) (hv : fs[j]? = some v) (hd : decode cc pc = .ok (.getfield idx, 3))
    (h : gG p l e R s m args below meth c nL D A Q k n (ws) (L) (v :: st) (pc + 3)) : gG p l e R s m args below meth c nL D A Q k n (ws) (L) (.ref a :: st) (pc) := by
  obtain ⟨F1, F2, F3, host, F4⟩ := F
  exact fun H locs ls hL hP hD hS => va_getN (host := host) K.1 K.2.1 K.2.2.2.2.1 F2 K.2.2.2.1 K.2.2.2.2.2.2.2.1 hP q0 he F1 j F3 (va_Nw.use rfl (K.2.2.2.2.2.2.1 _ F4)) (fun _ h9 => h9) hv hd (h H locs ls hL hP hD hS)
theorem gx_put (K : gK p s m args c cc nL own D ty tt A) (F : gF own idx ci j C T N) (Ft : gFt C T N t0) (hfin : (T j).2.2.2 = false) (he : ws[q0]? = some (a, .inr (ci, fs))) (hn : narrow (t0 j) v = v) (hf : fits (t0 j) v = true) (hl : j < fs.length) (hd : decode cc pc = .ok (.putfield idx, 3))
    (h : gG p l e R s m args below meth c nL D A Q k n (ws.set q0 (a, .inr (ci, fs.set j v))) (L) (st) (pc + 3)) : gG p l e R s m args below meth c nL D A Q k n (ws) (L) (v :: .ref a :: st) (pc) :=
  fun H locs ls hL hP hD hS => va_put K.1 K.2.1 K.2.2.2.2.1 F.2.1 t0 Ft.1 Ft.2 K.2.2.2.1 K.2.2.2.2.2.2.2.1 hP hD hS q0 he F.1 j F.2.2.1 (K.2.2.2.2.1 _ F.2.2.2) (fun _ h9 => h9) hfin (Ft.1 j F.2.2.1) hn hf hl hd (fun H1 l1 hP1 hD1 hS1 => h H1 l1 ls hL hP1 hD1 hS1)
theorem gx_putN (K : gK p s m args c cc nL own D ty tt A) (F : gFN own idx ci j C T N) (Ft : gFt C T N t0) (hfin : (T j).2.2.2 = false) (he : ws[q0]? = some (a, .inr (ci, fs))) (hn : narrow (t0 j) v = v) (hf : fits (t0 j) v = true) (hl : j < fs.length) (hd : decode cc pc = .ok (.putfield idx, 3))
    (h : gG p l e R s m args below meth c nL D A Q k n (ws.set q0 (a, .inr (ci, fs.set j v))) (L) (st) (pc + 3)) : gG p l e R s m args below meth c nL D A Q k n (ws) (L) (v :: .ref a :: st) (pc) := by
  obtain ⟨F1, F2, F3, host, F4⟩ := F
  exact fun H locs ls hL hP hD hS => va_putN (host := host) K.1 K.2.1 K.2.2.2.2.1 F2 t0 Ft.1 Ft.2 K.2.2.2.1 K.2.2.2.2.2.2.2.1 hP hD hS q0 he F1 j F3 (va_Nw.use rfl (K.2.2.2.2.2.2.1 _ F4)) (fun _ h9 => h9) hfin (Ft.1 j F3) hn hf hl hd (fun H1 l1 hP1 hD1 hS1 => h H1 l1 ls hL hP1 hD1 hS1)
theorem gx_putF (K : gK p s m args c cc nL own D ty tt A) (F : gF own idx ci j C T N) (Ft : gFt C T N t0) (hfin : (T j).2.2.2 = true) (hin : meth.name = "<init>") (hown : (T j).1 = own) (he : ws[q0]? = some (a, .inr (ci, fs))) (hn : narrow (t0 j) v = v) (hf : fits (t0 j) v = true) (hl : j < fs.length) (hd : decode cc pc = .ok (.putfield idx, 3))
    (h : gG p l e R s m args below meth c nL D A Q k n (ws.set q0 (a, .inr (ci, fs.set j v))) (L) (st) (pc + 3)) : gG p l e R s m args below meth c nL D A Q k n (ws) (L) (v :: .ref a :: st) (pc) :=
  fun H locs ls hL hP hD hS => va_putF K.1 K.2.1 K.2.2.2.2.1 F.2.1 t0 Ft.1 Ft.2 K.2.2.2.1 K.2.2.2.2.2.2.2.1 hP hD hS q0 he F.1 j F.2.2.1 (K.2.2.2.2.1 _ F.2.2.2) (fun _ h9 => h9) hfin hin hown (Ft.1 j F.2.2.1) hn hf hl hd (fun H1 l1 hP1 hD1 hS1 => h H1 l1 ls hL hP1 hD1 hS1)
theorem gIdx {i : Int32} {x N : Nat} (hi : i = nI x) (hx : x < N) (hN : N < 2 ^ 31) : vp_in i N ∧ i.toNatClampNeg = x := by
  subst hi
  exact ⟨vp_in_nI hx hN, nI_clamp (Nat.lt_trans hx hN)⟩
theorem gx_iald (K : gK p s m args c cc nL own D ty tt A) {N x : Nat} {f : Nat → Int32} {i : Int32} (he : ws[q0]? = some (a, .inl (ty 0, N, .inl (f)))) (hi : i = nI x) (hx : x < N) (hN : N < 2 ^ 31) (hd : decode cc pc = .ok (.iaload, 1))
    (h : gG p l e R s m args below meth c nL D A Q k n (ws) (L) (.int (f x) :: st) (pc + 1)) : gG p l e R s m args below meth c nL D A Q k n (ws) (L) (.int i :: .ref a :: st) (pc) := by
  obtain ⟨h1, h2⟩ := gIdx hi hx hN
  refine fun H locs ls hL hP hD hS => va_iald K.1 K.2.1 K.2.2.2.2.2.2.2.1 hP q0 0 he rfl h1 hd ?_
  rw [h2]
  exact h H locs ls hL hP hD hS
theorem gx_iast (K : gK p s m args c cc nL own D ty tt A) {N x : Nat} {f : Nat → Int32} {y : Int32} {i : Int32} (he : ws[q0]? = some (a, .inl (ty 0, N, .inl (f)))) (hi : i = nI x) (hx : x < N) (hN : N < 2 ^ 31) (hd : decode cc pc = .ok (.iastore, 1))
    (h : gG p l e R s m args below meth c nL D A Q k n (ws.set q0 (a, .inl (ty 0, N, .inl (upd f x y)))) (L) (st) (pc + 1)) : gG p l e R s m args below meth c nL D A Q k n (ws) (L) (.int y :: .int i :: .ref a :: st) (pc) := by
  obtain ⟨h1, h2⟩ := gIdx hi hx hN
  refine fun H locs ls hL hP hD hS => va_iast K.1 K.2.1 K.2.2.2.2.2.2.2.1 hP hD hS q0 0 he rfl h1 hd (fun H1 l1 hP1 hD1 hS1 => ?_)
  rw [h2] at hP1 hD1
  exact h H1 l1 ls hL hP1 hD1 hS1
theorem gx_lald (K : gK p s m args c cc nL own D ty tt A) {N x : Nat} {f : Nat → Int64} {i : Int32} (he : ws[q0]? = some (a, .inl (ty 1, N, .inr (.inl (f))))) (hi : i = nI x) (hx : x < N) (hN : N < 2 ^ 31) (hd : decode cc pc = .ok (.laload, 1))
    (h : gG p l e R s m args below meth c nL D A Q k n (ws) (L) (.long (f x) :: st) (pc + 1)) : gG p l e R s m args below meth c nL D A Q k n (ws) (L) (.int i :: .ref a :: st) (pc) := by
  obtain ⟨h1, h2⟩ := gIdx hi hx hN
  refine fun H locs ls hL hP hD hS => va_lald K.1 K.2.1 K.2.2.2.2.2.2.2.1 hP q0 1 he rfl h1 hd ?_
  rw [h2]
  exact h H locs ls hL hP hD hS
theorem gx_last (K : gK p s m args c cc nL own D ty tt A) {N x : Nat} {f : Nat → Int64} {y : Int64} {i : Int32} (he : ws[q0]? = some (a, .inl (ty 1, N, .inr (.inl (f))))) (hi : i = nI x) (hx : x < N) (hN : N < 2 ^ 31) (hd : decode cc pc = .ok (.lastore, 1))
    (h : gG p l e R s m args below meth c nL D A Q k n (ws.set q0 (a, .inl (ty 1, N, .inr (.inl (vp_updL f x y))))) (L) (st) (pc + 1)) : gG p l e R s m args below meth c nL D A Q k n (ws) (L) (.long y :: .int i :: .ref a :: st) (pc) := by
  obtain ⟨h1, h2⟩ := gIdx hi hx hN
  refine fun H locs ls hL hP hD hS => va_last K.1 K.2.1 K.2.2.2.2.2.2.2.1 hP hD hS q0 1 he rfl h1 hd (fun H1 l1 hP1 hD1 hS1 => ?_)
  rw [h2] at hP1 hD1
  exact h H1 l1 ls hL hP1 hD1 hS1
theorem gx_zld (K : gK p s m args c cc nL own D ty tt A) {N x : Nat} {f : Nat → Bool} {i : Int32} (he : ws[q0]? = some (a, .inl (ty 2, N, .inl (fun j => b2i (f j))))) (hi : i = nI x) (hx : x < N) (hN : N < 2 ^ 31) (hd : decode cc pc = .ok (.baload, 1))
    (h : gG p l e R s m args below meth c nL D A Q k n (ws) (L) (.int (b2i (f x)) :: st) (pc + 1)) : gG p l e R s m args below meth c nL D A Q k n (ws) (L) (.int i :: .ref a :: st) (pc) := by
  obtain ⟨h1, h2⟩ := gIdx hi hx hN
  refine fun H locs ls hL hP hD hS => va_zald K.1 K.2.1 K.2.2.2.2.2.2.2.1 hP q0 2 he rfl h1 hd ?_
  rw [h2]
  exact h H locs ls hL hP hD hS
theorem gx_zst (K : gK p s m args c cc nL own D ty tt A) {N x : Nat} {f : Nat → Bool} {y : Bool} {i : Int32} (he : ws[q0]? = some (a, .inl (ty 2, N, .inl (fun j => b2i (f j))))) (hi : i = nI x) (hx : x < N) (hN : N < 2 ^ 31) (hd : decode cc pc = .ok (.bastore, 1))
    (h : gG p l e R s m args below meth c nL D A Q k n (ws.set q0 (a, .inl (ty 2, N, .inl (fun j => b2i (va_up f x y j))))) (L) (st) (pc + 1)) : gG p l e R s m args below meth c nL D A Q k n (ws) (L) (.int (b2i y) :: .int i :: .ref a :: st) (pc) := by
  obtain ⟨h1, h2⟩ := gIdx hi hx hN
  refine fun H locs ls hL hP hD hS => va_zast K.1 K.2.1 K.2.2.2.2.2.2.2.1 hP hD hS q0 2 he rfl h1 hd (fun H1 l1 hP1 hD1 hS1 => ?_)
  rw [h2, b2i_nar, b2i_upd] at hP1 hD1
  exact h H1 l1 ls hL hP1 hD1 hS1
theorem gx_cald (K : gK p s m args c cc nL own D ty tt A) {N x : Nat} {f : Nat → Int32} {i : Int32} (he : ws[q0]? = some (a, .inl (ty 3, N, .inl (f)))) (hi : i = nI x) (hx : x < N) (hN : N < 2 ^ 31) (hd : decode cc pc = .ok (.caload, 1))
    (h : gG p l e R s m args below meth c nL D A Q k n (ws) (L) (.int (f x) :: st) (pc + 1)) : gG p l e R s m args below meth c nL D A Q k n (ws) (L) (.int i :: .ref a :: st) (pc) := by
  obtain ⟨h1, h2⟩ := gIdx hi hx hN
  refine fun H locs ls hL hP hD hS => va_cald K.1 K.2.1 K.2.2.2.2.2.2.2.1 hP q0 3 he rfl h1 hd ?_
  rw [h2]
  exact h H locs ls hL hP hD hS
theorem gx_cast (K : gK p s m args c cc nL own D ty tt A) {N x : Nat} {f : Nat → Int32} {y : Int32} {i : Int32} (he : ws[q0]? = some (a, .inl (ty 3, N, .inl (f)))) (hi : i = nI x) (hx : x < N) (hN : N < 2 ^ 31) (hc : vp_nar .char y = y) (hd : decode cc pc = .ok (.castore, 1))
    (h : gG p l e R s m args below meth c nL D A Q k n (ws.set q0 (a, .inl (ty 3, N, .inl (upd f x y)))) (L) (st) (pc + 1)) : gG p l e R s m args below meth c nL D A Q k n (ws) (L) (.int y :: .int i :: .ref a :: st) (pc) := by
  obtain ⟨h1, h2⟩ := gIdx hi hx hN
  refine fun H locs ls hL hP hD hS => va_cast K.1 K.2.1 K.2.2.2.2.2.2.2.1 hP hD hS q0 3 he rfl h1 hd (fun H1 l1 hP1 hD1 hS1 => ?_)
  rw [h2, hc] at hP1 hD1
  exact h H1 l1 ls hL hP1 hD1 hS1
theorem gx_aald (K : gK p s m args c cc nL own D ty tt A) {N x t : Nat} {f : Nat → Option Nat} {CC : String} {i : Int32} (t9 : (gTy ty)[t]? = some (ty t, .object CC)) (he : ws[q0]? = some (a, .inl (ty t, N, .inr (.inr (.inr (.inr f)))))) (hi : i = nI x) (hx : x < N) (hN : N < 2 ^ 31) (hd : decode cc pc = .ok (.aaload, 1))
    (h : gG p l e R s m args below meth c nL D A Q k n (ws) (L) (va_rf (f x) :: st) (pc + 1)) : gG p l e R s m args below meth c nL D A Q k n (ws) (L) (.int i :: .ref a :: st) (pc) := by
  obtain ⟨h1, h2⟩ := gIdx hi hx hN
  refine fun H locs ls hL hP hD hS => va_aldq K.1 K.2.1 K.2.2.2.2.2.2.2.1 hP q0 t he t9 h1 hd ?_
  rw [h2]
  exact h H locs ls hL hP hD hS
theorem gx_aast (K : gK p s m args c cc nL own D ty tt A) {N x t y qk : Nat} {r : vw_C} {vs : List Value} {f : Nat → Option Nat} {i : Int32} (t9 : (gTy ty)[t]? = some (ty t, .object r.1)) (hr : vwCl[ci]? = some r) (he : ws[q0]? = some (a, .inl (ty t, N, .inr (.inr (.inr (.inr f)))))) (hy : ws[qk]? = some (y, .inr (ci, vs))) (hi : i = nI x) (hx : x < N) (hN : N < 2 ^ 31) (hd : decode cc pc = .ok (.aastore, 1))
    (h : gG p l e R s m args below meth c nL D A Q k n (ws.set q0 (a, .inl (ty t, N, .inr (.inr (.inr (.inr (va_up f x (some y)))))))) (L) (st) (pc + 1)) : gG p l e R s m args below meth c nL D A Q k n (ws) (L) (.ref y :: .int i :: .ref a :: st) (pc) := by
  obtain ⟨h1, h2⟩ := gIdx hi hx hN
  refine fun H locs ls hL hP hD hS => va_astq K.1 K.2.1 K.2.2.2.2.2.2.2.1 hP hD hS q0 t qk ci he t9 hy hr h1 hd (fun H1 l1 hP1 hD1 hS1 => ?_)
  rw [h2] at hP1 hD1
  exact h H1 l1 ls hL hP1 hD1 hS1
theorem gx_alen (K : gK p s m args c cc nL own D ty tt A) {x : vp_A} {t : Nat} {t1 : FieldType} (t9 : (gTy ty)[t]? = some (ty t, t1)) (he : ws[q0]? = some (a, .inl (ty t, x))) (hd : decode cc pc = .ok (.arraylength, 1))
    (h : gG p l e R s m args below meth c nL D A Q k n (ws) (L) (.int (nI x.1) :: st) (pc + 1)) : gG p l e R s m args below meth c nL D A Q k n (ws) (L) (.ref a :: st) (pc) :=
  fun H locs ls hL hP hD hS => va_alen K.1 K.2.1 K.2.2.2.2.2.2.2.1 hP q0 t he t9 rfl hd (h H locs ls hL hP hD hS)
/-! the table of tens -/
theorem gx_tens (K : gK p s m args c cc nL own D ty tt A) (hw : (∃ h : String, Cond.fieldLinkNest own idx gFB "TENS" "[J" h ∈ gN) ∨ Cond.fieldLink own idx gFB "TENS" "[J" ∈ gB) (hd : decode cc pc = .ok (.getstatic idx, 3))
    (h : gG p l e R s m args below meth c nL D A Q k n (ws) (L) (.ref tt :: st) (pc + 3)) : gG p l e R s m args below meth c nL D A Q k n (ws) (L) (st) (pc) := by
  intro H locs ls hL hP hD hS
  have hZ := K.2.2.2.2.2.2.2.2.2.1
  rcases hw with ⟨host, hw⟩ | hw
  · exact va_getsN (host := host) K.1 K.2.1 hZ hS K.2.2.2.1 (va_Nw.use rfl (K.2.2.2.2.2.2.1 _ hw)) (fun _ h9 => h9) hd (h H locs ls hL hP hD hS)
  · exact va_gets K.1 K.2.1 hZ hS K.2.2.2.1 (K.2.2.2.2.1 _ hw) (fun _ h9 => h9) hd (h H locs ls hL hP hD hS)
theorem gx_tenlen (K : gK p s m args c cc nL own D ty tt A) (hd : decode cc pc = .ok (.arraylength, 1)) (h : gG p l e R s m args below meth c nL D A Q k n (ws) (L) (.int (nI 17) :: st) (pc + 1)) : gG p l e R s m args below meth c nL D A Q k n (ws) (L) (.ref tt :: st) (pc) :=
  fun H locs ls hL hP hD hS => va_tlen K.1 K.2.1 K.2.2.2.2.2.2.2.2.2.2 hS rfl hd (h H locs ls hL hP hD hS)
theorem gx_tenld (K : gK p s m args c cc nL own D ty tt A) {x : Nat} {i : Int32} (hi : i = nI x) (hx : x < 17) (hd : decode cc pc = .ok (.laload, 1)) (h : gG p l e R s m args below meth c nL D A Q k n (ws) (L) (.long (Int64.ofNat (10 ^ x)) :: st) (pc + 1)) : gG p l e R s m args below meth c nL D A Q k n (ws) (L) (.int i :: .ref tt :: st) (pc) := by
  obtain ⟨h1, h2⟩ := gIdx hi hx (by decide)
  exact fun H locs ls hL hP hD hS => va_tl K.1 K.2.1 K.2.2.2.2.2.2.2.2.2.2 hS h1 (by rw [h2]; rfl) hd (h H locs ls hL hP hD hS)
end GR
