section GC
variable {p : Program} {l : Launch} {e : Env} {R : Room} {s : State} {m : MethodId} {args : Array Value} {below : List Frame} {meth : Method} {c : Code} {Q : State → Prop} {k n : Nat}
variable {cc : ByteArray} {nL : Nat} {own : String} {D : va_G} {ty : Nat → ClassId} {tt : Nat} {A : Nat → Prop} {ws : va_W} {L : List (Option Value)} {st : List Value} {pc : Nat}
variable {w0 : va_W} {Post : Option Value → va_W → Prop} {mc ms : Nat}
theorem gx_iret (K : gK p s m args c cc nL own D ty tt (va_A w0 s.heap.size)) (hr : meth.sig.returnType = some .int) (hl : meth.locks = false) {x : Int32} (hd : decode cc pc = .ok (.ireturn, 1)) (h : Post (some (.int x)) ws) : gG p l e R s m args below meth c nL D (va_A w0 s.heap.size) (gE D below w0 Post args s k n) (k) (n) (ws) (L) ([.int x]) (pc) :=
  fun H locs ls hL hP hD hS => W.iret K.1 K.2.1 hr (fun t ht hW => ⟨⟨_, ws, rfl, h, by rw [ht]; exact hP, hD⟩, hS.F ht⟩) hS.2.2 hd hl
theorem gx_zret (K : gK p s m args c cc nL own D ty tt (va_A w0 s.heap.size)) (hr : meth.sig.returnType = some .boolean) (hl : meth.locks = false) {x : Bool} (hd : decode cc pc = .ok (.ireturn, 1)) (h : Post (some (.int (b2i x))) ws) : gG p l e R s m args below meth c nL D (va_A w0 s.heap.size) (gE D below w0 Post args s k n) (k) (n) (ws) (L) ([.int (b2i x)]) (pc) :=
  fun H locs ls hL hP hD hS => W.zret K.1 K.2.1 hr (b2i_narrow x) (fun t ht hW => ⟨⟨_, ws, rfl, h, by rw [ht]; exact hP, hD⟩, hS.F ht⟩) hS.2.2 hd hl
theorem gx_lret (K : gK p s m args c cc nL own D ty tt (va_A w0 s.heap.size)) (hr : meth.sig.returnType = some .long) (hl : meth.locks = false) {x : Int64} (hd : decode cc pc = .ok (.lreturn, 1)) (h : Post (some (.long x)) ws) : gG p l e R s m args below meth c nL D (va_A w0 s.heap.size) (gE D below w0 Post args s k n) (k) (n) (ws) (L) ([.long x]) (pc) :=
  fun H locs ls hL hP hD hS => W.lret K.1 K.2.1 hr (fun t ht hW => ⟨⟨_, ws, rfl, h, by rw [ht]; exact hP, hD⟩, hS.F ht⟩) hS.2.2 hd hl
theorem gx_vret (K : gK p s m args c cc nL own D ty tt (va_A w0 s.heap.size)) (hr : meth.sig.returnType = none) (hl : meth.locks = false) (hd : decode cc pc = .ok (.return_, 1)) (h : Post (none) ws) : gG p l e R s m args below meth c nL D (va_A w0 s.heap.size) (gE D below w0 Post args s k n) (k) (n) (ws) (L) ([]) (pc) :=
  fun H locs ls hL hP hD hS => W.vret K.1 K.2.1 hr (fun t ht hW => ⟨⟨_, ws, rfl, h, by rw [ht]; exact hP, hD⟩, hS.F ht⟩) hS.2.2 hd hl
/-- what a callee's name needs -/
def gY (y : MethodName) (b : ByteArray) (mL : Nat) (ret : Option FieldType) (n : Nat) : Prop := Cond.code y b mL ret ∈ gB ∧ Cond.initialized y.cls ∈ gB ∧ (y.cls ≠ "java/lang/invoke/MethodHandle" ∧ y.cls ≠ "java/lang/invoke/VarHandle" ∧ (parseMethodDescriptor y.desc).map (fun d => d.parameters.length) = some n)
theorem gB_good : ∀ w ∈ gB, (w.onTables && w.keeps) = true ∨ ∃ t, w = .arrayClass t := by
  intro w hw
  have h1 : (k2_isCode w || goodWord w) = true := (List.mem_filter.mp hw).2
  rw [Bool.or_eq_true] at h1
  rcases h1 with h1 | h1
  · cases w <;> first | (simp [k2_isCode] at h1; done) | exact Or.inl rfl
  · exact good_of_word h1
theorem gB_in {y : MethodName} {b : ByteArray} {mL : Nat} {ret : Option FieldType} (h : Cond.code y b mL ret ∈ gB) : GoodIn gB (.code y b mL ret :: gB) := by
  intro w hw
  rcases List.mem_cons.mp hw with rfl | hw
  · exact ⟨h, gB_good _ h⟩
  · exact ⟨hw, gB_good _ hw⟩
variable {y : MethodName} {b : ByteArray} {mL : Nat} {ret : Option FieldType} {d : Nat} {av : List Value} {s0 : List Value} {idx : Nat} {P2 : Option Value → va_W → Prop}
theorem gx_call (hA : ∀ q, s.heap.size ≤ q → A q) (hr : ∀ (H : Heap) (locs : List Loc) (ls : Array Slot), gL ls nL L → va_P D vwCl ws H → va_D A ws → va_S A s.heap H locs → ∃ a : Array Value, va_Run p l e R s m args below meth c H locs k n mc ms (F0 m pc ls s0) st (gQ D ws H.size P2 a) (va_A ws H.size))
    (kk : ∀ (v : Option Value) (w : va_W), P2 v w → gG p l e R s m args below meth c nL D (A) (Q) (k + mc) (n + ms) (w) (L) (v.toList ++ st) (pc + 3)) : gG p l e R s m args below meth c nL D (A) (Q) (k) (n) (ws) (L) (s0) (pc) := by
  intro H locs ls hL hP hD hS T hT X
  obtain ⟨a, hrun⟩ := hr H locs ls hL hP hD hS
  obtain ⟨v, st₀, t, T', LL, h0, X', hLf, e1, e2, ⟨⟨v', w, hv, hp, hP1, hD1⟩, hz, hk⟩, stp⟩ := hrun T hT X
  cases hv
  rw [h0] at hz hk
  have hF := gFree hD hS hA
  obtain ⟨t2, a1, b1⟩ := kk v w hp T'.heap (locs ++ LL) ls hL (by rw [e1]; exact hP1) (hD1.weaken (fun _ q _ h => hF q.1 h)) ⟨Nat.le_trans hS.1 (by rw [e1]; exact hz), fun q h1 h2 => by rw [e1, hk q (Nat.lt_of_lt_of_le h1 hS.1) (fun z => h2 (hF q z))]; exact hS.2.1 q h1 h2, fun q hq => by
      rcases List.mem_append.mp hq with h | h
      · exact hS.2.2 q h
      · exact hF _ (hLf q h)⟩ T' rfl X'
  exact ⟨t2, stp t2 a1, b1⟩
theorem gPre (K : gK p s m args c cc nL own D ty tt A) (hs : s.heap.size = s.heap.size) {H : Heap} {locs : List Loc} (hP : va_P D vwCl ws H) (hD : va_D A ws) (hS : va_S A s.heap H locs) : PreS s H (va_Pc av (fun U => U.heap.size = H.size ∧ va_P D vwCl ws U.heap ∧ va_D (fun _ => True) ws ∧ gKb D ty tt ws U)) av :=
  ⟨fun a U g9 mk q => by
    obtain ⟨q0, q1, qP, qD, qK⟩ := q
    exact ⟨q0, q1, qP, qD, gKb_calling g9 mk a qK⟩, fun U hU hW => ⟨rfl, by rw [hU], by rw [hU]; exact hP, hD.weaken (fun _ _ _ _ => trivial), gKb_at K.2.2.2.2.2.1 K.2.2.2.2.2.2.1 K.2.2.2.2.2.2.2.1 K.2.2.2.2.2.2.2.2.1 K.2.2.2.2.2.2.2.2.2.1 K.2.2.2.2.2.2.2.2.2.2 hD hS hU hW⟩⟩
theorem gPreV (K : gK p s m args c cc nL own D ty tt A) {H : Heap} {locs : List Loc} {b0 q0 ci : Nat} {fs : List Value} {r : vw_C} (hP : va_P D vwCl ws H) (hD : va_D A ws) (hS : va_S A s.heap H locs) (hc : vwCl[ci]? = some r) (he : ws[q0]? = some (b0, .inr (ci, fs))) : PreV s H r.1 b0 (va_Pc (.ref b0 :: av) (fun U => U.heap.size = H.size ∧ va_P D vwCl ws U.heap ∧ va_D (fun _ => True) ws ∧ gKb D ty tt ws U)) av :=
  ⟨(gPre (av := .ref b0 :: av) K rfl hP hD hS).1, va_recv K.2.2.2.2.2.2.2.1 hP hc he, (gPre (av := .ref b0 :: av) K rfl hP hD hS).2⟩
theorem gx_S (K : gK p s m args c cc nL own D ty tt A) (hM : Ct l y b mL ret d mc ms D ty tt av ws P2) (Y : gY y b mL ret av.length) (hx : Cond.static y ∈ gB) (hl : Cond.methodLink own idx y ∈ gB) (hs : s0 = av.reverse ++ st) (hR : d + 1 ≤ R.frames ∧ 8 + (mL + 11) + 40 * d ≤ R.locals) (hc : k + mc ≤ R.cells ∧ n + ms ≤ R.slots) (hw : (st.map fun v => v.category).sum ≤ 8) (hd : decode cc pc = .ok (.invokestatic idx, 3))
    (kk : ∀ (v : Option Value) (w : va_W), P2 v w → gG p l e R s m args below meth c nL D (A) (Q) (k + mc) (n + ms) (w) (L) (v.toList ++ st) (pc + 3)) : gG p l e R s m args below meth c nL D (A) (Q) (k) (n) (ws) (L) (s0) (pc) := by
  subst hs
  refine gx_call K.2.2.2.2.2.1 (fun H locs ls hL hP hD hS => ⟨av.toArray, va_runS (As := av) ⟨K.1, K.2.1, K.2.2.1, K.2.2.2.1, K.2.2.2.2.1⟩ (hM H.size) ⟨callB_of av.length K.2.2.2.2.1 (gB_in Y.1) rfl rfl rfl (K.2.2.2.2.1 _ Y.2.1) (K.2.2.2.2.1 _ hl) Y.2.2 hR, K.2.2.2.2.1 _ hx⟩ (gPre K rfl hP hD hS) rfl rfl hL.1 rfl (lv_room hw) hd hc⟩) kk
theorem gx_V (K : gK p s m args c cc nL own D ty tt A) {b0 q0 ci : Nat} {fs : List Value} {r : vw_C} (hM : Ct l y b mL ret d mc ms D ty tt (.ref b0 :: av) ws P2) (Y : gY y b mL ret av.length) (hcl : vwCl[ci]? = some r) (he : ws[q0]? = some (b0, .inr (ci, fs))) (hx : Cond.instanceMethod y ∈ gB) (hx2 : Cond.selects r.1 y y ∈ gB) (hl : Cond.methodLink own idx y ∈ gB) (hs : s0 = av.reverse ++ .ref b0 :: st) (hR : d + 1 ≤ R.frames ∧ 8 + (mL + 11) + 40 * d ≤ R.locals) (hc : k + mc ≤ R.cells ∧ n + ms ≤ R.slots) (hw : (st.map fun v => v.category).sum ≤ 8) (hd : decode cc pc = .ok (.invokevirtual idx, 3))
    (kk : ∀ (v : Option Value) (w : va_W), P2 v w → gG p l e R s m args below meth c nL D (A) (Q) (k + mc) (n + ms) (w) (L) (v.toList ++ st) (pc + 3)) : gG p l e R s m args below meth c nL D (A) (Q) (k) (n) (ws) (L) (s0) (pc) := by
  subst hs
  refine gx_call K.2.2.2.2.2.1 (fun H locs ls hL hP hD hS => ⟨(Value.ref b0 :: av).toArray, va_runV (As := av) (C := r.1) ⟨K.1, K.2.1, K.2.2.1, K.2.2.2.1, K.2.2.2.2.1⟩ (hM H.size) ⟨callB_of av.length K.2.2.2.2.1 (gB_in Y.1) rfl rfl rfl (K.2.2.2.2.1 _ Y.2.1) (K.2.2.2.2.1 _ hl) Y.2.2 hR, K.2.2.2.2.1 _ hx, K.2.2.2.2.1 _ hx2⟩ (gPreV K hP hD hS hcl he) rfl rfl hL.1 rfl (lv_room hw) hd hc⟩) kk
theorem gx_I (K : gK p s m args c cc nL own D ty tt A) {b0 : Nat} (hM : Ct l y b mL none d mc ms D ty tt (.ref b0 :: av) ws P2) (Y : gY y b mL none av.length) (hin : y.name = "<init>") (hx : Cond.instanceMethod y ∈ gB) (hl : Cond.methodLink own idx y ∈ gB) (hs : s0 = av.reverse ++ .ref b0 :: st) (hR : d + 1 ≤ R.frames ∧ 8 + (mL + 11) + 40 * d ≤ R.locals) (hc : k + mc ≤ R.cells ∧ n + ms ≤ R.slots) (hw : (st.map fun v => v.category).sum ≤ 8) (hd : decode cc pc = .ok (.invokespecial idx, 3))
    (kk : ∀ (v : Option Value) (w : va_W), P2 v w → gG p l e R s m args below meth c nL D (A) (Q) (k + mc) (n + ms) (w) (L) (v.toList ++ st) (pc + 3)) : gG p l e R s m args below meth c nL D (A) (Q) (k) (n) (ws) (L) (s0) (pc) := by
  subst hs
  refine gx_call K.2.2.2.2.2.1 (fun H locs ls hL hP hD hS => ⟨(Value.ref b0 :: av).toArray, va_runI (As := av) ⟨K.1, K.2.1, K.2.2.1, K.2.2.2.1, K.2.2.2.2.1⟩ (hM H.size) ⟨callB_of av.length K.2.2.2.2.1 (gB_in Y.1) rfl rfl rfl (K.2.2.2.2.1 _ Y.2.1) (K.2.2.2.2.1 _ hl) Y.2.2 hR, hin, K.2.2.2.2.1 _ hx⟩ (gPre (av := .ref b0 :: av) K rfl hP hD hS) rfl rfl hL.1 rfl (lv_room hw) hd hc⟩) kk
theorem gx_SN (K : gK p s m args c cc nL own D ty tt A) (hM : Ct l y b mL ret d mc ms D ty tt av ws P2) (Y : gY y b mL ret av.length) (hx : Cond.static y ∈ gB) {host : String} (hl : Cond.methodLinkNest own idx y host ∈ gN) (hs : s0 = av.reverse ++ st) (hR : d + 1 ≤ R.frames ∧ 8 + (mL + 11) + 40 * d ≤ R.locals) (hc : k + mc ≤ R.cells ∧ n + ms ≤ R.slots) (hw : (st.map fun v => v.category).sum ≤ 8) (hd : decode cc pc = .ok (.invokestatic idx, 3))
    (kk : ∀ (v : Option Value) (w : va_W), P2 v w → gG p l e R s m args below meth c nL D (A) (Q) (k + mc) (n + ms) (w) (L) (v.toList ++ st) (pc + 3)) : gG p l e R s m args below meth c nL D (A) (Q) (k) (n) (ws) (L) (s0) (pc) := by
  subst hs
  refine gx_call K.2.2.2.2.2.1 (fun H locs ls hL hP hD hS => ⟨av.toArray, va_runSN (As := av) ⟨K.1, K.2.1, K.2.2.1, K.2.2.2.1, K.2.2.2.2.1⟩ (hM H.size) ⟨va_cnB av.length K.2.2.2.2.1 (gB_in Y.1) rfl rfl rfl (K.2.2.2.2.2.2.1 _ hl) (K.2.2.2.2.1 _ Y.2.1) Y.2.2 hR, K.2.2.2.2.1 _ hx, trivial⟩ (gPre K rfl hP hD hS) rfl rfl hL.1 rfl (lv_room hw) hd hc⟩) kk
theorem gx_VN (K : gK p s m args c cc nL own D ty tt A) {b0 q0 ci : Nat} {fs : List Value} {r : vw_C} (hM : Ct l y b mL ret d mc ms D ty tt (.ref b0 :: av) ws P2) (Y : gY y b mL ret av.length) (hcl : vwCl[ci]? = some r) (he : ws[q0]? = some (b0, .inr (ci, fs))) (hx : Cond.instanceMethod y ∈ gB) (hx2 : Cond.selects r.1 y y ∈ gB) {host : String} (hl : Cond.methodLinkNest own idx y host ∈ gN) (hs : s0 = av.reverse ++ .ref b0 :: st) (hR : d + 1 ≤ R.frames ∧ 8 + (mL + 11) + 40 * d ≤ R.locals) (hc : k + mc ≤ R.cells ∧ n + ms ≤ R.slots) (hw : (st.map fun v => v.category).sum ≤ 8) (hd : decode cc pc = .ok (.invokevirtual idx, 3))
    (kk : ∀ (v : Option Value) (w : va_W), P2 v w → gG p l e R s m args below meth c nL D (A) (Q) (k + mc) (n + ms) (w) (L) (v.toList ++ st) (pc + 3)) : gG p l e R s m args below meth c nL D (A) (Q) (k) (n) (ws) (L) (s0) (pc) := by
  subst hs
  refine gx_call K.2.2.2.2.2.1 (fun H locs ls hL hP hD hS => ⟨(Value.ref b0 :: av).toArray, va_runVN (As := av) (C := r.1) ⟨K.1, K.2.1, K.2.2.1, K.2.2.2.1, K.2.2.2.2.1⟩ (hM H.size) ⟨va_cnB av.length K.2.2.2.2.1 (gB_in Y.1) rfl rfl rfl (K.2.2.2.2.2.2.1 _ hl) (K.2.2.2.2.1 _ Y.2.1) Y.2.2 hR, K.2.2.2.2.1 _ hx, K.2.2.2.2.1 _ hx2⟩ (gPreV K hP hD hS hcl he) rfl rfl hL.1 rfl (lv_room hw) hd hc⟩) kk
theorem gx_IN (K : gK p s m args c cc nL own D ty tt A) {b0 : Nat} (hM : Ct l y b mL none d mc ms D ty tt (.ref b0 :: av) ws P2) (Y : gY y b mL none av.length) (hin : y.name = "<init>") (hx : Cond.instanceMethod y ∈ gB) {host : String} (hl : Cond.methodLinkNest own idx y host ∈ gN) (hs : s0 = av.reverse ++ .ref b0 :: st) (hR : d + 1 ≤ R.frames ∧ 8 + (mL + 11) + 40 * d ≤ R.locals) (hc : k + mc ≤ R.cells ∧ n + ms ≤ R.slots) (hw : (st.map fun v => v.category).sum ≤ 8) (hd : decode cc pc = .ok (.invokespecial idx, 3))
    (kk : ∀ (v : Option Value) (w : va_W), P2 v w → gG p l e R s m args below meth c nL D (A) (Q) (k + mc) (n + ms) (w) (L) (v.toList ++ st) (pc + 3)) : gG p l e R s m args below meth c nL D (A) (Q) (k) (n) (ws) (L) (s0) (pc) := by
  subst hs
  refine gx_call K.2.2.2.2.2.1 (fun H locs ls hL hP hD hS => ⟨(Value.ref b0 :: av).toArray, va_runIN (As := av) ⟨K.1, K.2.1, K.2.2.1, K.2.2.2.1, K.2.2.2.2.1⟩ (hM H.size) ⟨va_cnB av.length K.2.2.2.2.1 (gB_in Y.1) rfl rfl rfl (K.2.2.2.2.2.2.1 _ hl) (K.2.2.2.2.1 _ Y.2.1) Y.2.2 hR, hin, K.2.2.2.2.1 _ hx⟩ (gPre (av := .ref b0 :: av) K rfl hP hD hS) rfl rfl hL.1 rfl (lv_room hw) hd hc⟩) kk
variable {v1 : Value} {w1 : va_W}
theorem gx_Sd (K : gK p s m args c cc nL own D ty tt A) (hM : Cd l y b mL ret d D ty tt av ws (some v1) w1) (Y : gY y b mL ret av.length) (hx : Cond.static y ∈ gB) (hl : Cond.methodLink own idx y ∈ gB) (hs : s0 = av.reverse ++ st) (hR : d + 1 ≤ R.frames ∧ 8 + (mL + 11) + 40 * d ≤ R.locals) (hc : k ≤ R.cells ∧ n ≤ R.slots) (hw : (st.map fun v => v.category).sum ≤ 8) (hd : decode cc pc = .ok (.invokestatic idx, 3))
    (kk : gG p l e R s m args below meth c nL D (A) (Q) (k) (n) (w1) (L) (v1 :: st) (pc + 3)) : gG p l e R s m args below meth c nL D (A) (Q) (k) (n) (ws) (L) (s0) (pc) :=
  gx_S K hM Y hx hl hs hR ⟨hc.1, hc.2⟩ hw hd (fun v w hp => by
    obtain ⟨rfl, rfl⟩ := hp
    exact kk)
theorem gx_SNd (K : gK p s m args c cc nL own D ty tt A) {host : String} (hM : Cd l y b mL ret d D ty tt av ws (some v1) w1) (Y : gY y b mL ret av.length) (hx : Cond.static y ∈ gB) (hl : Cond.methodLinkNest own idx y host ∈ gN) (hs : s0 = av.reverse ++ st) (hR : d + 1 ≤ R.frames ∧ 8 + (mL + 11) + 40 * d ≤ R.locals) (hc : k ≤ R.cells ∧ n ≤ R.slots) (hw : (st.map fun v => v.category).sum ≤ 8) (hd : decode cc pc = .ok (.invokestatic idx, 3))
    (kk : gG p l e R s m args below meth c nL D (A) (Q) (k) (n) (w1) (L) (v1 :: st) (pc + 3)) : gG p l e R s m args below meth c nL D (A) (Q) (k) (n) (ws) (L) (s0) (pc) :=
  gx_SN K hM Y hx hl hs hR ⟨hc.1, hc.2⟩ hw hd (fun v w hp => by
    obtain ⟨rfl, rfl⟩ := hp
    exact kk)
theorem gx_Vd (K : gK p s m args c cc nL own D ty tt A) {b0 q0 ci : Nat} {fs : List Value} {r : vw_C} (hM : Cd l y b mL ret d D ty tt (.ref b0 :: av) ws (some v1) w1) (Y : gY y b mL ret av.length) (hcl : vwCl[ci]? = some r) (he : ws[q0]? = some (b0, .inr (ci, fs))) (hx : Cond.instanceMethod y ∈ gB) (hx2 : Cond.selects r.1 y y ∈ gB) (hl : Cond.methodLink own idx y ∈ gB) (hs : s0 = av.reverse ++ .ref b0 :: st) (hR : d + 1 ≤ R.frames ∧ 8 + (mL + 11) + 40 * d ≤ R.locals) (hc : k ≤ R.cells ∧ n ≤ R.slots) (hw : (st.map fun v => v.category).sum ≤ 8) (hd : decode cc pc = .ok (.invokevirtual idx, 3))
    (kk : gG p l e R s m args below meth c nL D (A) (Q) (k) (n) (w1) (L) (v1 :: st) (pc + 3)) : gG p l e R s m args below meth c nL D (A) (Q) (k) (n) (ws) (L) (s0) (pc) :=
  gx_V K hM Y hcl he hx hx2 hl hs hR ⟨hc.1, hc.2⟩ hw hd (fun v w hp => by
    obtain ⟨rfl, rfl⟩ := hp
    exact kk)
theorem gx_VNd (K : gK p s m args c cc nL own D ty tt A) {b0 q0 ci : Nat} {fs : List Value} {r : vw_C} {host : String} (hM : Cd l y b mL ret d D ty tt (.ref b0 :: av) ws (some v1) w1) (Y : gY y b mL ret av.length) (hcl : vwCl[ci]? = some r) (he : ws[q0]? = some (b0, .inr (ci, fs))) (hx : Cond.instanceMethod y ∈ gB) (hx2 : Cond.selects r.1 y y ∈ gB) (hl : Cond.methodLinkNest own idx y host ∈ gN) (hs : s0 = av.reverse ++ .ref b0 :: st) (hR : d + 1 ≤ R.frames ∧ 8 + (mL + 11) + 40 * d ≤ R.locals) (hc : k ≤ R.cells ∧ n ≤ R.slots) (hw : (st.map fun v => v.category).sum ≤ 8) (hd : decode cc pc = .ok (.invokevirtual idx, 3))
    (kk : gG p l e R s m args below meth c nL D (A) (Q) (k) (n) (w1) (L) (v1 :: st) (pc + 3)) : gG p l e R s m args below meth c nL D (A) (Q) (k) (n) (ws) (L) (s0) (pc) :=
  gx_VN K hM Y hcl he hx hx2 hl hs hR ⟨hc.1, hc.2⟩ hw hd (fun v w hp => by
    obtain ⟨rfl, rfl⟩ := hp
    exact kk)
theorem gx_Sdv (K : gK p s m args c cc nL own D ty tt A) (hM : Cd l y b mL ret d D ty tt av ws none w1) (Y : gY y b mL ret av.length) (hx : Cond.static y ∈ gB) (hl : Cond.methodLink own idx y ∈ gB) (hs : s0 = av.reverse ++ st) (hR : d + 1 ≤ R.frames ∧ 8 + (mL + 11) + 40 * d ≤ R.locals) (hc : k ≤ R.cells ∧ n ≤ R.slots) (hw : (st.map fun v => v.category).sum ≤ 8) (hd : decode cc pc = .ok (.invokestatic idx, 3))
    (kk : gG p l e R s m args below meth c nL D (A) (Q) (k) (n) (w1) (L) (st) (pc + 3)) : gG p l e R s m args below meth c nL D (A) (Q) (k) (n) (ws) (L) (s0) (pc) :=
  gx_S K hM Y hx hl hs hR ⟨hc.1, hc.2⟩ hw hd (fun v w hp => by
    obtain ⟨rfl, rfl⟩ := hp
    exact kk)
theorem gx_SNdv (K : gK p s m args c cc nL own D ty tt A) {host : String} (hM : Cd l y b mL ret d D ty tt av ws none w1) (Y : gY y b mL ret av.length) (hx : Cond.static y ∈ gB) (hl : Cond.methodLinkNest own idx y host ∈ gN) (hs : s0 = av.reverse ++ st) (hR : d + 1 ≤ R.frames ∧ 8 + (mL + 11) + 40 * d ≤ R.locals) (hc : k ≤ R.cells ∧ n ≤ R.slots) (hw : (st.map fun v => v.category).sum ≤ 8) (hd : decode cc pc = .ok (.invokestatic idx, 3))
    (kk : gG p l e R s m args below meth c nL D (A) (Q) (k) (n) (w1) (L) (st) (pc + 3)) : gG p l e R s m args below meth c nL D (A) (Q) (k) (n) (ws) (L) (s0) (pc) :=
  gx_SN K hM Y hx hl hs hR ⟨hc.1, hc.2⟩ hw hd (fun v w hp => by
    obtain ⟨rfl, rfl⟩ := hp
    exact kk)
theorem gx_Vdv (K : gK p s m args c cc nL own D ty tt A) {b0 q0 ci : Nat} {fs : List Value} {r : vw_C} (hM : Cd l y b mL ret d D ty tt (.ref b0 :: av) ws none w1) (Y : gY y b mL ret av.length) (hcl : vwCl[ci]? = some r) (he : ws[q0]? = some (b0, .inr (ci, fs))) (hx : Cond.instanceMethod y ∈ gB) (hx2 : Cond.selects r.1 y y ∈ gB) (hl : Cond.methodLink own idx y ∈ gB) (hs : s0 = av.reverse ++ .ref b0 :: st) (hR : d + 1 ≤ R.frames ∧ 8 + (mL + 11) + 40 * d ≤ R.locals) (hc : k ≤ R.cells ∧ n ≤ R.slots) (hw : (st.map fun v => v.category).sum ≤ 8) (hd : decode cc pc = .ok (.invokevirtual idx, 3))
    (kk : gG p l e R s m args below meth c nL D (A) (Q) (k) (n) (w1) (L) (st) (pc + 3)) : gG p l e R s m args below meth c nL D (A) (Q) (k) (n) (ws) (L) (s0) (pc) :=
  gx_V K hM Y hcl he hx hx2 hl hs hR ⟨hc.1, hc.2⟩ hw hd (fun v w hp => by
    obtain ⟨rfl, rfl⟩ := hp
    exact kk)
theorem gx_VNdv (K : gK p s m args c cc nL own D ty tt A) {b0 q0 ci : Nat} {fs : List Value} {r : vw_C} {host : String} (hM : Cd l y b mL ret d D ty tt (.ref b0 :: av) ws none w1) (Y : gY y b mL ret av.length) (hcl : vwCl[ci]? = some r) (he : ws[q0]? = some (b0, .inr (ci, fs))) (hx : Cond.instanceMethod y ∈ gB) (hx2 : Cond.selects r.1 y y ∈ gB) (hl : Cond.methodLinkNest own idx y host ∈ gN) (hs : s0 = av.reverse ++ .ref b0 :: st) (hR : d + 1 ≤ R.frames ∧ 8 + (mL + 11) + 40 * d ≤ R.locals) (hc : k ≤ R.cells ∧ n ≤ R.slots) (hw : (st.map fun v => v.category).sum ≤ 8) (hd : decode cc pc = .ok (.invokevirtual idx, 3))
    (kk : gG p l e R s m args below meth c nL D (A) (Q) (k) (n) (w1) (L) (st) (pc + 3)) : gG p l e R s m args below meth c nL D (A) (Q) (k) (n) (ws) (L) (s0) (pc) :=
  gx_VN K hM Y hcl he hx hx2 hl hs hR ⟨hc.1, hc.2⟩ hw hd (fun v w hp => by
    obtain ⟨rfl, rfl⟩ := hp
    exact kk)
theorem gx_objInit (K : gK p s m args c cc nL own D ty tt A) {a : Nat} (w1 : Cond.methodLink own idx Lib.objectInit ∈ gB) (w2 : Cond.instanceMethod Lib.objectInit ∈ gB) (w3 : Cond.code Lib.objectInit ⟨#[0xb1]⟩ 1 none ∈ gB) (hR : 1 ≤ R.frames ∧ (st.map fun v => v.category).sum + 12 ≤ R.locals) (hd : decode cc pc = .ok (.invokespecial idx, 3))
    (h : gG p l e R s m args below meth c nL D (A) (Q) (k) (n) (ws) (L) (st) (pc + 3)) : gG p l e R s m args below meth c nL D (A) (Q) (k) (n) (ws) (L) (.ref a :: st) (pc) := by
  intro H locs ls hL hP hD hS
  refine W.objInit K.1 K.2.1 K.2.2.2.1 (K.2.2.2.2.1 _ w1) (K.2.2.2.2.1 _ w2) (K.2.2.2.2.1 _ w3) rfl (by rw [K.2.2.1]; exact hL.1) rfl hd hR.1 (by show 2 * 0 + _ + 12 ≤ _; omega) ?_
  exact W.eq (g2 := F0 m (pc + 3) ls st) rfl (h H locs ls hL hP hD hS)
theorem gx_new (K : gK p s m args c cc nL own D ty tt A) {ci N : Nat} {C : String} {T : u_T} {t0 : Nat → FieldType} {fs : List Value} (hcl : vwCl[ci]? = some (C, T, N)) (hin : ∀ w ∈ u_ws C T N, w ∈ gB) (Ft : gFt C T N t0) (w1 : Cond.classLink own idx C ∈ gB) (w2 : Cond.instantiable C N ∈ gB) (w3 : Cond.initialized C ∈ gB) (hfs : ∀ j, j < N → defaultValue (t0 j) = vp_V fs j) (hc : k + 1 ≤ R.cells ∧ n + N ≤ R.slots) (hd : decode cc pc = .ok (.new idx, 3))
    (h : ∀ q : Nat, gG p l e R s m args below meth c nL D (A) (Q) (k + 1) (n + N) (ws ++ [(q, .inr (ci, fs))]) (L) (.ref q :: st) (pc + 3)) : gG p l e R s m args below meth c nL D (A) (Q) (k) (n) (ws) (L) (st) (pc) :=
  fun H locs ls hL hP hD hS => va_new K.1 K.2.1 K.2.2.2.2.1 hin t0 Ft.1 K.2.2.2.1 (K.2.2.2.2.1 _ w1) (K.2.2.2.2.1 _ w2) (K.2.2.2.2.1 _ w3) K.2.2.2.2.2.2.2.1 hP hD hS K.2.2.2.2.2.1 hcl hfs hc.1 hc.2 hd (fun q H1 hP1 hD1 hS1 => h q H1 locs ls hL hP1 hD1 hS1)
theorem gx_newa (K : gK p s m args c cc nL own D ty tt A) {at1 : ArrayType} {t : Nat} {t1 : FieldType} {x : Int32} {N : Nat} {a0 : vp_A} (w1 : Cond.arrayClass (newarray.typeOf at1) ∈ gB) (ht : newarray.typeOf at1 = t1) (t9 : (gTy ty)[t]? = some (ty t, t1)) (hp : ∀ C, t1 ≠ .object C) (ha : ∀ cA : ClassId, vp_cell cA a0 = arrV cA N (fun _ => defaultValue t1)) (hx : ¬ x < 0 ∧ x.toNatClampNeg = N) (hN : N * componentBytes t1 ≤ 536870912) (hc : k + 1 ≤ R.cells ∧ n + N ≤ R.slots) (hd : decode cc pc = .ok (.newarray at1, 2))
    (h : ∀ q : Nat, gG p l e R s m args below meth c nL D (A) (Q) (k + 1) (n + N) (ws ++ [(q, .inl (ty t, a0))]) (L) (.ref q :: st) (pc + 2)) : gG p l e R s m args below meth c nL D (A) (Q) (k) (n) (ws) (L) (.int x :: st) (pc) := by
  intro H locs ls hL hP hD hS
  refine va_newa K.1 K.2.1 (K.2.2.2.2.1 _ w1) ht K.2.2.2.2.2.2.2.1 hP hD hS K.2.2.2.2.2.1 ha hx.1 hx.2 hN hc.1 hc.2 hd (fun q cA H1 hK1 hP1 hD1 hS1 => ?_)
  have h1 := (hK1.2 (gTy ty).length (cA, t1) (by rw [List.getElem?_append_right (Nat.le_refl _), Nat.sub_self]; rfl)).2
  have h2 := (K.2.2.2.2.2.2.2.1.2 t _ t9).2
  have e : cA = ty t := by
    cases t1 with
    | object C => exact absurd rfl (hp C)
    | _ => exact Option.some.inj (h1.symm.trans h2)
  subst e
  exact h q H1 locs ls hL hP1 hD1 hS1
theorem gx_newq (K : gK p s m args c cc nL own D ty tt A) {t : Nat} {C : String} {x : Int32} {N : Nat} (w1 : Cond.classLink own idx C ∈ gB) (hO : va_AO C s) (t9 : (gTy ty)[t]? = some (ty t, .object C)) (hx : ¬ x < 0 ∧ x.toNatClampNeg = N) (hN : N * 4 ≤ 536870912) (hc : k + 1 ≤ R.cells ∧ n + N ≤ R.slots) (hd : decode cc pc = .ok (.anewarray idx, 3))
    (h : ∀ q : Nat, gG p l e R s m args below meth c nL D (A) (Q) (k + 1) (n + N) (ws ++ [(q, .inl (ty t, N, .inr (.inr (.inr (.inr (fun _ => none))))))]) (L) (.ref q :: st) (pc + 3)) : gG p l e R s m args below meth c nL D (A) (Q) (k) (n) (ws) (L) (.int x :: st) (pc) := by
  intro H locs ls hL hP hD hS
  refine va_newq K.1 K.2.1 K.2.2.2.1 (K.2.2.2.2.1 _ w1) hO K.2.2.2.2.2.2.2.1 hP hD hS K.2.2.2.2.2.1 hx.1 hx.2 hN hc.1 hc.2 hd (fun q cA H1 hK1 hP1 hD1 hS1 => ?_)
  obtain ⟨kA, comp, a1, a2, a3, a4⟩ := (hK1.2 (gTy ty).length (cA, .object C) (by rw [List.getElem?_append_right (Nat.le_refl _), Nat.sub_self]; rfl)).2
  obtain ⟨kB, comp2, b1, b2, b3, b4⟩ := (K.2.2.2.2.2.2.2.1.2 t _ t9).2
  have e : cA = ty t := Option.some.inj (a4.symm.trans b4)
  subst e
  exact h q H1 locs ls hL hP1 hD1 hS1
end GC
