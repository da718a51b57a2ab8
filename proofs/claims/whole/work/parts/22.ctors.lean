/-! CONSTRUCTORS: a world that grows at its end. -/
theorem va_D_left {A : Nat → Prop} {a b : va_W} (h : va_D A (a ++ b)) : va_D A a := by
  refine ⟨fun i j p q hi hj e => h.1 i j p q ?_ ?_ e, fun k q hq => h.2 k q ?_⟩
  · rw [List.getElem?_append_left (List.getElem?_eq_some_iff.mp hi).1]; exact hi
  · rw [List.getElem?_append_left (List.getElem?_eq_some_iff.mp hj).1]; exact hj
  · rw [List.getElem?_append_left (List.getElem?_eq_some_iff.mp hq).1]; exact hq
theorem va_D_right {A : Nat → Prop} {a b : va_W} (h : va_D A (a ++ b)) : va_D A b := by
  have sh : ∀ (k : Nat) (q : Nat × va_E), b[k]? = some q → (a ++ b)[a.length + k]? = some q := fun k q hq => by
    rw [List.getElem?_append_right (Nat.le_add_right _ _), Nat.add_sub_cancel_left]; exact hq
  refine ⟨fun i j p q hi hj e => ?_, fun k q hq => h.2 _ q (sh k q hq)⟩
  have := h.1 _ _ p q (sh i p hi) (sh j q hj) e
  omega
theorem va_D_cross {A : Nat → Prop} {a b : va_W} (h : va_D A (a ++ b)) {i j : Nat} {p q : Nat × va_E} (hi : a[i]? = some p) (hj : b[j]? = some q) : p.1 ≠ q.1 := fun e => by
  have h1 : (a ++ b)[i]? = some p := by rw [List.getElem?_append_left (List.getElem?_eq_some_iff.mp hi).1]; exact hi
  have h2 : (a ++ b)[a.length + j]? = some q := by rw [List.getElem?_append_right (Nat.le_add_right _ _), Nat.add_sub_cancel_left]; exact hj
  have := h.1 _ _ p q h1 h2 e
  have := (List.getElem?_eq_some_iff.mp hi).1
  omega
/-- a constructor's contract: it makes its own cells, their addresses qa are new -/
def xMc (l : Launch) (y : MethodName) (b : ByteArray) (n : Nat) (rm : Room) (D : va_G) (tys : List (ClassId × FieldType)) (av : List Value) (w0 : va_W) (wf : (Nat → Nat) → va_W) (mc ms : Nat) : Prop :=
  ∀ sz : Nat, Met l y (.code y b n none :: BIG) rm (va_Pc av (fun U => U.heap.size = sz ∧ va_P D classes w0 U.heap ∧ va_D (fun _ => True) w0 ∧ xK D tys U)) (va_Qv (fun _ : Nat → Nat => True) (fun qa t => va_P D classes (wf qa) t.heap ∧ va_D (xA (w0.map (·.1)) sz) (wf qa)) (xA (w0.map (·.1)) sz)) mc ms (xA (w0.map (·.1)) sz)
section XN
variable {p : Program} {l : Launch} {e : Env} {R : Room} {s : State} {m : MethodId} {args : Array Value} {below : List Frame} {meth : Method} {c : Code} {Q : State → Prop} {cells slots : Nat}
variable {A : Nat → Prop} {D : va_G} {tys : List (ClassId × FieldType)} {nL : Nat} {lv : List (Nat × Value)} {pc : Nat} {rest st0 : List Value} {cc : ByteArray} {own : String} {ws wr : va_W}
theorem xMc_of {y : MethodName} {b : ByteArray} {n : Nat} {rm : Room} {av : List Value} {w0 : va_W} {Qc : Array Value → State → Outcome → State → Prop} {mc ms sz : Nat} {free : Addr → Prop} (hy : plainName y.cls = true) (hn : (lg_sl av).length ≤ n)
    (body : ∀ (p : Program) (e : Env) (s : State) (m : MethodId) (below : List Frame) (meth : Method) (c : Code), s.heap.size = sz → meth.sig.returnType = none → meth.name = y.name → va_D (xA (w0.map (·.1)) sz) w0 → xC p s m av.toArray meth c (xA (w0.map (·.1)) sz) D n tys b y.cls → xJ p l e rm s m av.toArray below meth c 0 0 (MQ below Qc av.toArray s mc ms free) (xA (w0.map (·.1)) sz) D n w0 (lv_args 0 av) 0 []) :
    Met l y (.code y b n none :: BIG) rm (va_Pc av (fun U => U.heap.size = sz ∧ va_P D classes w0 U.heap ∧ va_D (fun _ => True) w0 ∧ xK D tys U)) Qc mc ms free := by
  refine Met.ofW (cc := b) (maxL := n) (ret := none) hy rfl ?_
  intro p e s m args below meth c s₁ B hml hv
  obtain ⟨rfl, hsz, hP, hD, hK, hNw⟩ := hv
  have hts := atoms_spec (ws := .code y b n none :: BIG) B.pre
  have hl := lv_entry av (n := n) hn
  rw [lg_entry_eq]
  exact body p e s m below meth c hsz B.returns (name_of_methodNamed B.named B.method).1 ⟨hD.1, fun k q hq => Or.inl (List.mem_map.mpr ⟨q, List.mem_of_getElem? hq, rfl⟩)⟩ ⟨⟨B.exec, B.bytes, hml, findClass_of_methodNamed B.named, fun w h => hts w (List.mem_cons_of_mem _ h)⟩, hK, fun q h => Or.inr (by rw [← hsz]; exact h), B.notSynchronized, hNw⟩ s.heap [] _ hP va_S.rf hl
/-- Object's constructor -/
def xOI (own : String) (idx : Nat) : Prop := Cond.methodLink own idx objectInit ∈ BIG ∧ Cond.instanceMethod objectInit ∈ BIG ∧ Cond.code objectInit ⟨#[0xb1]⟩ 1 none ∈ BIG
theorem xj_objInit (C : xC p s m args meth c A D nL tys cc own) {idx a : Nat} (h : xOI own idx) (hdg : decode cc pc = .ok (.invokespecial idx, 3)) (hf : 1 ≤ R.frames) (hlo : (rest.map fun v => v.category).sum + 12 ≤ R.locals) (k : xJ p l e R s m args below meth c cells slots Q A D nL ws lv (pc + 3) rest) : xJ p l e R s m args below meth c cells slots Q A D nL ws lv pc (.ref a :: rest) := fun H locs ls hP hS hl =>
  W.objInit C.ex C.by C.ow (C.ts _ h.1) (C.ts _ h.2.1) (C.ts _ h.2.2) (g := F0 m pc ls (.ref a :: rest)) rfl (by rw [C.1.2.2.1]; exact hl.1) rfl hdg hf (by show 2 * 0 + _ + 12 ≤ _; omega) (k H locs ls hP hS hl)
theorem xj_newi (C : xC p s m args meth c A D nL tys cc own) (hD : va_D A ws) (t0 : Nat) {cI : ClassId} (ht : tys[t0]? = some (cI, .int)) (harr : Cond.arrayClass .int ∈ BIG) {n : Int32} {N : Nat} (hn : ¬ n < 0) (hN : n.toNatClampNeg = N) (hb : N * componentBytes .int ≤ 536870912) (hc : cells + 1 ≤ R.cells) (hs : slots + N ≤ R.slots) (hdg : decode cc pc = .ok (.newarray .int, 2))
    (k : ∀ q : Nat, va_D A (ws ++ [(q, .inl (cI, N, .inl (fun _ => 0)))]) → xJ p l e R s m args below meth c (cells + 1) (slots + N) Q A D nL (ws ++ [(q, .inl (cI, N, .inl (fun _ => 0)))]) lv (pc + 2) (.ref q :: rest)) : xJ p l e R s m args below meth c cells slots Q A D nL ws lv pc (.int n :: rest) := by
  intro H locs ls hP hS hl
  refine va_newa (atype := .int) (ty := .int) (a0 := (N, .inl (fun _ => 0))) C.ex C.by (C.ts _ harr) rfl C.K hP hD hS C.fA (fun _ => rfl) hn hN hb hc hs hdg (fun q cA H1 hK1 hP1 hD1 hS1 => ?_)
  have h1 : s.vm.findClass ("[" ++ FieldType.int.toString) = some cI := (C.K.2 t0 _ ht).2
  have h2 : s.vm.findClass ("[" ++ FieldType.int.toString) = some cA := (hK1.2 tys.length (cA, .int) (by simp)).2
  cases h1.symm.trans h2
  exact k q hD1 H1 locs ls hP1 hS1 hl
theorem xj_newz (C : xC p s m args meth c A D nL tys cc own) (hD : va_D A ws) (t0 : Nat) {cI : ClassId} (ht : tys[t0]? = some (cI, .boolean)) (harr : Cond.arrayClass .boolean ∈ BIG) {n : Int32} {N : Nat} (hn : ¬ n < 0) (hN : n.toNatClampNeg = N) (hb : N * componentBytes .boolean ≤ 536870912) (hc : cells + 1 ≤ R.cells) (hs : slots + N ≤ R.slots) (hdg : decode cc pc = .ok (.newarray .boolean, 2))
    (k : ∀ q : Nat, va_D A (ws ++ [(q, .inl (cI, N, .inl (fun _ => 0)))]) → xJ p l e R s m args below meth c (cells + 1) (slots + N) Q A D nL (ws ++ [(q, .inl (cI, N, .inl (fun _ => 0)))]) lv (pc + 2) (.ref q :: rest)) : xJ p l e R s m args below meth c cells slots Q A D nL ws lv pc (.int n :: rest) := by
  intro H locs ls hP hS hl
  refine va_newa (atype := .boolean) (ty := .boolean) (a0 := (N, .inl (fun _ => 0))) C.ex C.by (C.ts _ harr) rfl C.K hP hD hS C.fA (fun _ => rfl) hn hN hb hc hs hdg (fun q cA H1 hK1 hP1 hD1 hS1 => ?_)
  have h1 : s.vm.findClass ("[" ++ FieldType.boolean.toString) = some cI := (C.K.2 t0 _ ht).2
  have h2 : s.vm.findClass ("[" ++ FieldType.boolean.toString) = some cA := (hK1.2 tys.length (cA, .boolean) (by simp)).2
  cases h1.symm.trans h2
  exact k q hD1 H1 locs ls hP1 hS1 hl
theorem xj_newl (C : xC p s m args meth c A D nL tys cc own) (hD : va_D A ws) (t0 : Nat) {cI : ClassId} (ht : tys[t0]? = some (cI, .long)) (harr : Cond.arrayClass .long ∈ BIG) {n : Int32} {N : Nat} (hn : ¬ n < 0) (hN : n.toNatClampNeg = N) (hb : N * componentBytes .long ≤ 536870912) (hc : cells + 1 ≤ R.cells) (hs : slots + N ≤ R.slots) (hdg : decode cc pc = .ok (.newarray .long, 2))
    (k : ∀ q : Nat, va_D A (ws ++ [(q, .inl (cI, N, .inr (.inl (fun _ => 0))))]) → xJ p l e R s m args below meth c (cells + 1) (slots + N) Q A D nL (ws ++ [(q, .inl (cI, N, .inr (.inl (fun _ => 0))))]) lv (pc + 2) (.ref q :: rest)) : xJ p l e R s m args below meth c cells slots Q A D nL ws lv pc (.int n :: rest) := by
  intro H locs ls hP hS hl
  refine va_newa (atype := .long) (ty := .long) (a0 := (N, .inr (.inl (fun _ => 0)))) C.ex C.by (C.ts _ harr) rfl C.K hP hD hS C.fA (fun _ => rfl) hn hN hb hc hs hdg (fun q cA H1 hK1 hP1 hD1 hS1 => ?_)
  have h1 : s.vm.findClass ("[" ++ FieldType.long.toString) = some cI := (C.K.2 t0 _ ht).2
  have h2 : s.vm.findClass ("[" ++ FieldType.long.toString) = some cA := (hK1.2 tys.length (cA, .long) (by simp)).2
  cases h1.symm.trans h2
  exact k q hD1 H1 locs ls hP1 hS1 hl
/-- a final field is laid in its own class's constructor -/
def xFF (own : String) (ci k : Nat) (ty : FieldType) : Prop := ∃ (C : String) (T : u_T) (N : Nat) (t0 : Nat → FieldType), classes[ci]? = some (C, T, N) ∧ (∀ k, k < N → parseFieldDescriptor (T k).2.2.1 = some (t0 k)) ∧ (∀ a, a < N → ∀ b, b < N → a ≠ b → (T a).2.1 ≠ (T b).2.1) ∧ (T k).2.2.2 = true ∧ parseFieldDescriptor (T k).2.2.1 = some ty ∧ (T k).1 = own
theorem xj_putF (C : xC p s m args meth c A D nL tys cc own) {index ci k a : Nat} {ty : FieldType} (F : xF own index ci k) (G : xFF own ci k ty) (hin : meth.name = "<init>") (hD : va_D A ws) (q0 : Nat) {fs : List Value} {v : Value} {ws' : va_W} (he : ws[q0]? = some (a, .inr (ci, fs))) (hn : narrow ty v = v) (hfit : fits ty v = true) (hl9 : k < fs.length) (hdg : decode cc pc = .ok (.putfield index, 3)) (hws : ws.set q0 (a, .inr (ci, fs.set k v)) = ws') (kk : va_D A ws' → xJ p l e R s m args below meth c cells slots Q A D nL ws' lv (pc + 3) rest) : xJ p l e R s m args below meth c cells slots Q A D nL ws lv pc (v :: .ref a :: rest) := by
  intro H locs ls hP hS hl
  obtain ⟨C9, T9, N9, hc, hin9, hk, hlk⟩ := F
  obtain ⟨C8, T8, N8, t0, hc8, ht8, hn8, hf8, hp8, hd8⟩ := G
  rw [hc] at hc8
  cases hc8
  refine va_putF (D := D) (ci := ci) (C := C9) (T := T9) (N := N9) C.ex C.by C.ts hin9 t0 ht8 hn8 C.ow C.K hP hD hS q0 he hc k hk (C.ts _ hlk) (fun _ h9 => h9) hf8 hin hd8 hp8 hn hfit hl9 hdg (fun H1 locs1 hP1 hD1 hS1 => ?_)
  rw [hws] at hP1 hD1
  exact kk hD1 H1 locs1 ls hP1 hS1 hl
theorem xj_putD (C : xC p s m args meth c A D nL tys cc own) {index ci k a : Nat} {ty : FieldType} (F : xF own index ci k) (G : xFW ci k ty) (hD : va_D A ws) (q0 : Nat) {fs : List Value} {v : Value} {ws' : va_W} (he : ws[q0]? = some (a, .inr (ci, fs))) (hn : narrow ty v = v) (hfit : fits ty v = true) (hl9 : k < fs.length) (hdg : decode cc pc = .ok (.putfield index, 3)) (hws : ws.set q0 (a, .inr (ci, fs.set k v)) = ws') (kk : va_D A ws' → xJ p l e R s m args below meth c cells slots Q A D nL ws' lv (pc + 3) rest) : xJ p l e R s m args below meth c cells slots Q A D nL ws lv pc (v :: .ref a :: rest) :=
  xj_put C F G hD q0 he hn hfit hl9 hdg hws (kk (by rw [← hws]; exact hD.set he))
/-- what the tables say of a class that is made -/
def xNC (own : String) (index ci N : Nat) (ty : Nat → FieldType) : Prop := ∃ (C : String) (T : u_T), classes[ci]? = some (C, T, N) ∧ (∀ w ∈ u_ws C T N, w ∈ BIG) ∧ (∀ k, k < N → parseFieldDescriptor (T k).2.2.1 = some (ty k)) ∧ Cond.classLink own index C ∈ BIG ∧ Cond.instantiable C N ∈ BIG ∧ Cond.initialized C ∈ BIG
theorem xj_new (C : xC p s m args meth c A D nL tys cc own) (hD : va_D A ws) {index ci N : Nat} {ty : Nat → FieldType} (F : xNC own index ci N ty) {fs : List Value} (hfs : ∀ j, j < N → defaultValue (ty j) = vp_V fs j) (hc : cells + 1 ≤ R.cells) (hs : slots + N ≤ R.slots) (hdg : decode cc pc = .ok (.new index, 3))
    (k : ∀ q : Nat, va_D A (ws ++ [(q, .inr (ci, fs))]) → xJ p l e R s m args below meth c (cells + 1) (slots + N) Q A D nL (ws ++ [(q, .inr (ci, fs))]) lv (pc + 3) (.ref q :: rest)) : xJ p l e R s m args below meth c cells slots Q A D nL ws lv pc rest := by
  intro H locs ls hP hS hl
  obtain ⟨C9, T9, hc9, hin, hty, h1, h2, h3⟩ := F
  exact va_new (ci := ci) (fs := fs) (C := C9) (T := T9) (N := N) C.ex C.by C.ts hin ty hty C.ow (C.ts _ h1) (C.ts _ h2) (C.ts _ h3) C.K hP hD hS C.fA hc9 hfs hc hs hdg (fun q H1 hP1 hD1 hS1 => k q hD1 H1 locs ls hP1 hS1 hl)
/-- the end of a constructor -/
theorem xj_cret {L0 : List Nat} {sz : Nat} {wf : (Nat → Nat) → va_W} (C : xC p s m args meth c (xA L0 sz) D nL tys cc own) (hr : meth.sig.returnType = none) (qa : Nat → Nat) (hw : ws = wf qa) (hD : va_D (xA L0 sz) ws) (hdg : decode cc pc = .ok (.return_, 1)) : xJ p l e R s m args below meth c cells slots (MQ below (va_Qv (fun _ : Nat → Nat => True) (fun qa t => va_P D classes (wf qa) t.heap ∧ va_D (xA L0 sz) (wf qa)) (xA L0 sz)) args s cells slots (xA L0 sz)) (xA L0 sz) D nL ws lv pc [] := by
  subst hw
  exact fun H locs ls hP hS hl => W.vret C.ex C.by hr (fun t ht hW => ⟨⟨qa, rfl, trivial, (show va_P D classes (wf qa) t.heap by rw [ht]; exact hP), hD⟩, hS.F ht⟩) hS.2.2 hdg C.lk
def xII (own : String) (index : Nat) (y : MethodName) : Prop := y.name = "<init>" ∧ Cond.instanceMethod y ∈ BIG ∧ Cond.methodLink own index y ∈ BIG
def xIIN (own : String) (index : Nat) (y : MethodName) : Prop := y.name = "<init>" ∧ Cond.instanceMethod y ∈ BIG ∧ ∃ host : String, Cond.methodLinkNest own index y host ∈ NESTW
theorem xj_callC {tysC : List (ClassId × FieldType)} (C : xC p s m args meth c A D nL tys cc own) {w0 : va_W} {wf : (Nat → Nat) → va_W} (hD : va_D A (wr ++ w0)) {y : MethodName} {b : ByteArray} {n np index mc ms : Nat} {rm : Room} {a : Nat} {As : List Value} (hM : xMc l y b n rm D tysC (.ref a :: As) w0 wf mc ms) (hsub : ∃ is : List Nat, is.filterMap (fun i => tys[i]?) = tysC) (hY : xY y b n none np) (hI : xII own index y) (hR : rm.frames + 1 ≤ R.frames ∧ 8 + (n + 11) + rm.locals ≤ R.locals) (hrm : rm.cells = mc ∧ rm.slots = ms) (hnp : As.length = np) (hs : st0 = As.reverse ++ .ref a :: rest) (hw : (rest.map fun v => v.category).sum ≤ 8) (hdg : decode cc pc = .ok (.invokespecial index, 3)) (hRc : cells + mc ≤ R.cells) (hRs : slots + ms ≤ R.slots)
    (k : ∀ qa : Nat → Nat, va_D A (wr ++ wf qa) → xJ p l e R s m args below meth c (cells + mc) (slots + ms) Q A D nL (wr ++ wf qa) lv (pc + 3) rest) : xJ p l e R s m args below meth c cells slots Q A D nL (wr ++ w0) lv pc st0 := by
  intro H locs ls hP hS hl
  have hA : ∀ q, q ∈ w0.map (·.1) → A q := fun q hq => by
    obtain ⟨z, hz, rfl⟩ := List.mem_map.mp hq
    obtain ⟨i, hi⟩ := List.getElem?_of_mem hz
    exact (va_D_right hD).2 i z hi
  have hAA := xFree C hS hA
  refine va_callv (va_runI (As := As) (rest := rest) C.1 (hM H.size) ⟨xB C hY hI.2.2 hrm.1 hrm.2 hR, hI.1, C.ts _ hI.2.1⟩ ⟨fun v U g mk q => ?_, fun U hU hW => ⟨rfl, by rw [hU], by rw [hU]; exact va_P_right hP, ⟨(va_D_right hD).1, fun _ _ _ => trivial⟩, by obtain ⟨is, his⟩ := hsub; exact xK.moved hW ⟨C.K.sub is his, C.nw⟩⟩⟩ rfl hnp hl.1 hs (lv_room hw) hdg ⟨hRc, hRs⟩) hS (fun q _ h => hAA q h) hAA (fun qa t H1 locs1 ht hvm hw2 hB hz1 hk1 hS1 => ?_)
  · obtain ⟨q0, q1, qP, qD, qK⟩ := q
    exact ⟨q0, q1, qP, qD, xK.blind (s := U) (U := U.calling g mk v) rfl qK⟩
  · obtain ⟨hP1, hD1⟩ := hB
    rw [ht] at hP1
    have hlt : ∀ (i : Nat) (z : Nat × va_E), wr[i]? = some z → z.1 < H.size := fun i z hz => va_at.lt (va_P_left hP i z hz)
    have hout : ∀ (i : Nat) (z : Nat × va_E), wr[i]? = some z → ¬ xA (w0.map (·.1)) H.size z.1 := fun i z hz h => by
      rcases h with h | h
      · obtain ⟨w, hw9, e9⟩ := List.mem_map.mp h
        obtain ⟨j, hj⟩ := List.getElem?_of_mem hw9
        exact va_D_cross hD hz hj e9.symm
      · exact absurd (hlt i z hz) (Nat.not_lt.mpr h)
    have hPr : va_P D classes wr H1 := (va_P_left hP).kept (fun i z hz => hk1 z.1 (hlt i z hz) (hout i z hz))
    refine k qa ((va_D_left hD).app (hD1.weaken (fun _ _ _ h => hAA _ h)) (fun i j u v hi hj e9 => hout i u hi (by rw [e9]; exact hD1.2 j v hj))) H1 locs1 ls (hPr.app hP1) hS1 hl
theorem xj_callCN {tysC : List (ClassId × FieldType)} (C : xC p s m args meth c A D nL tys cc own) {w0 : va_W} {wf : (Nat → Nat) → va_W} (hD : va_D A (wr ++ w0)) {y : MethodName} {b : ByteArray} {n np index mc ms : Nat} {rm : Room} {a : Nat} {As : List Value} (hM : xMc l y b n rm D tysC (.ref a :: As) w0 wf mc ms) (hsub : ∃ is : List Nat, is.filterMap (fun i => tys[i]?) = tysC) (hY : xY y b n none np) (hI : xIIN own index y) (hR : rm.frames + 1 ≤ R.frames ∧ 8 + (n + 11) + rm.locals ≤ R.locals) (hrm : rm.cells = mc ∧ rm.slots = ms) (hnp : As.length = np) (hs : st0 = As.reverse ++ .ref a :: rest) (hw : (rest.map fun v => v.category).sum ≤ 8) (hdg : decode cc pc = .ok (.invokespecial index, 3)) (hRc : cells + mc ≤ R.cells) (hRs : slots + ms ≤ R.slots)
    (k : ∀ qa : Nat → Nat, va_D A (wr ++ wf qa) → xJ p l e R s m args below meth c (cells + mc) (slots + ms) Q A D nL (wr ++ wf qa) lv (pc + 3) rest) : xJ p l e R s m args below meth c cells slots Q A D nL (wr ++ w0) lv pc st0 := by
  obtain ⟨hI1, hI2, host, hI3⟩ := hI
  intro H locs ls hP hS hl
  have hA : ∀ q, q ∈ w0.map (·.1) → A q := fun q hq => by
    obtain ⟨z, hz, rfl⟩ := List.mem_map.mp hq
    obtain ⟨i, hi⟩ := List.getElem?_of_mem hz
    exact (va_D_right hD).2 i z hi
  have hAA := xFree C hS hA
  refine va_callv (va_runIN (As := As) (rest := rest) C.1 (hM H.size) ⟨va_cnB (Ts := BIG) (ws' := BIG) np C.ts (xGood hY) rfl hrm.1 hrm.2 (C.nw _ hI3) (C.ts _ hY.2.1) hY.2.2 hR, hI1, C.ts _ hI2⟩ ⟨fun v U g mk q => ?_, fun U hU hW => ⟨rfl, by rw [hU], by rw [hU]; exact va_P_right hP, ⟨(va_D_right hD).1, fun _ _ _ => trivial⟩, by obtain ⟨is, his⟩ := hsub; exact xK.moved hW ⟨C.K.sub is his, C.nw⟩⟩⟩ rfl hnp hl.1 hs (lv_room hw) hdg ⟨hRc, hRs⟩) hS (fun q _ h => hAA q h) hAA (fun qa t H1 locs1 ht hvm hw2 hB hz1 hk1 hS1 => ?_)
  · obtain ⟨q0, q1, qP, qD, qK⟩ := q
    exact ⟨q0, q1, qP, qD, xK.blind (s := U) (U := U.calling g mk v) rfl qK⟩
  · obtain ⟨hP1, hD1⟩ := hB
    rw [ht] at hP1
    have hlt : ∀ (i : Nat) (z : Nat × va_E), wr[i]? = some z → z.1 < H.size := fun i z hz => va_at.lt (va_P_left hP i z hz)
    have hout : ∀ (i : Nat) (z : Nat × va_E), wr[i]? = some z → ¬ xA (w0.map (·.1)) H.size z.1 := fun i z hz h => by
      rcases h with h | h
      · obtain ⟨w, hw9, e9⟩ := List.mem_map.mp h
        obtain ⟨j, hj⟩ := List.getElem?_of_mem hw9
        exact va_D_cross hD hz hj e9.symm
      · exact absurd (hlt i z hz) (Nat.not_lt.mpr h)
    have hPr : va_P D classes wr H1 := (va_P_left hP).kept (fun i z hz => hk1 z.1 (hlt i z hz) (hout i z hz))
    refine k qa ((va_D_left hD).app (hD1.weaken (fun _ _ _ h => hAA _ h)) (fun i j u v hi hj e9 => hout i u hi (by rw [e9]; exact hD1.2 j v hj))) H1 locs1 ls (hPr.app hP1) hS1 hl
end XN
