/-! CONTRACTS over a pure state: the method's answer and its world behind it are 'out', which a pure function gives. -/
def xA (L : List Nat) (sz : Nat) : Nat → Prop := fun q => q ∈ L ∨ sz ≤ q
theorem xD_of {A : Nat → Prop} {ws : va_W} (hn : (ws.map (·.1)).Nodup) (hA : ∀ a ∈ ws.map (·.1), A a) : va_D A ws := by
  refine ⟨fun i j p q hi hj h => ?_, fun k q h => hA _ (List.mem_map.mpr ⟨q, List.mem_of_getElem? h, rfl⟩)⟩
  have h1 : (ws.map (·.1))[i]? = some p.1 := by rw [List.getElem?_map, hi]; rfl
  have h2 : (ws.map (·.1))[j]? = some q.1 := by rw [List.getElem?_map, hj]; rfl
  rw [h] at h1
  exact (List.getElem?_inj (List.getElem?_eq_some_iff.mp h1).1 hn).mp (h1.trans h2.symm)
theorem xD_L {S : Type} {wf : S → va_W} {L : List Nat} (hL : ∀ st, (wf st).map (·.1) = L) (hN : L.Nodup) (sz : Nat) (st : S) : va_D (xA L sz) (wf st) :=
  xD_of (by rw [hL]; exact hN) (fun a h => Or.inl (by rw [← hL st]; exact h))
/-- the tables, as a contract hands them on -/
def xK (D : va_G) (tys : List (ClassId × FieldType)) (U : State) : Prop := va_K D classes tys U ∧ ∀ w ∈ NESTW, va_Nw w U
theorem xK.moved {D : va_G} {tys : List (ClassId × FieldType)} {s U : State} (hW : s.WarmedH U.vm) (h : xK D tys s) : xK D tys U := ⟨va_K.moved hW.alike h.1, fun w hw => NESTW_warm w hw hW (h.2 w hw)⟩
theorem xK.blind {D : va_G} {tys : List (ClassId × FieldType)} {s U : State} (hv : s.vm = U.vm) (h : xK D tys s) : xK D tys U := ⟨va_K.moved (hv ▸ Vm.Alike.refl s.vm) h.1, fun w hw => va_Nw.same (NESTW_tab w hw) hv (h.2 w hw)⟩
abbrev xPc {S : Type} (D : va_G) (tys : List (ClassId × FieldType)) (wf : S → va_W) (av : List Value) (st : S) (sz : Nat) : Array Value → State → Prop := va_Pc av (fun U => U.heap.size = sz ∧ va_P D classes (wf st) U.heap ∧ xK D tys U)
abbrev xQi {S : Type} (D : va_G) (wf : S → va_W) (L : List Nat) (out : Int32 × S) (sz : Nat) : Array Value → State → Outcome → State → Prop := va_Qi (fun r u => out = (r, u)) (fun u t => va_P D classes (wf u) t.heap) (xA L sz)
abbrev xQv {S : Type} (D : va_G) (wf : S → va_W) (L : List Nat) (out : S) (sz : Nat) : Array Value → State → Outcome → State → Prop := va_Qv (fun u => out = u) (fun u t => va_P D classes (wf u) t.heap) (xA L sz)
def xMi {S : Type} (l : Launch) (y : MethodName) (b : ByteArray) (n : Nat) (rt : Option FieldType) (rm : Room) (D : va_G) (tys : List (ClassId × FieldType)) (wf : S → va_W) (L : List Nat) (av : List Value) (st : S) (out : Int32 × S) : Prop :=
  ∀ sz : Nat, Met l y (.code y b n rt :: BIG) rm (xPc D tys wf av st sz) (xQi D wf L out sz) 0 0 (xA L sz)
def xMv {S : Type} (l : Launch) (y : MethodName) (b : ByteArray) (n : Nat) (rt : Option FieldType) (rm : Room) (D : va_G) (tys : List (ClassId × FieldType)) (wf : S → va_W) (L : List Nat) (av : List Value) (st : S) (out : S) : Prop :=
  ∀ sz : Nat, Met l y (.code y b n rt :: BIG) rm (xPc D tys wf av st sz) (xQv D wf L out sz) 0 0 (xA L sz)
section XM
variable {l : Launch} {y : MethodName} {b : ByteArray} {n : Nat} {rt : Option FieldType} {rm : Room} {D : va_G} {tys : List (ClassId × FieldType)} {S : Type} {wf : S → va_W} {L : List Nat} {av : List Value} {st : S}
theorem xM_of {Qc : Array Value → State → Outcome → State → Prop} {mc ms sz : Nat} {free : Addr → Prop} (hy : plainName y.cls = true) (hn : (lg_sl av).length ≤ n)
    (body : ∀ (p : Program) (e : Env) (s : State) (m : MethodId) (below : List Frame) (meth : Method) (c : Code), s.heap.size = sz → meth.sig.returnType = rt → xC p s m av.toArray meth c (xA L sz) D n tys b y.cls → xJ p l e rm s m av.toArray below meth c 0 0 (MQ below Qc av.toArray s mc ms free) (xA L sz) D n (wf st) (lv_args 0 av) 0 []) :
    Met l y (.code y b n rt :: BIG) rm (xPc D tys wf av st sz) Qc mc ms free := by
  refine Met.ofW (cc := b) (maxL := n) (ret := rt) hy rfl ?_
  intro p e s m args below meth c s₁ B hml hv
  obtain ⟨rfl, hsz, hP, hK, hNw⟩ := hv
  have hts := atoms_spec (ws := .code y b n rt :: BIG) B.pre
  have hl := lv_entry av (n := n) hn
  rw [lg_entry_eq]
  exact body p e s m below meth c hsz B.returns ⟨⟨B.exec, B.bytes, hml, findClass_of_methodNamed B.named, fun w h => hts w (List.mem_cons_of_mem _ h)⟩, hK, fun q h => Or.inr (by rw [← hsz]; exact h), B.notSynchronized, hNw⟩ s.heap [] _ hP va_S.rf hl
end XM
section XR
variable {p : Program} {l : Launch} {e : Env} {R : Room} {s : State} {m : MethodId} {args : Array Value} {below : List Frame} {meth : Method} {c : Code} {Q : State → Prop} {cells slots : Nat}
variable {A : Nat → Prop} {D : va_G} {tys : List (ClassId × FieldType)} {nL : Nat} {lv : List (Nat × Value)} {pc : Nat} {rest st0 : List Value} {cc : ByteArray} {own : String} {S : Type} {wf : S → va_W} {L : List Nat} {sz : Nat} {st : S}
theorem xj_iret (C : xC p s m args meth c (xA L sz) D nL tys cc own) (hr : meth.sig.returnType = some .int) {out : Int32 × S} {v : Int32} (ho : some (v, st) = some out) (hdg : decode cc pc = .ok (.ireturn, 1)) : xJ p l e R s m args below meth c cells slots (MQ below (xQi D wf L out sz) args s cells slots (xA L sz)) (xA L sz) D nL (wf st) lv pc [.int v] :=
  fun H locs ls hP hS hl => W.iret (v := v) C.ex C.by hr (fun t ht hW => ⟨⟨v, st, rfl, (Option.some.inj ho).symm, (show va_P D classes (wf st) t.heap by rw [ht]; exact hP)⟩, hS.F ht⟩) hS.2.2 hdg C.lk
theorem xj_zret (C : xC p s m args meth c (xA L sz) D nL tys cc own) {ty : FieldType} (hr : meth.sig.returnType = some ty) {out : Int32 × S} {v : Int32} (hn : narrow ty (.int v) = .int v) (ho : some (v, st) = some out) (hdg : decode cc pc = .ok (.ireturn, 1)) : xJ p l e R s m args below meth c cells slots (MQ below (xQi D wf L out sz) args s cells slots (xA L sz)) (xA L sz) D nL (wf st) lv pc [.int v] :=
  fun H locs ls hP hS hl => W.zret (v := v) C.ex C.by hr hn (fun t ht hW => ⟨⟨v, st, rfl, (Option.some.inj ho).symm, (show va_P D classes (wf st) t.heap by rw [ht]; exact hP)⟩, hS.F ht⟩) hS.2.2 hdg C.lk
theorem xj_vret (C : xC p s m args meth c (xA L sz) D nL tys cc own) (hr : meth.sig.returnType = none) {out : S} (ho : some st = some out) (hdg : decode cc pc = .ok (.return_, 1)) : xJ p l e R s m args below meth c cells slots (MQ below (xQv D wf L out sz) args s cells slots (xA L sz)) (xA L sz) D nL (wf st) lv pc [] :=
  fun H locs ls hP hS hl => W.vret C.ex C.by hr (fun t ht hW => ⟨⟨st, rfl, (Option.some.inj ho).symm, (show va_P D classes (wf st) t.heap by rw [ht]; exact hP)⟩, hS.F ht⟩) hS.2.2 hdg C.lk
/-- what the tables say of a callee -/
def xY (y : MethodName) (b : ByteArray) (n : Nat) (rt : Option FieldType) (np : Nat) : Prop := Cond.code y b n rt ∈ BIG ∧ Cond.initialized y.cls ∈ BIG ∧ (y.cls ≠ "java/lang/invoke/MethodHandle" ∧ y.cls ≠ "java/lang/invoke/VarHandle" ∧ (parseMethodDescriptor y.desc).map (fun d => d.parameters.length) = some np)
theorem xGood {y : MethodName} {b : ByteArray} {n : Nat} {rt : Option FieldType} {np : Nat} (h : xY y b n rt np) : GoodIn BIG (.code y b n rt :: BIG) := by
  intro w hw
  rcases List.mem_cons.mp hw with rfl | hw
  · exact BIG_good _ h.1
  · exact BIG_good w hw
theorem xB (C : xC p s m args meth c A D nL tys cc own) {y : MethodName} {b : ByteArray} {n np index : Nat} {rt : Option FieldType} {rm : Room} {mc ms : Nat} (h : xY y b n rt np) (hl : Cond.methodLink own index y ∈ BIG) (hrc : rm.cells = mc) (hrs : rm.slots = ms) (hR : rm.frames + 1 ≤ R.frames ∧ 8 + (n + 11) + rm.locals ≤ R.locals) : CallB R s args own index y b n rt (.code y b n rt :: BIG) rm mc ms np :=
  callB_of (Ts := BIG) (ws' := BIG) np C.ts (xGood h) rfl hrc hrs (C.ts _ h.2.1) (C.ts _ hl) h.2.2 hR
/-- the callee stands in the receiver's class -/
def xIV (own : String) (index : Nat) (y : MethodName) : Prop := Cond.methodLink own index y ∈ BIG ∧ Cond.instanceMethod y ∈ BIG ∧ Cond.selects y.cls y y ∈ BIG
def xIS (own : String) (index : Nat) (y : MethodName) : Prop := Cond.methodLink own index y ∈ BIG ∧ Cond.static y ∈ BIG
def xISN (own : String) (index : Nat) (y : MethodName) : Prop := ∃ host : String, Cond.methodLinkNest own index y host ∈ NESTW ∧ Cond.static y ∈ BIG
def xIVN (own : String) (index : Nat) (y : MethodName) : Prop := ∃ host : String, Cond.methodLinkNest own index y host ∈ NESTW ∧ Cond.instanceMethod y ∈ BIG ∧ Cond.selects y.cls y y ∈ BIG
theorem xBlind {av : List Value} : FrameBlind (xPc D tys wf av st sz) := fun a U g mk q => by
  obtain ⟨q0, q1, qP, qK⟩ := q
  exact ⟨q0, q1, qP, xK.blind (s := U) (U := U.calling g mk a) rfl qK⟩
theorem xPre (C : xC p s m args meth c A D nL tys cc own) {av : List Value} {H : Heap} (hP : va_P D classes (wf st) H) : ∀ U : State, U.heap = H → s.WarmedH U.vm → xPc D tys wf av st H.size av.toArray U :=
  fun U hU hW => ⟨rfl, by rw [hU], by rw [hU]; exact hP, xK.moved hW ⟨C.K, C.nw⟩⟩
theorem xRecv (C : xC p s m args meth c A D nL tys cc own) {ws : va_W} {H : Heap} (hP : va_P D classes ws H) {a q0 ci : Nat} {fs : List Value} {Cn : String} (he : ws[q0]? = some (a, .inr (ci, fs))) (hc : (classes[ci]?).map (·.1) = some Cn) : ∃ cell : Cell, H[a]? = some cell ∧ cell.vm.isStatics = false ∧ s.vm.findClass Cn = some cell.cls := by
  obtain ⟨q, hq, rfl⟩ := Option.map_eq_some_iff.mp hc
  exact va_recv C.K hP hq he
theorem xFree (C : xC p s m args meth c A D nL tys cc own) {H : Heap} {locs : List Loc} (hS : va_S A s.heap H locs) (hA : ∀ q, q ∈ L → A q) : ∀ q, xA L H.size q → A q := fun q h => h.elim (hA q) (fun h => C.fA q (Nat.le_trans hS.1 h))
theorem xj_callVi (C : xC p s m args meth c A D nL tys cc own) {y : MethodName} {b : ByteArray} {n np index : Nat} {rt : Option FieldType} {rm : Room} {out : Int32 × S} {a : Nat} {As : List Value} (hM : xMi l y b n rt rm D tys wf L (.ref a :: As) st out) (hY : xY y b n rt np) (hI : xIV own index y) (q0 : Nat) {ci : Nat} {fs : List Value} (he : (wf st)[q0]? = some (a, .inr (ci, fs))) (hcl : (classes[ci]?).map (·.1) = some y.cls) (hR : rm.frames + 1 ≤ R.frames ∧ 8 + (n + 11) + rm.locals ≤ R.locals) (hrm : rm.cells = 0 ∧ rm.slots = 0) (hnp : As.length = np) (hs : st0 = As.reverse ++ .ref a :: rest) (hw : (rest.map fun v => v.category).sum ≤ 8) (hdg : decode cc pc = .ok (.invokevirtual index, 3)) (hA : ∀ q, q ∈ L → A q) (k : xJ p l e R s m args below meth c 0 0 Q A D nL (wf out.2) lv (pc + 3) (.int out.1 :: rest)) : xJ p l e R s m args below meth c 0 0 Q A D nL (wf st) lv pc st0 := by
  intro H locs ls hP hS hl
  have hAA := xFree C hS hA
  refine va_calli (va_runV (As := As) (rest := rest) C.1 (hM H.size) ⟨xB C hY hI.1 hrm.1 hrm.2 hR, C.ts _ hI.2.1, C.ts _ hI.2.2⟩ ⟨xBlind, xRecv C hP he hcl, xPre C hP⟩ rfl hnp hl.1 hs (lv_room hw) hdg ⟨Nat.zero_le _, Nat.zero_le _⟩) hS (fun q _ h => hAA q h) hAA (fun r u t H1 locs1 ht hvm hw2 hB hz1 hk1 hS1 => ?_)
  subst hw2
  rw [ht] at hB
  exact k H1 locs1 ls hB hS1 hl
theorem xj_callVv (C : xC p s m args meth c A D nL tys cc own) {y : MethodName} {b : ByteArray} {n np index : Nat} {rt : Option FieldType} {rm : Room} {out : S} {a : Nat} {As : List Value} (hM : xMv l y b n rt rm D tys wf L (.ref a :: As) st out) (hY : xY y b n rt np) (hI : xIV own index y) (q0 : Nat) {ci : Nat} {fs : List Value} (he : (wf st)[q0]? = some (a, .inr (ci, fs))) (hcl : (classes[ci]?).map (·.1) = some y.cls) (hR : rm.frames + 1 ≤ R.frames ∧ 8 + (n + 11) + rm.locals ≤ R.locals) (hrm : rm.cells = 0 ∧ rm.slots = 0) (hnp : As.length = np) (hs : st0 = As.reverse ++ .ref a :: rest) (hw : (rest.map fun v => v.category).sum ≤ 8) (hdg : decode cc pc = .ok (.invokevirtual index, 3)) (hA : ∀ q, q ∈ L → A q) (k : xJ p l e R s m args below meth c 0 0 Q A D nL (wf out) lv (pc + 3) rest) : xJ p l e R s m args below meth c 0 0 Q A D nL (wf st) lv pc st0 := by
  intro H locs ls hP hS hl
  have hAA := xFree C hS hA
  refine va_callv (va_runV (As := As) (rest := rest) C.1 (hM H.size) ⟨xB C hY hI.1 hrm.1 hrm.2 hR, C.ts _ hI.2.1, C.ts _ hI.2.2⟩ ⟨xBlind, xRecv C hP he hcl, xPre C hP⟩ rfl hnp hl.1 hs (lv_room hw) hdg ⟨Nat.zero_le _, Nat.zero_le _⟩) hS (fun q _ h => hAA q h) hAA (fun u t H1 locs1 ht hvm hw2 hB hz1 hk1 hS1 => ?_)
  subst hw2
  rw [ht] at hB
  exact k H1 locs1 ls hB hS1 hl
theorem xj_callSi (C : xC p s m args meth c A D nL tys cc own) {y : MethodName} {b : ByteArray} {n np index : Nat} {rt : Option FieldType} {rm : Room} {out : Int32 × S} {As : List Value} (hM : xMi l y b n rt rm D tys wf L As st out) (hY : xY y b n rt np) (hI : xIS own index y) (hR : rm.frames + 1 ≤ R.frames ∧ 8 + (n + 11) + rm.locals ≤ R.locals) (hrm : rm.cells = 0 ∧ rm.slots = 0) (hnp : As.length = np) (hs : st0 = As.reverse ++ rest) (hw : (rest.map fun v => v.category).sum ≤ 8) (hdg : decode cc pc = .ok (.invokestatic index, 3)) (hA : ∀ q, q ∈ L → A q) (k : xJ p l e R s m args below meth c 0 0 Q A D nL (wf out.2) lv (pc + 3) (.int out.1 :: rest)) : xJ p l e R s m args below meth c 0 0 Q A D nL (wf st) lv pc st0 := by
  intro H locs ls hP hS hl
  have hAA := xFree C hS hA
  refine va_calli (va_runS (As := As) (rest := rest) C.1 (hM H.size) ⟨xB C hY hI.1 hrm.1 hrm.2 hR, C.ts _ hI.2⟩ ⟨xBlind, xPre C hP⟩ rfl hnp hl.1 hs (lv_room hw) hdg ⟨Nat.zero_le _, Nat.zero_le _⟩) hS (fun q _ h => hAA q h) hAA (fun r u t H1 locs1 ht hvm hw2 hB hz1 hk1 hS1 => ?_)
  subst hw2
  rw [ht] at hB
  exact k H1 locs1 ls hB hS1 hl
theorem xj_callSv (C : xC p s m args meth c A D nL tys cc own) {y : MethodName} {b : ByteArray} {n np index : Nat} {rt : Option FieldType} {rm : Room} {out : S} {As : List Value} (hM : xMv l y b n rt rm D tys wf L As st out) (hY : xY y b n rt np) (hI : xIS own index y) (hR : rm.frames + 1 ≤ R.frames ∧ 8 + (n + 11) + rm.locals ≤ R.locals) (hrm : rm.cells = 0 ∧ rm.slots = 0) (hnp : As.length = np) (hs : st0 = As.reverse ++ rest) (hw : (rest.map fun v => v.category).sum ≤ 8) (hdg : decode cc pc = .ok (.invokestatic index, 3)) (hA : ∀ q, q ∈ L → A q) (k : xJ p l e R s m args below meth c 0 0 Q A D nL (wf out) lv (pc + 3) rest) : xJ p l e R s m args below meth c 0 0 Q A D nL (wf st) lv pc st0 := by
  intro H locs ls hP hS hl
  have hAA := xFree C hS hA
  refine va_callv (va_runS (As := As) (rest := rest) C.1 (hM H.size) ⟨xB C hY hI.1 hrm.1 hrm.2 hR, C.ts _ hI.2⟩ ⟨xBlind, xPre C hP⟩ rfl hnp hl.1 hs (lv_room hw) hdg ⟨Nat.zero_le _, Nat.zero_le _⟩) hS (fun q _ h => hAA q h) hAA (fun u t H1 locs1 ht hvm hw2 hB hz1 hk1 hS1 => ?_)
  subst hw2
  rw [ht] at hB
  exact k H1 locs1 ls hB hS1 hl
theorem xj_callVNi (C : xC p s m args meth c A D nL tys cc own) {y : MethodName} {b : ByteArray} {n np index : Nat} {rt : Option FieldType} {rm : Room} {out : Int32 × S} {a : Nat} {As : List Value} (hM : xMi l y b n rt rm D tys wf L (.ref a :: As) st out) (hY : xY y b n rt np) (hI : xIVN own index y) (q0 : Nat) {ci : Nat} {fs : List Value} (he : (wf st)[q0]? = some (a, .inr (ci, fs))) (hcl : (classes[ci]?).map (·.1) = some y.cls) (hR : rm.frames + 1 ≤ R.frames ∧ 8 + (n + 11) + rm.locals ≤ R.locals) (hrm : rm.cells = 0 ∧ rm.slots = 0) (hnp : As.length = np) (hs : st0 = As.reverse ++ .ref a :: rest) (hw : (rest.map fun v => v.category).sum ≤ 8) (hdg : decode cc pc = .ok (.invokevirtual index, 3)) (hA : ∀ q, q ∈ L → A q) (k : xJ p l e R s m args below meth c 0 0 Q A D nL (wf out.2) lv (pc + 3) (.int out.1 :: rest)) : xJ p l e R s m args below meth c 0 0 Q A D nL (wf st) lv pc st0 := by
  intro H locs ls hP hS hl
  have hAA := xFree C hS hA
  obtain ⟨host, hI1, hI2⟩ := hI
  refine va_calli (va_runVN (As := As) (rest := rest) C.1 (hM H.size) ⟨va_cnB (Ts := BIG) (ws' := BIG) np C.ts (xGood hY) rfl hrm.1 hrm.2 (C.nw _ hI1) (C.ts _ hY.2.1) hY.2.2 hR, C.ts _ hI2.1, C.ts _ hI2.2⟩ ⟨xBlind, xRecv C hP he hcl, xPre C hP⟩ rfl hnp hl.1 hs (lv_room hw) hdg ⟨Nat.zero_le _, Nat.zero_le _⟩) hS (fun q _ h => hAA q h) hAA (fun r u t H1 locs1 ht hvm hw2 hB hz1 hk1 hS1 => ?_)
  subst hw2
  rw [ht] at hB
  exact k H1 locs1 ls hB hS1 hl
theorem xj_callVNv (C : xC p s m args meth c A D nL tys cc own) {y : MethodName} {b : ByteArray} {n np index : Nat} {rt : Option FieldType} {rm : Room} {out : S} {a : Nat} {As : List Value} (hM : xMv l y b n rt rm D tys wf L (.ref a :: As) st out) (hY : xY y b n rt np) (hI : xIVN own index y) (q0 : Nat) {ci : Nat} {fs : List Value} (he : (wf st)[q0]? = some (a, .inr (ci, fs))) (hcl : (classes[ci]?).map (·.1) = some y.cls) (hR : rm.frames + 1 ≤ R.frames ∧ 8 + (n + 11) + rm.locals ≤ R.locals) (hrm : rm.cells = 0 ∧ rm.slots = 0) (hnp : As.length = np) (hs : st0 = As.reverse ++ .ref a :: rest) (hw : (rest.map fun v => v.category).sum ≤ 8) (hdg : decode cc pc = .ok (.invokevirtual index, 3)) (hA : ∀ q, q ∈ L → A q) (k : xJ p l e R s m args below meth c 0 0 Q A D nL (wf out) lv (pc + 3) rest) : xJ p l e R s m args below meth c 0 0 Q A D nL (wf st) lv pc st0 := by
  intro H locs ls hP hS hl
  have hAA := xFree C hS hA
  obtain ⟨host, hI1, hI2⟩ := hI
  refine va_callv (va_runVN (As := As) (rest := rest) C.1 (hM H.size) ⟨va_cnB (Ts := BIG) (ws' := BIG) np C.ts (xGood hY) rfl hrm.1 hrm.2 (C.nw _ hI1) (C.ts _ hY.2.1) hY.2.2 hR, C.ts _ hI2.1, C.ts _ hI2.2⟩ ⟨xBlind, xRecv C hP he hcl, xPre C hP⟩ rfl hnp hl.1 hs (lv_room hw) hdg ⟨Nat.zero_le _, Nat.zero_le _⟩) hS (fun q _ h => hAA q h) hAA (fun u t H1 locs1 ht hvm hw2 hB hz1 hk1 hS1 => ?_)
  subst hw2
  rw [ht] at hB
  exact k H1 locs1 ls hB hS1 hl
theorem xj_callSNi (C : xC p s m args meth c A D nL tys cc own) {y : MethodName} {b : ByteArray} {n np index : Nat} {rt : Option FieldType} {rm : Room} {out : Int32 × S} {As : List Value} (hM : xMi l y b n rt rm D tys wf L As st out) (hY : xY y b n rt np) (hI : xISN own index y) (hR : rm.frames + 1 ≤ R.frames ∧ 8 + (n + 11) + rm.locals ≤ R.locals) (hrm : rm.cells = 0 ∧ rm.slots = 0) (hnp : As.length = np) (hs : st0 = As.reverse ++ rest) (hw : (rest.map fun v => v.category).sum ≤ 8) (hdg : decode cc pc = .ok (.invokestatic index, 3)) (hA : ∀ q, q ∈ L → A q) (k : xJ p l e R s m args below meth c 0 0 Q A D nL (wf out.2) lv (pc + 3) (.int out.1 :: rest)) : xJ p l e R s m args below meth c 0 0 Q A D nL (wf st) lv pc st0 := by
  intro H locs ls hP hS hl
  have hAA := xFree C hS hA
  obtain ⟨host, hI1, hI2⟩ := hI
  refine va_calli (va_runSN (As := As) (rest := rest) C.1 (hM H.size) ⟨va_cnB (Ts := BIG) (ws' := BIG) np C.ts (xGood hY) rfl hrm.1 hrm.2 (C.nw _ hI1) (C.ts _ hY.2.1) hY.2.2 hR, C.ts _ hI2, trivial⟩ ⟨xBlind, xPre C hP⟩ rfl hnp hl.1 hs (lv_room hw) hdg ⟨Nat.zero_le _, Nat.zero_le _⟩) hS (fun q _ h => hAA q h) hAA (fun r u t H1 locs1 ht hvm hw2 hB hz1 hk1 hS1 => ?_)
  subst hw2
  rw [ht] at hB
  exact k H1 locs1 ls hB hS1 hl
theorem xj_callSNv (C : xC p s m args meth c A D nL tys cc own) {y : MethodName} {b : ByteArray} {n np index : Nat} {rt : Option FieldType} {rm : Room} {out : S} {As : List Value} (hM : xMv l y b n rt rm D tys wf L As st out) (hY : xY y b n rt np) (hI : xISN own index y) (hR : rm.frames + 1 ≤ R.frames ∧ 8 + (n + 11) + rm.locals ≤ R.locals) (hrm : rm.cells = 0 ∧ rm.slots = 0) (hnp : As.length = np) (hs : st0 = As.reverse ++ rest) (hw : (rest.map fun v => v.category).sum ≤ 8) (hdg : decode cc pc = .ok (.invokestatic index, 3)) (hA : ∀ q, q ∈ L → A q) (k : xJ p l e R s m args below meth c 0 0 Q A D nL (wf out) lv (pc + 3) rest) : xJ p l e R s m args below meth c 0 0 Q A D nL (wf st) lv pc st0 := by
  intro H locs ls hP hS hl
  have hAA := xFree C hS hA
  obtain ⟨host, hI1, hI2⟩ := hI
  refine va_callv (va_runSN (As := As) (rest := rest) C.1 (hM H.size) ⟨va_cnB (Ts := BIG) (ws' := BIG) np C.ts (xGood hY) rfl hrm.1 hrm.2 (C.nw _ hI1) (C.ts _ hY.2.1) hY.2.2 hR, C.ts _ hI2, trivial⟩ ⟨xBlind, xPre C hP⟩ rfl hnp hl.1 hs (lv_room hw) hdg ⟨Nat.zero_le _, Nat.zero_le _⟩) hS (fun q _ h => hAA q h) hAA (fun u t H1 locs1 ht hvm hw2 hB hz1 hk1 hS1 => ?_)
  subst hw2
  rw [ht] at hB
  exact k H1 locs1 ls hB hS1 hl
end XR
abbrev j_i {S : Type} (p : Program) (l : Launch) (e : Env) (R : Room) (s : State) (m : MethodId) (args : Array Value) (below : List Frame) (meth : Method) (c : Code) (sz : Nat) (D : va_G) (wf : S → va_W) (L : List Nat) (out : Int32 × S) (nL : Nat) (ws : va_W) (lv : List (Nat × Value)) (pc : Nat) (st : List Value) : Prop := xJ p l e R s m args below meth c 0 0 (MQ below (xQi D wf L out sz) args s 0 0 (xA L sz)) (xA L sz) D nL ws lv pc st
abbrev j_v {S : Type} (p : Program) (l : Launch) (e : Env) (R : Room) (s : State) (m : MethodId) (args : Array Value) (below : List Frame) (meth : Method) (c : Code) (sz : Nat) (D : va_G) (wf : S → va_W) (L : List Nat) (out : S) (nL : Nat) (ws : va_W) (lv : List (Nat × Value)) (pc : Nat) (st : List Value) : Prop := xJ p l e R s m args below meth c 0 0 (MQ below (xQv D wf L out sz) args s 0 0 (xA L sz)) (xA L sz) D nL ws lv pc st
