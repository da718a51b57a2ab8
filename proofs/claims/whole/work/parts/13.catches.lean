/-! CATCHING: the search through a method's table where the catch types may be unresolved yet; a call that may throw. -/
section XH
variable {p : Program} {l : Launch} {e : Env} {R : Room} {s : State} {m : MethodId} {args : Array Value} {below : List Frame} {meth : Method} {c : Code} {H : Heap} {locs : List Loc} {cells slots : Nat} {Q : State → Prop}
/-- one row of the table: its class links; the search ends there or goes on, with the class noted -/
theorem xGo1 {Q : Handler → Pre} {E : CtlPost} {d : Bool} {acts : List Action} {S : State} {f : JFrame} {a : Addr} {x : ExceptionTableEntry} {t : List ExceptionTableEntry} {k : ClassId} {cell : Cell} (hx : covers x f.pc = true) (h0 : x.catchType ≠ 0)
    (hl : S.vm.ClassLinks e.platform f.method.cls x.catchType k) (hcell : S.heap[a]? = some cell) (hobj : ∀ z, cell.vm ≠ .statics z) (hk : ∃ z, S.vm.classes[cell.cls]? = some z) (hc : ∃ z, S.vm.classes[k]? = some z) :
    wp (findHandler.go f a (x :: t)) Q E e d acts S ↔
      if S.vm.assignable cell.cls k = true then Q (.found x.handlerPc) d acts (S.setVm (S.vm.noted f.method.cls x.catchType (.cls k))) else wp (findHandler.go f a t) Q E e d acts (S.setVm (S.vm.noted f.method.cls x.catchType (.cls k))) := by
  have al : S.vm.Alike (S.vm.noted f.method.cls x.catchType (.cls k)) := (Vm.Alike.refl S.vm).noted _ _ _
  obtain ⟨u1, v1⟩ := hk
  obtain ⟨u2, v2⟩ := hc
  obtain ⟨w1, z1, -⟩ := al.2.2 _ _ v1
  obtain ⟨w2, z2, -⟩ := al.2.2 _ _ v2
  obtain ⟨o1, o2⟩ := (resolveClass_links e.toSetting hl).op (op := VmOp.resolveClass f.method.cls x.catchType) rfl
  have eq := al.assignable cell.cls k
  simp only [covers] at hx
  by_cases hfit : S.vm.assignable cell.cls k = true
  · rw [if_pos hfit]
    rw [hfit] at eq
    simp [findHandler.go, hx, h0, o1, o2, hcell, hobj, z1, z2, eq, VmOp.dirties, VmOp.acts]
  · rw [if_neg hfit]
    rw [Bool.eq_false_iff.mpr hfit] at eq
    simp [findHandler.go, hx, h0, o1, o2, hcell, hobj, z1, z2, eq, VmOp.dirties, VmOp.acts]
/-- the rows ahead are of other classes; this one takes it -/
theorem xSearch {f : JFrame} {a : Addr} {cell : Cell} (hobj : ∀ z, cell.vm ≠ .statics z) (hk0 : ∃ z, s.vm.classes[cell.cls]? = some z) (x : ExceptionTableEntry) (post : List ExceptionTableEntry)
    (hx : covers x f.pc = true ∧ x.catchType ≠ 0 ∧ ∃ k, s.vm.ClassLinks e.platform f.method.cls x.catchType k ∧ s.vm.assignable cell.cls k = true) :
    ∀ (pre : List ExceptionTableEntry) (S : State), s.WarmedH S.vm → S.heap[a]? = some cell → (∀ y ∈ pre, covers y f.pc = true ∧ y.catchType ≠ 0 ∧ ∃ k, s.vm.ClassLinks e.platform f.method.cls y.catchType k ∧ s.vm.assignable cell.cls k = false) →
      ∃ vm', s.WarmedH vm' ∧ ∀ (Q : Handler → Pre) (E : CtlPost) (d : Bool) (acts : List Action), wp (findHandler.go f a (pre ++ x :: post)) Q E e d acts S ↔ Q (.found x.handlerPc) d acts (S.setVm vm') := by
  obtain ⟨z0, hz0⟩ := hk0
  have step : ∀ (S : State) (y : ExceptionTableEntry) (k : ClassId), s.WarmedH S.vm → s.vm.ClassLinks e.platform f.method.cls y.catchType k →
      s.WarmedH (S.vm.noted f.method.cls y.catchType (.cls k)) ∧ S.vm.ClassLinks e.platform f.method.cls y.catchType k ∧ (∃ z, S.vm.classes[cell.cls]? = some z) ∧ (∃ z, S.vm.classes[k]? = some z) ∧ S.vm.assignable cell.cls k = s.vm.assignable cell.cls k := by
    intro S y k hW hl
    obtain ⟨dk, _, _, kt, hd, _, _, _, _, hkt, _, hopen⟩ := hl.here
    obtain ⟨w1, q1, -⟩ := hW.alike.2.2 _ _ hz0
    obtain ⟨w2, q2, -⟩ := hW.alike.2.2 _ _ hkt
    exact ⟨hW.noted hd hopen (State.rightAt_cls hl), hW.classLinks hl, ⟨w1, q1⟩, ⟨w2, q2⟩, hW.alike.assignable _ _⟩
  intro pre
  induction pre with
  | nil =>
    intro S hW hcell _
    obtain ⟨h1, h2, k, hl, hfit⟩ := hx
    obtain ⟨a1, a2, a3, a4, a5⟩ := step S x k hW hl
    exact ⟨_, a1, fun Q E d acts => by rw [List.nil_append, xGo1 h1 h2 a2 hcell hobj a3 a4, if_pos (a5.trans hfit)]⟩
  | cons y ys ih =>
    intro S hW hcell hpre
    obtain ⟨h1, h2, k, hl, hno⟩ := hpre y (List.mem_cons_self ..)
    obtain ⟨a1, a2, a3, a4, a5⟩ := step S y k hW hl
    obtain ⟨vm', b1, b2⟩ := ih (S.setVm (S.vm.noted f.method.cls y.catchType (.cls k))) a1 hcell (fun z hz => hpre z (List.mem_cons_of_mem _ hz))
    exact ⟨vm', b1, fun Q E d acts => by rw [List.cons_append, xGo1 h1 h2 a2 hcell hobj a3 a4, if_neg (by rw [a5, hno]; decide)]; exact b2 Q E d acts⟩
/-- the exception lies over the method's own frame: the walk goes on in the handler -/
theorem xCaught {T : State} (X : Stand p l e R s m args below meth c T locs cells slots) {g : JFrame} (hg : g.method = m) {a : Addr} {cell : Cell} (hcell : T.heap[a]? = some cell) (hobj : cell.vm = .none) (hk0 : ∃ z, s.vm.classes[cell.cls]? = some z)
    (pre : List ExceptionTableEntry) (x : ExceptionTableEntry) (post : List ExceptionTableEntry) (htab : c.exceptionTable.toList = pre ++ x :: post)
    (hpre : ∀ y ∈ pre, covers y g.pc = true ∧ y.catchType ≠ 0 ∧ ∃ k, s.vm.ClassLinks e.platform m.cls y.catchType k ∧ s.vm.assignable cell.cls k = false)
    (hx : covers x g.pc = true ∧ x.catchType ≠ 0 ∧ ∃ k, s.vm.ClassLinks e.platform m.cls x.catchType k ∧ s.vm.assignable cell.cls k = true) :
    ∃ vm', Stand p l e R s m args below meth c (T.setVm vm') locs cells slots ∧
      ∀ tg, Steps p.tables e below ((T.setVm vm').setTop { g with pc := x.handlerPc, stack := [.ref a] }) tg → Steps p.tables e below ((T.setTop g).pushFrame (.throwing a)) tg := by
  subst hg
  obtain ⟨vm', hW, hfind⟩ := xSearch (e := e) (s := s) (f := g) (a := a) (cell := cell) (by rw [hobj]; simp) hk0 x post hx pre ((T.setTop g).pushFrame (.throwing a)) (by rw [Stand.throwing_vm]; exact X.warmed) (by rw [Stand.throwing_heap]; exact hcell) hpre
  refine ⟨vm', X.noted hW, fun tg h => ?_⟩
  have hall : ∀ (Q : Handler → Pre) (E : CtlPost) (d : Bool) (acts : List Action), wp (findHandler g a) Q E e d acts ((T.setTop g).pushFrame (.throwing a)) ↔ Q (.found x.handlerPc) d acts (((T.setTop g).pushFrame (.throwing a)).setVm vm') := by
    intro Q E d acts
    rw [Jvm.W.findHandler_eq (meth := meth) (code := c) (by rw [Stand.throwing_vm]; exact X.method') X.code, htab]
    exact hfind Q E d acts
  obtain ⟨hgo, hw⟩ := X.here.throwing a
  refine Steps.head hgo hw ?_
  obtain ⟨g₀, hg₀⟩ := Option.isSome_iff_exists.mp X.here.top
  obtain ⟨r, hr⟩ := State.topJava?_eq_some.mp hg₀
  have hstep : (stepThrowing e ((T.setTop g).pushFrame (.throwing a)) a (.java g :: T.frames.tail)).Is ((((T.setTop g).pushFrame (.throwing a)).setVm vm').setFrames (.java { g with pc := x.handlerPc, stack := [.ref a] } :: T.frames.tail)) [] := by
    simp only [stepThrowing, searchFrame, vmDo]
    generalize hq : Sem.go _ e false [] _ = res
    obtain ⟨as, rfl, ha⟩ := Sem.eq_ok_of hq (a := Handler.found x.handlerPc) (s' := ((T.setTop g).pushFrame (.throwing a)).setVm vm') (acts' := []) (by simp [hall])
    exact ⟨rfl, ha⟩
  rw [stepThread_throwing (frames_entered X.here.top _), hstep.1]
  have hv : (T.setVm vm').frames = .java g₀ :: r := hr
  rw [State.setTop_of_frames _ hv] at h
  have he : (((T.setTop g).pushFrame (.throwing a)).setVm vm').setFrames (.java { g with pc := x.handlerPc, stack := [.ref a] } :: T.frames.tail) = (T.setVm vm').setFrames (.java { g with pc := x.handlerPc, stack := [.ref a] } :: r) := by
    rw [State.pushFrame, State.setTop_of_frames _ hr]
    show (((T.setVm vm').setFrames _).setFrames _).setFrames _ = _
    rw [State.setFrames_setFrames, State.setFrames_setFrames, hr]
    rfl
  rw [he]
  exact h
/-- a callee that may throw runs to its end -/
theorem xRuns {T : State} (X : Stand p l e R s m args below meth c T locs cells slots) {g : JFrame} (hg : g.method = m) (hsize : g.locals.size = c.maxLocals) {ig : Instr} {len : Nat} (hdg : decode c.code g.pc = .ok (ig, len))
    {y : MethodName} {ws : List Cond} {rm : Room} {Pc : Array Value → State → Prop} {Qc : Array Value → State → Outcome → State → Prop} {mc ms : Nat} {free : Addr → Prop} (hM : xMet l y ws rm Pc Qc mc ms free) {mk : MethodId} {a : Array Value} (hn : T.methodNamed? y = some mk)
    {methY : Method} {cY : Code} (hmY : T.vm.method? mk = some methY) (hcY : methY.code = some cY) (hws : ∀ w ∈ ws, w.before a T = true) (hini : (Cond.initialized y.cls).before a T = true)
    (hfr : rm.frames + 1 ≤ R.frames) (hlo : 2 * g.monitorRoom + (g.stack.map fun v => v.category).sum + (cY.maxLocals + 11) + rm.locals ≤ R.locals) (hc : cells + rm.cells ≤ R.cells) (hs : slots + rm.slots ≤ R.slots) (hP : Pc a (T.calling g mk a)) :
    ∃ (o : Outcome) (t : State) (L : List Loc), Steps p.tables e below (doInvoke e (T.setTop g) [] mk a).1 t ∧ Ended t (.java g :: below) o ∧ Qc a (T.calling g mk a) o t ∧ xFE (T.calling g mk a) t L mc ms ∧ ∀ q ∈ L, free q.base := by
  have h : At T g.method c below := by rw [hg]; exact X.here
  obtain ⟨kY, hkY, -⟩ := className_of_methodNamed hn
  have hiY : kY.init = .initialized := Cond.initialized_spec (findClass_of_methodNamed hn) hkY hini
  have happ : (headSpec ws rm).appliesLoose y e.platform (T.calling g mk a) = true :=
    Spec.appliesLoose_calling (g := g) h hdg hn hkY hiY (X.room_calling (g := g) (R' := rm) hsize hmY hcY hfr hlo hc hs) (atoms_intro hws)
  obtain ⟨mid, hmid⟩ := h.above
  have hF : (T.setTop g).frames = (.java g :: mid) ++ below := by rw [State.frames_setTop' g h.top, hmid]; rfl
  obtain ⟨o, t, hst, -, hend, hq, L, hfe, hL⟩ := Steps.callFree hM p X.admits X.cas X.clock (acts := []) hF happ hP trivial
  rw [State.frames_setTop' g h.top, X.tail] at hend
  exact ⟨o, t, L, hst, hend, hq, hfe, hL⟩
/-- a virtual call that may throw, in a method with handlers: two roads -/
theorem xCallVX {cc : ByteArray} {pc nL n index maxL mc ms : Nat} {ls : Array Slot} {Ts ws : List Cond} {own C : String} {y : MethodName} {bytes : ByteArray} {ret : Option FieldType} {rm : Room} {Pc : Array Value → State → Prop} {Qc : Array Value → State → Outcome → State → Prop} {free : Addr → Prop} {b : Addr} {As rest st0 : List Value}
    (S : CallFix p m c cc nL s args Ts own) (hM : xMet l y ws rm Pc Qc mc ms free) (cw : CallW R s args own C index y bytes maxL ret ws rm mc ms n) (hp : PreV s H C b Pc As) (hn : As.length = n) (hsize : ls.size = nL) (hst0 : st0 = As.reverse ++ .ref b :: rest)
    (hW : (rest.map fun v => v.category).sum ≤ 8) (hdg : decode cc pc = .ok (.invokevirtual index, 3)) (hf : cells + mc ≤ R.cells ∧ slots + ms ≤ R.slots)
    (kr : ∀ (v : Option Value) (u t : State) (H1 : Heap) (L : List Loc), u.heap = H → t.heap = H1 → s.vm.Alike t.vm → Qc (Value.ref b :: As).toArray u (.returned v) t → (∀ q ∈ L, free q.base) → W p l e R s m args below meth c H1 (locs ++ L) (cells + mc) (slots + ms) Q (F0 m (pc + 3) ls (v.toList ++ rest)))
    (kt : ∀ (a : Addr) (u t : State) (H1 : Heap) (L : List Loc), u.heap = H → t.heap = H1 → s.vm.Alike t.vm → s.vm.Alike u.vm → Qc (Value.ref b :: As).toArray u (.threw a) t → (∀ q ∈ L, free q.base) → (e.platform.magicAccessors = ({} : Platform).magicAccessors) →
      ∃ (cell : Cell) (pre : List ExceptionTableEntry) (x : ExceptionTableEntry) (post : List ExceptionTableEntry), H1[a]? = some cell ∧ cell.vm = .none ∧ (∃ z, s.vm.classes[cell.cls]? = some z) ∧ c.exceptionTable.toList = pre ++ x :: post ∧
        (∀ y ∈ pre, covers y pc = true ∧ y.catchType ≠ 0 ∧ ∃ k, s.vm.ClassLinks e.platform m.cls y.catchType k ∧ s.vm.assignable cell.cls k = false) ∧
        (covers x pc = true ∧ x.catchType ≠ 0 ∧ ∃ k, s.vm.ClassLinks e.platform m.cls x.catchType k ∧ s.vm.assignable cell.cls k = true) ∧
        W p l e R s m args below meth c H1 (locs ++ L) (cells + mc) (slots + ms) Q (F0 m x.handlerPc ls [.ref a])) :
    W p l e R s m args below meth c H locs cells slots Q (F0 m pc ls st0) := by
  obtain ⟨hx, hb, hml, hown, -⟩ := S
  obtain ⟨⟨hrc, hrs, hfr, hlo, hws, hcw, hcode, hini, hy, hlen, hlink⟩, hinst, hsel⟩ := cw
  obtain ⟨hblind, ⟨cellB, hcB, hoB, hclB⟩, hPc⟩ := hp
  intro T hT X
  obtain ⟨mk, methM, hnamed, hmethM, hstM, habM⟩ := Cond.instanceMethod_spec hinst
  obtain ⟨methM', cM, hmethM', hcM, -, hmlM, -, -, -, hsigM⟩ := Cond.code_spec hnamed hcode
  cases hmethM.symm.trans hmethM'
  obtain ⟨c2, r2, m2, q1, q2, q3, q4, kP, hkP, hkPi⟩ := Cond.selects_spec hsel
  cases hclB.symm.trans q1
  cases (State.methodFound?_of_named hnamed hy).symm.trans q2
  cases hnamed.symm.trans q3
  have hselP : selectMethod e.platform s.vm cellB.cls mk = .method mk := by rw [Launch.admits_selectMethod X.admits]; exact q4
  have hsig : As.length = methM.sig.parameters.length := hn.trans (hlen _ hsigM)
  obtain ⟨vm₁, X₁, hstep⟩ := X.invokevirtual hx hown hlink hnamed hmethM hstM hkP hkPi hy (a := b) (cell := cellB) (by rw [hT]; exact hcB) (fun z h => by rw [h] at hoB; cases hoB) hselP hmethM habM hkP hkPi
    (g := F0 m pc ls st0) rfl (argsL := As) (rest := rest) hsig hst0 (by rw [hb]; exact hdg)
  have hW1 := X₁.warmed
  obtain ⟨o, t, L, hst, hend, hq, hfe, hL⟩ := xRuns X₁ (g := F0 m pc ls rest) rfl (hsize.trans hml.symm) (by rw [hb]; exact hdg) hM (mk := mk) (a := (Value.ref b :: As).toArray) (X₁.named hnamed) (methY := methM) (cY := cM)
    (by rw [hW1.alike.method?]; exact hmethM) hcM (fun w hw => hws w hw _ _ hW1) (word_at hW1 (Or.inl rfl) hini) hfr (by show 2 * 0 + (rest.map fun v => v.category).sum + (cM.maxLocals + 11) + rm.locals ≤ R.locals; rw [hmlM]; omega) (by rw [hrc]; exact hf.1) (by rw [hrs]; exact hf.2)
    (hblind _ _ _ _ (hPc _ hT hW1))
  have hback : ∀ tg, Steps p.tables e below t tg → Steps p.tables e below (T.setTop (F0 m pc ls st0)) tg := fun tg h => hstep _ fun acts => by rw [doInvoke_state]; exact hst.trans h
  cases o with
  | returned v =>
    obtain ⟨T', X', hw', hs', ht⟩ := X₁.outOf (g := F0 m pc ls rest) rfl (by rw [hb]; exact hdg) hend hfe.1 hfe.2
    have hh : T'.heap = t.heap := by rw [ht]; rfl
    have hv : T'.vm = t.vm := by rw [ht]; rfl
    obtain ⟨tg, a1, a2⟩ := kr v _ t _ L (show ((T.setVm vm₁).calling (F0 m pc ls rest) mk _).heap = H from hT) rfl (by rw [← hv]; exact X'.warmed.alike) hq hL T' hh X'
    exact ⟨tg, hback tg (by rw [ht]; exact a1), a2⟩
  | threw a =>
    obtain ⟨T', X', hw', hs', ht⟩ := X₁.outOfThrown (g := F0 m pc ls rest) rfl hend hfe.1 hfe.2
    have hh : T'.heap = t.heap := by rw [ht, Stand.throwing_heap]
    have hv : T'.vm = t.vm := by rw [ht, Stand.throwing_vm]
    obtain ⟨cell, pre, x, post, h1, h2, h3, h4, h5, h6, h7⟩ := kt a _ t _ L (show ((T.setVm vm₁).calling (F0 m pc ls rest) mk _).heap = H from hT) rfl (by rw [← hv]; exact X'.warmed.alike) hW1.alike hq hL (by rw [X.admits.platform])
    obtain ⟨vm', X2, st2⟩ := xCaught X' (g := F0 m pc ls rest) rfl (by rw [hh]; exact h1) h2 h3 pre x post h4 h5 h6
    obtain ⟨tg, a1, a2⟩ := h7 (T'.setVm vm') hh X2
    exact ⟨tg, hback tg (by rw [ht]; exact st2 tg a1), a2⟩
end XH
