/-! THROWING AND CATCHING, over the library's laws of a standing walk (stack traces are off). -/
section XT
variable {p : Program} {l : Launch} {e : Env} {R : Room} {s : State} {m : MethodId} {args : Array Value} {below : List Frame} {meth : Method} {c : Code} {H : Heap} {locs : List Loc} {cells slots : Nat} {Q : State → Prop}
/-- what an invocation has done to the heap and the tables, however it ended -/
def xFE (first t : State) (L : List Loc) (k n : Nat) : Prop := first.WarmedH t.vm ∧ first.sameButNew ({ t with vm := first.vm } : State) L k n
/-- a contract whose method may return or throw -/
def xMet (l : Launch) (y : MethodName) (ws : List Cond) (rm : Room) (Pc : Array Value → State → Prop) (Qc : Array Value → State → Outcome → State → Prop) (mc ms : Nat) (free : Addr → Prop) : Prop :=
  MetFree l y (headSpec ws rm) Pc (fun _ _ _ _ _ => True) (fun a st o t => Qc a st o t ∧ ∃ L, xFE st t L mc ms ∧ ∀ q ∈ L, free q.base)
def xMQ (below : List Frame) (Qc : Array Value → State → Outcome → State → Prop) (a : Array Value) (s : State) (mc ms : Nat) (free : Addr → Prop) : State → Prop := fun t =>
  ∃ o, t.status = .running ∧ Ended t below o ∧ Qc a s o t ∧ ∃ L, xFE s t L mc ms ∧ ∀ q ∈ L, free q.base
theorem xW_mono {Q' : State → Prop} {g : JFrame} (h : ∀ t, Q t → Q' t) (k : W p l e R s m args below meth c H locs cells slots Q g) : W p l e R s m args below meth c H locs cells slots Q' g := fun T hT X => by
  obtain ⟨t, a, b⟩ := k T hT X
  exact ⟨t, a, h t b⟩
theorem xMQ_of {Qc : Array Value → State → Outcome → State → Prop} {mc ms : Nat} {free : Addr → Prop} {t : State} (h : MQ below Qc args s mc ms free t) : xMQ below Qc args s mc ms free t := by
  obtain ⟨o, h1, h2, h3, L, h4, h5⟩ := h
  exact ⟨o, h1, h2, h3, L, h4.2, h5⟩
/-- the walk begun anew from where it stands: the same tables, the heap as it now is -/
theorem xre {T : State} (X : Stand p l e R s m args below meth c T locs cells slots) (k n : Nat) (hk : cells + k ≤ R.cells) (hn : slots + n ≤ R.slots) :
    ∃ s' : State, s'.vm = s.vm ∧ s'.heap = T.heap ∧ Stand p l e { frames := R.frames, cells := k, slots := n, locals := R.locals } s' m args below meth c T [] 0 0 ∧
      ∀ (t : State) (k' n' : Nat), s'.WarmedH t.vm → s'.sameButNew ({ t with vm := s'.vm } : State) [] k' n' → xFE s t locs (cells + k') (slots + n') := by
  have top := X.here.top
  have hcur : (T.setVm s.vm).cur < (T.setVm s.vm).threads.size := State.cur_lt_of_top (show (T.setVm s.vm).topJava?.isSome from top)
  have hfr : ((T.setVm s.vm).setFrames (.invoking m args :: below)).frames = .invoking m args :: below := State.frames_setFrames _ hcur
  refine ⟨(T.setVm s.vm).setFrames (.invoking m args :: below), rfl, rfl, ?_, ?_⟩
  · constructor
    · exact X.admits
    · exact X.cas
    · exact X.clock
    · exact hfr
    · have r := X.room
      have w1 : ((T.setVm s.vm).setFrames (.invoking m args :: below)).localsInUse = s.localsInUse :=
        (State.localsInUse_invoking hfr (meth := meth) (c := c) X.method X.code).trans (State.localsInUse_invoking X.frames X.method X.code).symm
      have w2 : e.platform.stackLimits ((T.setVm s.vm).setFrames (.invoking m args :: below)).me = e.platform.stackLimits s.me := (State.stackLimits_setFrames ..).trans X.limits
      have w3 : ((T.setVm s.vm).setFrames (.invoking m args :: below)).me.stackBytes = s.me.stackBytes := (State.stackBytes_setFrames ..).trans X.bytes
      have hz := X.heapSize
      have hu := X.used
      unfold State.hasRoom at r ⊢
      rw [w1, w2, w3, hfr]
      rw [X.frames] at r
      simp only [Bool.and_eq_true, decide_eq_true_eq] at r ⊢
      obtain ⟨⟨⟨r1, r2⟩, r3⟩, -⟩ := r
      exact ⟨⟨⟨r1, by show T.heap.size + k ≤ _; omega⟩, by show T.slotsUsed + n ≤ _; omega⟩, X.book⟩
    · exact X.hears
    · exact X.method
    · exact X.code
    · exact X.here
    · exact X.tail
    · exact X.warmed
    · exact X.limits.trans ((State.stackLimits_setFrames ..).trans X.limits).symm
    · exact X.bytes.trans ((State.stackBytes_setFrames ..).trans X.bytes).symm
    · obtain ⟨g₀, hg₀⟩ := Option.isSome_iff_exists.mp (show (T.setVm s.vm).topJava?.isSome from top)
      obtain ⟨r, hr⟩ := State.topJava?_eq_some.mp hg₀
      obtain ⟨th, hth, -⟩ := State.frames_cons hr
      refine ⟨?_, Nat.le_refl _, Nat.le_refl _, ?_, ?_, fun a c9 h9 => ⟨c9, h9, rfl, rfl, fun _ _ => rfl⟩⟩
      · show T.setVm s.vm = { ((T.setVm s.vm).setFrames (.invoking m args :: below)).setFrames (T.setVm s.vm).frames with heap := T.heap, slotsUsed := T.slotsUsed }
        rw [State.setFrames_setFrames, State.setFrames_self hth]
        rfl
      · have : (T.heap.toList.drop T.heap.size) = [] := List.drop_eq_nil_of_le (Nat.le_of_eq Array.length_toList)
        show T.slotsUsed = T.slotsUsed + ((T.heap.toList.drop T.heap.size).map (·.slots.size)).sum
        rw [this]; rfl
      · have : (T.heap.toList.drop T.heap.size) = [] := List.drop_eq_nil_of_le (Nat.le_of_eq Array.length_toList)
        show ((T.heap.toList.drop T.heap.size).map (·.slots.size)).sum ≤ 0
        rw [this]; exact Nat.le_refl _
  · intro t k' n' hW hs
    obtain ⟨q1, q2, q3, q4, q5, q6⟩ := hs
    have h2 : (T.setVm s.vm).sameButNew ({ t with vm := s.vm } : State) [] k' n' := ⟨q1.trans (by rw [State.setFrames_setFrames]; rfl), q2, q3, q4, q5, q6⟩
    have h3 := X.same.trans h2
    rw [List.append_nil] at h3
    exact ⟨hW, h3⟩
/-- nothing old was written -/
theorem xKept {first t : State} {k n : Nat} (h : first.sameButNew ({ t with vm := first.vm } : State) [] k n) : first.heap.size ≤ t.heap.size ∧ ∀ q : Nat, q < first.heap.size → t.heap[q]? = first.heap[q]? := by
  obtain ⟨-, h2, -, -, -, h6⟩ := h
  refine ⟨h2, fun q hq => ?_⟩
  obtain ⟨c', e1, e2, e3, e4⟩ := h6 q first.heap[q] (Array.getElem?_eq_getElem hq)
  have hs : c'.slots = (first.heap[q]).slots := Array.ext_getElem? (fun i => e4 i (by simp))
  have hc : c' = first.heap[q] := by rw [e2, hs]
  rw [Array.getElem?_eq_getElem hq, ← hc]
  exact e1
theorem xThrow {cc : ByteArray} {pc : Nat} {ls : Array Slot} {rest : List Value} (hexec : p.tables.exec = Jvm.exec) (hb : c.code = cc) (hlt : l.stackTraces = false) {own cls text : String} (names : List String) {ik is ic sa : Nat} {Qc : Array Value → State → Outcome → State → Prop} {free : Addr → Prop}
    (hown : s.vm.findClass own = some m.cls) (hlocks : meth.locks = false) (hml : ls.size = c.maxLocals) (hex : c.exceptionTable.toList = [])
    (hcls : Bundle.fit cls = true) (hnames : ∀ n ∈ names, Bundle.fit n = true) (hats : ∀ s' : State, s'.vm = s.vm → s'.heap = H → ∀ w ∈ Bundle.ownAtoms own ic cls names, w.before args s' = true)
    (hk : (Cond.classLink own ik cls).before args s = true) (hini : (Cond.initialized cls).before args s = true) (hstr : vk_R own is text sa s)
    (d0 : decode cc pc = .ok (.new ik, 3)) (d3 : decode cc (pc + 3) = .ok (.dup, 1)) (d4 : decode cc (pc + 4) = .ok (.ldc is, 2)) (d6 : decode cc (pc + 6) = .ok (.invokespecial ic, 3)) (d9 : decode cc (pc + 9) = .ok (.athrow, 1))
    (hRf : names.length + 3 < R.frames) (hRl : (rest.map fun v => v.category).sum + 1 + (13 * (names.length + 1) + 42) ≤ R.locals) (hRc : cells + 1 ≤ R.cells) (hRs : slots + 6 ≤ R.slots)
    (hq : ∀ (t : State) (a : Nat) (ce : Cell), s.WarmedH t.vm → H.size ≤ t.heap.size → (∀ q : Nat, q < H.size → t.heap[q]? = H[q]?) → t.heap[a]? = some ce → s.vm.findClass cls = some ce.cls → ce.vm = .none → Qc args s (.threw a) t)
    (hf : ∀ q ∈ locs, free q.base) :
    W p l e R s m args below meth c H locs cells slots (xMQ below Qc args s (cells + 1) (slots + 6) free) (F0 m pc ls rest) := by
  intro T hT X
  have htr : e.platform.stackTraces = false := (show e.platform.stackTraces = l.stackTraces by rw [X.admits.platform]).trans hlt
  obtain ⟨s', hv, hh, Y, hback⟩ := xre X 1 6 hRc hRs
  have hh : s'.heap = H := hh.trans hT
  have hat := hats s' hv hh
  have hins : (Cond.instantiable cls 6).before args s' = true := hat _ (by simp [Bundle.ownAtoms])
  have K : W p l e { frames := R.frames, cells := 1, slots := 6, locals := R.locals } s' m args below meth c H [] 0 0 (xMQ below Qc args s (cells + 1) (slots + 6) free) (F0 m pc ls rest) := by
    refine W.newc hexec hb (own := own) (C := cls) (by rw [hv]; exact hown) (va_tabs rfl hv.symm hk) hins (va_tabs rfl hv.symm hini) rfl d0 (Nat.le_refl _) (Nat.le_refl _) (fun cX kX hfX hkX hoX hnX => ?_)
    refine W.eq (g2 := F0 m (pc + 3) ls (.ref H.size :: rest)) rfl ?_
    refine lv_dup hexec hb d3 rfl ?_
    refine va_ldcS hexec hb (own := own) (tx := text) (q := sa) (by rw [hv]; exact hown) (vk_R.same hv hstr) d4 ?_
    intro T2 hT2 X2
    have hcell : T2.heap[H.size]? = some (freshCell cX kX) := by rw [hT2]; simp [freshCell]
    obtain ⟨U, hst, hrun, hend, hW, hsm, ce, hce, hO⟩ := X2.ctorThrowS hexec htr (own := own) (cls := cls) (names := names) (ic := ic) (by rw [hv]; exact hown) hcls hnames hat (fun x hx => by simp at hx) hfX hkX hcell (by rw [hh]; exact Nat.le_refl _)
      (msg := .ref sa) rfl (g := F0 m (pc + 6) ls (.ref sa :: .ref H.size :: .ref H.size :: rest)) rfl hml rfl rfl (rest := rest) rfl (by rw [hb]; exact d6) (by rw [hb]; exact d9) (by rw [hex]; simp) hRf (by
        show 2 * 0 + (1 + (rest.map fun v => v.category).sum) + (13 * (names.length + 1) + 42) ≤ R.locals
        omega) hlocks
    have hkp := xKept hsm
    rw [hh] at hkp
    exact ⟨U, hst, .threw H.size, hrun, hend, hq U H.size ce (hback U _ _ hW hsm).1 hkp.1 hkp.2 hce (by rw [← hv]; exact hO.cls) hO.vm, locs, hback U _ _ hW hsm, hf⟩
  exact K T hT Y
end XT
