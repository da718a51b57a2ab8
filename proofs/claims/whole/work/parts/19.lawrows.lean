/-! ROWS OF THE LAW'S OWN METHODS: a world in two pieces, calls over one of them, catches by the tables' words. -/
theorem va_P_left {D : va_G} {a b : va_W} {H : Heap} (h : va_P D classes (a ++ b) H) : va_P D classes a H := fun k q hq => h k q (by rw [List.getElem?_append_left (List.getElem?_eq_some_iff.mp hq).1]; exact hq)
theorem va_P_right {D : va_G} {a b : va_W} {H : Heap} (h : va_P D classes (a ++ b) H) : va_P D classes b H := fun k q hq => h (a.length + k) q (by rw [List.getElem?_append_right (Nat.le_add_right _ _), Nat.add_sub_cancel_left]; exact hq)
/-- two exceptions of different kinds: no cast -/
def eNo : List (Nat × Nat) := [(0, 1), (0, 2), (0, 3), (1, 0), (1, 2), (1, 3), (2, 0), (2, 1), (2, 3), (3, 0), (3, 1), (3, 2)]
theorem eNo_at {s0 U : State} (Z : xS s0 U) : ∀ z ∈ eNo, va_Nc (xExc z.1) (xExc z.2) U := by
  intro z hz
  obtain ⟨a0, -, hg⟩ := Z.2.2
  have hfl := flat_of_before _ hg
  simp only [eNo, List.mem_cons, List.not_mem_nil, or_false] at hz
  rcases hz with rfl | rfl | rfl | rfl | rfl | rfl | rfl | rfl | rfl | rfl | rfl | rfl
  all_goals exact va_Nc.moved Z.1.alike (va_Nc.of (hfl _ (by decide +kernel)))
theorem eYes_at {s0 U : State} (Z : xS s0 U) (k : Nat) {ck : ClassId} (h : U.vm.findClass (xExc k) = some ck) : U.vm.assignable ck ck = true := by
  have h1 : (Cond.castable (xExc k) (xExc k)).before #[] U = true := by
    match k with
    | 0 => exact EXT_at Z _ (by simp [EXT, xExc])
    | 1 => exact EXT_at Z _ (by simp [EXT, xExc])
    | 2 => exact EXT_at Z _ (by simp [EXT, xExc])
    | _ + 3 => exact EXT_at Z _ (by simp [EXT, xExc])
  obtain ⟨c, t, e1, e2, e3⟩ := Cond.castable_spec h1
  cases h.symm.trans e1
  cases h.symm.trans e2
  exact e3
/-- a row of a handler table, as the tables tell it -/
abbrev xRow : Type := Nat × Nat × Nat × Nat
def xEnt (r : xRow) : ExceptionTableEntry := ⟨r.1, r.2.1, r.2.2.1, r.2.2.2⟩
theorem xTab {c : Code} {hh : List xRow} (h : c.exceptionTable.toList.map (fun h => (h.startPc, h.endPc, h.handlerPc, h.catchType)) = hh) : c.exceptionTable.toList = hh.map xEnt := by
  rw [← h, List.map_map]
  exact (List.map_id' _).symm
section XL
variable {p : Program} {l : Launch} {e : Env} {R : Room} {s : State} {m : MethodId} {args : Array Value} {below : List Frame} {meth : Method} {c : Code} {Q : State → Prop} {cells slots : Nat} {s0 : State}
variable {A : Nat → Prop} {D : va_G} {tys tysC : List (ClassId × FieldType)} {nL : Nat} {lv : List (Nat × Value)} {pc : Nat} {rest st0 : List Value} {cc : ByteArray} {own : String} {S : Type} {wf : S → va_W} {L : List Nat} {st : S} {wr ws : va_W}
theorem xj_swap {a b : va_W} (k : xJ p l e R s m args below meth c cells slots Q A D nL (b ++ a) lv pc rest) : xJ p l e R s m args below meth c cells slots Q A D nL (a ++ b) lv pc rest := fun H locs ls hP hS hl => k H locs ls ((va_P_right hP).app (va_P_left hP)) hS hl
theorem xj_last (C : xC p s m args meth c A D nL tys cc own) (hD : va_D A ws) (q0 t0 : Nat) {a n : Nat} {cA : ClassId} {f : Nat → Int64} {i : Int32} {x : Int64} {ws' : va_W} (ha : ws[q0]? = some (a, .inl (cA, n, .inr (.inl f)))) (ht : tys[t0]? = some (cA, .long)) (hin : vp_in i n) (hdg : decode cc pc = .ok (.lastore, 1)) (hws : ws.set q0 (a, .inl (cA, n, .inr (.inl (vp_updL f i.toNatClampNeg x)))) = ws') (kk : xJ p l e R s m args below meth c cells slots Q A D nL ws' lv (pc + 1) rest) : xJ p l e R s m args below meth c cells slots Q A D nL ws lv pc (.long x :: .int i :: .ref a :: rest) := by
  intro H locs ls hP hS hl
  refine va_last C.ex C.by C.K hP hD hS q0 t0 ha ht hin hdg (fun H1 locs1 hP1 _ hS1 => ?_)
  rw [hws] at hP1
  exact kk H1 locs1 ls hP1 hS1 hl
theorem xj_lald (C : xC p s m args meth c A D nL tys cc own) (q0 t0 : Nat) {a n : Nat} {cA : ClassId} {f : Nat → Int64} {i : Int32} (ha : ws[q0]? = some (a, .inl (cA, n, .inr (.inl f)))) (ht : tys[t0]? = some (cA, .long)) (hin : vp_in i n) (hdg : decode cc pc = .ok (.laload, 1)) (kk : xJ p l e R s m args below meth c cells slots Q A D nL ws lv (pc + 1) (.long (f i.toNatClampNeg) :: rest)) : xJ p l e R s m args below meth c cells slots Q A D nL ws lv pc (.int i :: .ref a :: rest) := fun H locs ls hP hS hl => va_lald C.ex C.by C.K hP q0 t0 ha ht hin hdg (kk H locs ls hP hS hl)
/-- behind a callee that wrote in its piece alone: the rest stands, and so does the frame -/
theorem xAfter {H H1 : Heap} {locs L9 : List Loc} (hS : va_S A s.heap H locs) (hAA : ∀ q, xA L H.size q → A q) (hz : H.size ≤ H1.size) (hk : ∀ q : Nat, q < H.size → ¬ xA L H.size q → H1[q]? = H[q]?) (hL9 : ∀ q ∈ L9, xA L H.size q.base) (hPr : va_P D classes wr H) (hdis : ∀ a ∈ wr.map (·.1), a ∉ L) :
    va_P D classes wr H1 ∧ va_S A s.heap H1 (locs ++ L9) := by
  refine ⟨hPr.kept (fun j q hq => hk q.1 (va_at.lt (hPr j q hq)) (fun h => ?_)), Nat.le_trans hS.1 hz, fun q hq hA => ?_, fun z hz9 => ?_⟩
  · rcases h with h | h
    · exact hdis q.1 (List.mem_map.mpr ⟨q, List.mem_of_getElem? hq, rfl⟩) h
    · exact absurd (va_at.lt (hPr j q hq)) (Nat.not_lt.mpr h)
  · rw [hk q (Nat.lt_of_lt_of_le hq hS.1) (fun h => hA (hAA q h))]
    exact hS.2.1 q hq hA
  · rcases List.mem_append.mp hz9 with h | h
    · exact hS.2.2 z h
    · exact hAA _ (hL9 z h)
theorem xKsub {U : State} (C : xC p s m args meth c A D nL tys cc own) (hsub : ∃ is : List Nat, is.filterMap (fun i => tys[i]?) = tysC) (hW : s.WarmedH U.vm) : xK D tysC U := by
  obtain ⟨is, his⟩ := hsub
  exact xK.moved hW ⟨C.K.sub is his, C.nw⟩
/-- a virtual call of a method that may throw, over the first piece of the world, in a method with handlers -/
theorem xj_callX (C : xC p s m args meth c A D nL tys cc own) (Z : xS s0 s) (hA0 : ∀ q, A q → s0.heap.size ≤ q) {y : MethodName} {b : ByteArray} {n np index : Nat} {rt : Option FieldType} {rm : Room} {out : (Nat × Int32) × S} {a : Nat} {As : List Value} {hh : List xRow} (htab : c.exceptionTable.toList.map (fun h => (h.startPc, h.endPc, h.handlerPc, h.catchType)) = hh)
    (hM : xMx s0 l y b n rt rm D tysC wf L (.ref a :: As) st out) (hsub : ∃ is : List Nat, is.filterMap (fun i => tys[i]?) = tysC) (hY : xY y b n rt np) (hI : xIV own index y) (q0 : Nat) {ci : Nat} {fs : List Value} (he : (wf st)[q0]? = some (a, .inr (ci, fs))) (hcl : (classes[ci]?).map (·.1) = some y.cls)
    (hR : rm.frames + 1 ≤ R.frames ∧ 8 + (n + 11) + rm.locals ≤ R.locals) (hrm : rm.cells = 1 ∧ rm.slots = 6) (hnp : As.length = np) (hs : st0 = As.reverse ++ .ref a :: rest) (hw : (rest.map fun v => v.category).sum ≤ 8) (hdg : decode cc pc = .ok (.invokevirtual index, 3)) (hRc : cells + 1 ≤ R.cells) (hRs : slots + 6 ≤ R.slots)
    (hA : ∀ q, q ∈ L → A q) (hdis : ∀ a ∈ wr.map (·.1), a ∉ L)
    (k0 : out.1.1 = 0 → xJ p l e R s m args below meth c (cells + 1) (slots + 6) Q A D nL (wf out.2 ++ wr) lv (pc + 3) (.int out.1.2 :: rest))
    (kx : ∀ k : Nat, out.1.1 = k + 1 → ∃ (pre : List xRow) (x : xRow) (post : List xRow), hh = pre ++ x :: post ∧ (∀ z ∈ pre, (z.1 ≤ pc ∧ pc < z.2.1 ∧ z.2.2.2 ≠ 0) ∧ ∃ j, (k, j) ∈ eNo ∧ Cond.classLink own z.2.2.2 (xExc j) ∈ BIG) ∧ (x.1 ≤ pc ∧ pc < x.2.1 ∧ x.2.2.2 ≠ 0) ∧ Cond.classLink own x.2.2.2 (xExc k) ∈ BIG ∧
      ∀ qa : Nat, xJ p l e R s m args below meth c (cells + 1) (slots + 6) Q A D nL (wf out.2 ++ wr) lv x.2.2.1 [.ref qa]) :
    xJ p l e R s m args below meth c cells slots Q A D nL (wf st ++ wr) lv pc st0 := by
  intro H locs ls hP hS hl
  have hAA := xFree C hS hA
  have hkeep : ∀ q : Nat, q < s0.heap.size → H[q]? = s.heap[q]? := fun q hq => by
    rcases Nat.lt_or_ge q s.heap.size with h | h
    · exact hS.2.1 q h (fun h9 => absurd (hA0 q h9) (by omega))
    · have h1 := Z.2.1 q hq
      rw [Array.getElem?_eq_none h, Array.getElem?_eq_getElem hq] at h1
      cases h1
  have hblind : FrameBlind (xPx s0 D tysC wf (.ref a :: As) st H.size) := fun v U g mk q => by
    obtain ⟨q0, q1, qP, qK, qZ⟩ := q
    exact ⟨q0, q1, qP, xK.blind (s := U) (U := U.calling g mk v) rfl qK, qZ.1, qZ.2.1, qZ.2.2⟩
  have hcb : ∀ {cell : Cell} {ck : ClassId}, ∀ z : xRow, (z.1 ≤ pc ∧ pc < z.2.1 ∧ z.2.2.2 ≠ 0) → covers (xEnt z) pc = true ∧ (xEnt z).catchType ≠ 0 := fun z hz => ⟨by simp [covers, xEnt, hz.1, hz.2.1], hz.2.2⟩
  refine xCallVX (rest := rest) C.1 (hM H.size) ⟨xB C hY hI.1 hrm.1 hrm.2 hR, C.ts _ hI.2.1, C.ts _ hI.2.2⟩
    ⟨hblind, xRecv C (va_P_left hP) he hcl, fun U hU hW => ⟨rfl, by rw [hU], by rw [hU]; exact va_P_left hP, xKsub C hsub hW, Z.to hW (fun q hq => by rw [hU]; exact hkeep q hq)⟩⟩ hnp hl.1 hs hw hdg ⟨hRc, hRs⟩ (fun v u t H1 L9 hu ht hal hq hL9 => ?_) (fun ea u t H1 L9 hu ht hal hal2 hq hL9 hpl => ?_)
  · obtain ⟨hq1, hq2, hq3⟩ := hq
    rw [ht] at hq2
    have hz : H.size ≤ H1.size := by rw [← hu, ← ht]; exact hq3.1
    have hk : ∀ q : Nat, q < H.size → ¬ xA L H.size q → H1[q]? = H[q]? := fun q h1 h2 => by rw [← hu, ← ht]; exact hq3.2 q (by rw [hu]; exact h1) h2
    obtain ⟨hPr, hS1⟩ := xAfter hS hAA hz hk hL9 (va_P_right hP) hdis
    rcases hq1 with ⟨r, e1, e2⟩ | ⟨a9, k, ce, e1, -⟩
    · cases e1
      have e3 : out.1.2 = r := by rw [e2]
      have := k0 (by rw [e2]) H1 _ ls (hq2.app hPr) hS1 hl
      rw [e3] at this
      exact this
    · cases e1
  · obtain ⟨hq1, hq2, hq3⟩ := hq
    rw [ht] at hq2
    have hz : H.size ≤ H1.size := by rw [← hu, ← ht]; exact hq3.1
    have hk : ∀ q : Nat, q < H.size → ¬ xA L H.size q → H1[q]? = H[q]? := fun q h1 h2 => by rw [← hu, ← ht]; exact hq3.2 q (by rw [hu]; exact h1) h2
    obtain ⟨hPr, hS1⟩ := xAfter hS hAA hz hk hL9 (va_P_right hP) hdis
    rcases hq1 with ⟨r, e1, -⟩ | ⟨a9, k, ce, e1, e2, e3, e4, e5⟩
    · cases e1
    · cases e1
      have hcls : s.vm.findClass (xExc k) = some ce.cls := by rw [← hal2.findClass]; exact e4
      obtain ⟨pre, x, post, h1, h2, h3, h4, h5⟩ := kx k (by rw [e2])
      obtain ⟨z9, hz9, -⟩ := Vm.findClass_spec hcls
      refine ⟨ce, pre.map xEnt, xEnt x, post.map xEnt, by rw [← ht]; exact e3, e5, ⟨z9, hz9⟩, by rw [xTab htab, h1]; simp, ?_, ?_, h5 ea H1 _ ls (hq2.app hPr) hS1 hl⟩
      · intro w hw
        obtain ⟨z, hz1, rfl⟩ := List.mem_map.mp hw
        obtain ⟨g1, j, g2, g3⟩ := h2 z hz1
        obtain ⟨k9, n1, n2⟩ := Cond.classLink_spec C.ow (C.ts _ g3) e.platform hpl
        obtain ⟨c1, c2, m1, m2, m3⟩ := eNo_at Z (k, j) g2
        cases hcls.symm.trans m1
        cases n1.symm.trans m2
        exact ⟨(hcb (cell := ce) (ck := k9) z g1).1, (hcb (cell := ce) (ck := k9) z g1).2, k9, n2, m3⟩
      · obtain ⟨k9, n1, n2⟩ := Cond.classLink_spec C.ow (C.ts _ h4) e.platform hpl
        cases hcls.symm.trans n1
        exact ⟨(hcb (cell := ce) (ck := ce.cls) x h3).1, (hcb (cell := ce) (ck := ce.cls) x h3).2, _, n2, eYes_at Z k hcls⟩
end XL
