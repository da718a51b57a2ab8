/-! CONTRACTS OF METHODS THAT MAY THROW: out = ((0, r), u): it returns r; ((k + 1, 0), u): it throws the exception number k; the world behind it is u's. -/
def xExc (k : Nat) : String := match k with
  | 0 => eIA
  | 1 => eIS
  | 2 => eIO
  | _ => eAR
theorem xR_at (k : Nat) : (xRest (xExc k)).all xRok = true := by
  match k with
  | 0 => exact xR_IA
  | 1 => exact xR_IS
  | 2 => exact xR_IO
  | _ + 3 => exact xR_AR
theorem xE_fit (k : Nat) : Bundle.fit (xExc k) = true := by
  match k with
  | 0 => decide
  | 1 => decide
  | 2 => decide
  | _ + 3 => show Bundle.fit eAR = true; decide
abbrev xPx {S : Type} (s0 : State) (D : va_G) (tys : List (ClassId × FieldType)) (wf : S → va_W) (av : List Value) (st : S) (sz : Nat) : Array Value → State → Prop := va_Pc av (fun U => U.heap.size = sz ∧ va_P D classes (wf st) U.heap ∧ xK D tys U ∧ xS s0 U)
def xQx {S : Type} (D : va_G) (wf : S → va_W) (L : List Nat) (out : (Nat × Int32) × S) (sz : Nat) : Array Value → State → Outcome → State → Prop := fun _ u oc t =>
  ((∃ r : Int32, oc = .returned (some (.int r)) ∧ out.1 = (0, r)) ∨ (∃ (a k : Nat) (ce : Cell), oc = .threw a ∧ out.1 = (k + 1, 0) ∧ t.heap[a]? = some ce ∧ u.vm.findClass (xExc k) = some ce.cls ∧ ce.vm = .none)) ∧ va_P D classes (wf out.2) t.heap ∧ va_F (xA L sz) u t
def xMx {S : Type} (s0 : State) (l : Launch) (y : MethodName) (b : ByteArray) (n : Nat) (rt : Option FieldType) (rm : Room) (D : va_G) (tys : List (ClassId × FieldType)) (wf : S → va_W) (L : List Nat) (av : List Value) (st : S) (out : (Nat × Int32) × S) : Prop :=
  ∀ sz : Nat, xMet l y (.code y b n rt :: BIG) rm (xPx s0 D tys wf av st sz) (xQx D wf L out sz) 1 6 (xA L sz)
section XX
variable {l : Launch} {y : MethodName} {b : ByteArray} {n : Nat} {rt : Option FieldType} {rm : Room} {D : va_G} {tys : List (ClassId × FieldType)} {S : Type} {wf : S → va_W} {L : List Nat} {av : List Value} {st : S} {s0 : State}
theorem xMx_of {Qc : Array Value → State → Outcome → State → Prop} {mc ms sz : Nat} {free : Addr → Prop} (hy : plainName y.cls = true) (hn : (lg_sl av).length ≤ n)
    (body : ∀ (p : Program) (e : Env) (s : State) (m : MethodId) (below : List Frame) (meth : Method) (c : Code), s.heap.size = sz → meth.sig.returnType = rt → c.exceptionTable.toList = [] → xS s0 s → xC p s m av.toArray meth c (xA L sz) D n tys b y.cls → xJ p l e rm s m av.toArray below meth c 0 0 (xMQ below Qc av.toArray s mc ms free) (xA L sz) D n (wf st) (lv_args 0 av) 0 []) :
    xMet l y (.code y b n rt :: BIG) rm (xPx s0 D tys wf av st sz) Qc mc ms free := by
  refine MetFree.of_bodyS (code := b) (maxLocals := n) (ret := rt) hy ?_ ?_
  · intro args s m h hn9
    obtain ⟨meth, c, h1, h2, h3, h4, h5, h6, -, -⟩ := Cond.code_spec hn9 (atoms_spec (ws := .code y b n rt :: BIG) h _ List.mem_cons_self)
    exact ⟨meth, c, h1, h2, h3, h4, h5, h6⟩
  · intro p e s m args below meth c s₁ B hml hv _
    obtain ⟨rfl, hsz, hP, ⟨hK, hNw⟩, hZ⟩ := hv
    have hts : ∀ w ∈ Cond.code y b n rt :: BIG, w.before av.toArray s = true := atoms_spec (ws := .code y b n rt :: BIG) B.pre
    have hex : c.exceptionTable.toList = [] := by
      have h9 := BodyLoose.noHandlers B (hts _ List.mem_cons_self)
      simpa using h9
    have hh0 : s₁.heap = s.heap := by rw [B.state]; rfl
    have hl := lv_entry av (n := n) hn
    have K := body p e s m below meth c hsz B.returns hex hZ ⟨⟨B.exec, B.bytes, hml, findClass_of_methodNamed B.named, fun w h => hts w (List.mem_cons_of_mem _ h)⟩, hK, fun q h => Or.inr (by rw [← hsz]; exact h), B.notSynchronized, hNw⟩ s.heap [] _ hP va_S.rf hl
    rw [← lg_entry_eq] at K
    obtain ⟨t, a1, o, b1, b2, b3⟩ := K s₁ hh0 (Stand.of_body B)
    exact ⟨t, o, a1, b1, b2, b3⟩
end XX
section XY
variable {p : Program} {l : Launch} {e : Env} {R : Room} {s : State} {m : MethodId} {args : Array Value} {below : List Frame} {meth : Method} {c : Code} {s0 : State}
variable {D : va_G} {tys : List (ClassId × FieldType)} {nL : Nat} {lv : List (Nat × Value)} {pc : Nat} {rest : List Value} {cc : ByteArray} {own : String} {S : Type} {wf : S → va_W} {L : List Nat} {sz : Nat} {st : S}
abbrev j_x {S : Type} (p : Program) (l : Launch) (e : Env) (R : Room) (s : State) (m : MethodId) (args : Array Value) (below : List Frame) (meth : Method) (c : Code) (sz : Nat) (D : va_G) (wf : S → va_W) (L : List Nat) (out : (Nat × Int32) × S) (nL : Nat) (ws : va_W) (lv : List (Nat × Value)) (pc : Nat) (st : List Value) : Prop := xJ p l e R s m args below meth c 0 0 (xMQ below (xQx D wf L out sz) args s 1 6 (xA L sz)) (xA L sz) D nL ws lv pc st
theorem xj_xret (C : xC p s m args meth c (xA L sz) D nL tys cc own) {ty : FieldType} (hr : meth.sig.returnType = some ty) {out : (Nat × Int32) × S} {v : Int32} (hn : narrow ty (.int v) = .int v) (ho : some ((0, v), st) = some out) (hdg : decode cc pc = .ok (.ireturn, 1)) : j_x p l e R s m args below meth c sz D wf L out nL (wf st) lv pc [.int v] := by
  intro H locs ls hP hS hl
  refine xW_mono (fun t ht => xMQ_of ht) (W.widen (k := 1) (n := 6) (Nat.zero_le _) (Nat.zero_le _) (W.zret (v := v) C.ex C.by hr hn (fun t ht hW => ?_) hS.2.2 hdg C.lk))
  cases ho
  exact ⟨Or.inl ⟨v, rfl, rfl⟩, by show va_P D classes (wf st) t.heap; rw [ht]; exact hP, hS.F ht⟩
/-- the words of a throw at one place of the class: new, ldc, invokespecial -/
def xE (own : String) (ik is ic : Nat) (text : String) (k : Nat) : Prop := Cond.classLink own ik (xExc k) ∈ BIG ∧ Cond.initialized (xExc k) ∈ BIG ∧ Cond.methodLink own ic (Bundle.initS (xExc k)) ∈ BIG ∧ Cond.stringRef own is text ∈ tables_1
theorem xj_throw (C : xC p s m args meth c (xA L sz) D nL tys cc own) (hlt : l.stackTraces = false) (hex : c.exceptionTable.toList = []) (Z : xS s0 s) (hL : ∀ q ∈ L, s0.heap.size ≤ q) (hsz : s.heap.size = sz) {ik is ic k : Nat} {text : String} (E : xE own ik is ic text k) {out : (Nat × Int32) × S} (ho : some ((k + 1, (0 : Int32)), st) = some out)
    (hRf : 5 < R.frames) (hRl : (rest.map fun v => v.category).sum + 82 ≤ R.locals) (hRc : 1 ≤ R.cells) (hRs : 6 ≤ R.slots)
    (d0 : decode cc pc = .ok (.new ik, 3)) (d3 : decode cc (pc + 3) = .ok (.dup, 1)) (d4 : decode cc (pc + 4) = .ok (.ldc is, 2)) (d6 : decode cc (pc + 6) = .ok (.invokespecial ic, 3)) (d9 : decode cc (pc + 9) = .ok (.athrow, 1)) :
    j_x p l e R s m args below meth c sz D wf L out nL (wf st) lv pc rest := by
  intro H locs ls hP hS hl
  cases ho
  obtain ⟨a0, h0, -⟩ := Z.2.2
  have hle : s0.heap.size ≤ s.heap.size := by
    rcases Nat.lt_or_ge s.heap.size s0.heap.size with h | h
    · exfalso
      have h1 := Z.2.1 s.heap.size h
      rw [Array.getElem?_eq_none (Nat.le_refl _), Array.getElem?_eq_getElem h] at h1
      cases h1
    · exact h
  have hkeep : ∀ q : Nat, q < s0.heap.size → H[q]? = s.heap[q]? := fun q hq => hS.2.1 q (by omega) (fun h9 => by
    rcases h9 with h9 | h9
    · exact absurd (hL q h9) (by omega)
    · omega)
  obtain ⟨sa, hstr⟩ : ∃ sa, vk_R own is text sa s := by
    have h1 := h0 _ (List.mem_append_right _ E.2.2.2)
    have hf0 : s0.vm.findClass own = some m.cls := by rw [← Z.1.alike.findClass]; exact C.ow
    obtain ⟨_, _, _, a, _, _, _, _, _, he⟩ := Cond.stringRef_spec hf0 h1
    exact ⟨a, vk_R.warm Z.1 (vk_R.of h1 he)⟩
  refine xThrow C.ex C.by hlt eNames (own := own) (cls := xExc k) (text := text) (sa := sa) C.ow C.lk (by rw [hl.1]; exact C.1.2.2.1.symm) hex (xE_fit k) (by decide) (fun s' hv hh => ?_) (C.ts _ E.1) (C.ts _ E.2.1) hstr d0 d3 d4 d6 d9 hRf (by show _ + 1 + (13 * (2 + 1) + 42) ≤ _; omega) hRc hRs (fun t a ce hW h1 h2 h3 h4 h5 => ?_) hS.2.2
  · refine xOwn_at (s0 := s0) (Z.same hv (fun q hq => by rw [hh]; exact hkeep q hq)) (fun w hw => ?_) (xR_at k) E.2.2.1
    exact word_at (by rw [hv]; exact State.WarmedH.refl s) (BIG_good w hw).2 (C.ts w hw)
  · refine ⟨Or.inr ⟨a, k, ce, rfl, rfl, h3, h4, h5⟩, hP.kept (fun j q hq => h2 q.1 (va_at.lt (hP j q hq))), ?_, ?_⟩
    · exact Nat.le_trans hS.1 h1
    · intro q hq hA
      rw [h2 q (Nat.lt_of_lt_of_le hq hS.1)]
      exact hS.2.1 q hq hA
end XY
