/-! THE START THAT ALL IS MEASURED FROM, and the words that a throw wants of it. -/
def xF0 (s0 : State) : Prop := ∃ a0 : Array Value, (∀ w ∈ lw_tbl, w.before a0 s0 = true) ∧ (Jvm.Cond.and given_1 narrow_1).before a0 s0 = true
/-- U comes from the law's start s0: its tables are warmer, the cells of s0 are as they were -/
def xS (s0 U : State) : Prop := s0.WarmedH U.vm ∧ (∀ q : Nat, q < s0.heap.size → U.heap[q]? = s0.heap[q]?) ∧ xF0 s0
theorem xS.to {s0 s U : State} (h : xS s0 s) (hW : s.WarmedH U.vm) (hh : ∀ q : Nat, q < s0.heap.size → U.heap[q]? = s.heap[q]?) : xS s0 U := ⟨State.WarmedH.trans h.1 hW, fun q hq => (hh q hq).trans (h.2.1 q hq), h.2.2⟩
theorem xS.same {s0 s U : State} (h : xS s0 s) (hv : U.vm = s.vm) (hh : ∀ q : Nat, q < s0.heap.size → U.heap[q]? = s.heap[q]?) : xS s0 U := ⟨by rw [hv]; exact h.1, fun q hq => (hh q hq).trans (h.2.1 q hq), h.2.2⟩
theorem xStat {s0 U : State} {a0 args : Array Value} {C n d : String} (Z : xS s0 U) (hl : (Cond.laysStatic C n d).before a0 s0 = true) (hr : (Cond.isRef (.static C n d)).before a0 s0 = true) :
    (Cond.laysStatic C n d).before args U = true ∧ (Cond.isRef (.static C n d)).before args U = true := by
  obtain ⟨c, k, i, f, a, cell, hc, hi, hst, ha, hcell, hs, hcls, hlt, hty⟩ := Cond.laysStatic_spec hl
  obtain ⟨k', hi', hek⟩ := State.fieldFound?_setVm Z.1.alike hi
  have hi' : U.fieldFound? C n d = some (c, k', i, f) := hi'
  have hc' : U.vm.findClass C = some c := by rw [Z.1.alike.findClass]; exact hc
  have ha' : k'.statics = some a := by rw [hek]; exact ha
  have hcell' : U.heap[a]? = some cell := by rw [Z.2.1 a (Array.getElem?_eq_some_iff.mp hcell).1]; exact hcell
  refine ⟨Cond.laysStatic_of (s := U) hc' hi' hst ha' hcell' hs hcls hlt (by rw [hek]; exact hty), ?_⟩
  cases hv : (Term.static C n d).eval a0 s0 none [] s0 with
  | none => simp [Cond.before, Cond.holds, Cond.value, hv] at hr
  | some v =>
    obtain ⟨-, a2, cell2, e1, e2, -, hslot⟩ := Term.static_spec hi hv
    cases ha.symm.trans e1
    cases hcell.symm.trans e2
    have hU : (Term.static C n d).eval args U none [] U = some v := Term.static_eval (s := U) hi' hst ha' hcell' hs hslot
    simp only [Cond.before, Cond.holds, Cond.value, hv] at hr
    simp only [Cond.before, Cond.holds, Cond.value, hU]
    exact hr
abbrev eIA : String := "java/lang/IllegalArgumentException"
abbrev eIS : String := "java/lang/IllegalStateException"
abbrev eIO : String := "java/lang/IndexOutOfBoundsException"
abbrev eAR : String := "java/lang/ArithmeticException"
abbrev eNames : List String := ["java/lang/RuntimeException", "java/lang/Exception"]
def EXT : List Cond := [.castable eIA eIA, .castable eIS eIS, .castable eIO eIO, .castable eAR eAR, .declares ⟨"java/lang/RuntimeException", "<init>", "(Ljava/lang/String;)V"⟩, .declares ⟨"java/lang/Exception", "<init>", "(Ljava/lang/String;)V"⟩, .declares ⟨"java/lang/Throwable", "<init>", "(Ljava/lang/String;)V"⟩]
def EXS : List (String × String × String) := [(Bundle.tN, "UNASSIGNED_STACK", Bundle.steD), (Bundle.tN, "SUPPRESSED_SENTINEL", Bundle.listD)]
theorem EXT_in : ∀ w ∈ EXT, w ∈ tables_1 := by
  intro w hw
  simp only [EXT, List.mem_cons, List.not_mem_nil, or_false] at hw
  rcases hw with rfl | rfl | rfl | rfl | rfl | rfl | rfl
  · exact List.mem_of_getElem? (i := 397) (by decide +kernel)
  · exact List.mem_of_getElem? (i := 470) (by decide +kernel)
  · exact List.mem_of_getElem? (i := 519) (by decide +kernel)
  · exact List.mem_of_getElem? (i := 621) (by decide +kernel)
  · exact List.mem_of_getElem? (i := 399) (by decide +kernel)
  · exact List.mem_of_getElem? (i := 401) (by decide +kernel)
  · exact List.mem_of_getElem? (i := 403) (by decide +kernel)
theorem EXT_at {s0 U : State} {args : Array Value} (Z : xS s0 U) : ∀ w ∈ EXT, w.before args U = true := by
  intro w hw
  obtain ⟨a0, h0, -⟩ := Z.2.2
  have h1 := h0 w (List.mem_append_right _ (EXT_in w hw))
  simp only [EXT, List.mem_cons, List.not_mem_nil, or_false] at hw
  rcases hw with rfl | rfl | rfl | rfl | rfl | rfl | rfl
  all_goals first
    | exact va_Nw.use rfl (va_Nw.warmC Z.1 (va_Nw.of rfl h1))
    | exact va_Nw.use rfl (va_Nw.warmD Z.1 (va_Nw.of rfl h1))
theorem EXS_at {s0 U : State} {args : Array Value} (Z : xS s0 U) : ∀ z ∈ EXS, (Cond.laysStatic z.1 z.2.1 z.2.2).before args U = true ∧ (Cond.isRef (.static z.1 z.2.1 z.2.2)).before args U = true := by
  intro z hz
  obtain ⟨a0, h0, hg⟩ := Z.2.2
  have hfl := flat_of_before _ hg
  simp only [EXS, List.mem_cons, List.not_mem_nil, or_false] at hz
  rcases hz with rfl | rfl
  · exact xStat Z (h0 _ (List.mem_append_right _ (List.mem_of_getElem? (i := 422) (by decide +kernel)))) (hfl _ (by decide +kernel))
  · exact xStat Z (h0 _ (List.mem_append_right _ (List.mem_of_getElem? (i := 424) (by decide +kernel)))) (hfl _ (by decide +kernel))
/-- what a throw of X wants, but the link from its own class -/
def xRest (X : String) : List Cond := Bundle.throwableAtoms ++ Bundle.throwableSAtoms ++ Bundle.chainSAtoms X eNames ++
  [.instantiable X 6, .castable X X, .selects X Bundle.tFill0 Bundle.tFill0, .selects X Bundle.tFill Bundle.tFill,
   .lays X Bundle.tN "cause" "Ljava/lang/Throwable;", .lays X Bundle.tN "stackTrace" Bundle.steD, .lays X Bundle.tN "suppressedExceptions" Bundle.listD, .lays X Bundle.tN "detailMessage" "Ljava/lang/String;",
   .fieldLink Bundle.tN 198 Bundle.tN "backtrace" "Ljava/lang/Object;", .lays Bundle.tN Bundle.tN "backtrace" "Ljava/lang/Object;", .lays X Bundle.tN "backtrace" "Ljava/lang/Object;"]
def xRok (w : Cond) : Bool := (decide (w ∈ lw_tbl) && goodWord w) || decide (w ∈ EXT) || EXS.any (fun z => decide (w = .laysStatic z.1 z.2.1 z.2.2))
theorem xRest_at {s0 U : State} {args : Array Value} (Z : xS s0 U) (hB : ∀ w ∈ BIG, w.before args U = true) {X : String} (h : (xRest X).all xRok = true) : ∀ w ∈ xRest X, w.before args U = true := by
  intro w hw
  have h1 := List.all_eq_true.mp h w hw
  simp only [xRok, Bool.or_eq_true, Bool.and_eq_true, decide_eq_true_eq, List.any_eq_true] at h1
  rcases h1 with (h1 | h1) | ⟨z, hz, rfl⟩
  · exact hB w (List.mem_filter.mpr h1)
  · exact EXT_at Z w h1
  · exact (EXS_at Z z hz).1
theorem xOwn_at {s0 U : State} {args : Array Value} (Z : xS s0 U) (hB : ∀ w ∈ BIG, w.before args U = true) {X own : String} {ic : Nat} (h : (xRest X).all xRok = true) (hl : Cond.methodLink own ic (Bundle.initS X) ∈ BIG) : ∀ w ∈ Bundle.ownAtoms own ic X eNames, w.before args U = true := by
  intro w hw
  have h0 := xRest_at Z hB h
  have h1 := EXS_at (args := args) Z
  simp only [Bundle.ownAtoms, List.mem_append, List.mem_cons, List.not_mem_nil, or_false] at hw
  rcases hw with ((hw | hw) | hw) | hw
  · exact h0 w (by simp [xRest, hw])
  · exact h0 w (by simp [xRest, hw])
  · exact h0 w (by simp [xRest, hw])
  · rcases hw with rfl | rfl | rfl | rfl | rfl | rfl | rfl | rfl | rfl | rfl | rfl | rfl | rfl | rfl
    · exact hB _ hl
    all_goals first
      | exact (h1 (Bundle.tN, "UNASSIGNED_STACK", Bundle.steD) (by simp [EXS])).2
      | exact (h1 (Bundle.tN, "SUPPRESSED_SENTINEL", Bundle.listD) (by simp [EXS])).2
      | exact h0 _ (by simp [xRest])
set_option maxRecDepth 100000 in
theorem xR_IA : (xRest eIA).all xRok = true := by decide +kernel
set_option maxRecDepth 100000 in
theorem xR_IS : (xRest eIS).all xRok = true := by decide +kernel
set_option maxRecDepth 100000 in
theorem xR_IO : (xRest eIO).all xRok = true := by decide +kernel
set_option maxRecDepth 100000 in
theorem xR_AR : (xRest eAR).all xRok = true := by decide +kernel
