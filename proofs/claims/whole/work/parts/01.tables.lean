-- ===== PART A: goes FIRST, ahead of the names: the tables' words, and 'selects' of the private methods out of them =====
/-- a private method of a class that the tables say can be made, by its rows of tables_1 -/
def lw_okq (q : MethodName × Nat) : Prop := (q.1.cls ≠ "java/lang/invoke/MethodHandle" ∧ q.1.cls ≠ "java/lang/invoke/VarHandle") ∧ Cond.instantiable q.1.cls q.2 ∈ tables_1 ∧ Cond.privateMethod q.1 ∈ tables_1 ∧ Cond.instanceMethod q.1 ∈ tables_1
theorem lw_p0 : lw_okq (⟨"LockRuns$Planner", "tryRuns", "(IIIIII)V"⟩, 8) := ⟨⟨by decide +kernel, by decide +kernel⟩, List.mem_of_getElem? (i := 107) (by decide +kernel), List.mem_of_getElem? (i := 213) (by decide +kernel), List.mem_of_getElem? (i := 214) (by decide +kernel)⟩
theorem lw_p1 : lw_okq (⟨"LockRuns$Planner", "offerTrial", "(I)V"⟩, 8) := ⟨⟨by decide +kernel, by decide +kernel⟩, List.mem_of_getElem? (i := 107) (by decide +kernel), List.mem_of_getElem? (i := 221) (by decide +kernel), List.mem_of_getElem? (i := 222) (by decide +kernel)⟩
theorem lw_p2 : lw_okq (⟨"LockRuns$Planner", "overtaken", "(LLockRuns$Timetable;I)I"⟩, 8) := ⟨⟨by decide +kernel, by decide +kernel⟩, List.mem_of_getElem? (i := 107) (by decide +kernel), List.mem_of_getElem? (i := 229) (by decide +kernel), List.mem_of_getElem? (i := 230) (by decide +kernel)⟩
theorem lw_p3 : lw_okq (⟨"LockRuns$Timetable", "differs", "(LLockRuns$Timetable;I)Z"⟩, 4) := ⟨⟨by decide +kernel, by decide +kernel⟩, List.mem_of_getElem? (i := 113) (by decide +kernel), List.mem_of_getElem? (i := 256) (by decide +kernel), List.mem_of_getElem? (i := 257) (by decide +kernel)⟩
theorem lw_p4 : lw_okq (⟨"LockRuns$Planner", "canRun", "(II)Z"⟩, 8) := ⟨⟨by decide +kernel, by decide +kernel⟩, List.mem_of_getElem? (i := 107) (by decide +kernel), List.mem_of_getElem? (i := 275) (by decide +kernel), List.mem_of_getElem? (i := 276) (by decide +kernel)⟩
theorem lw_p5 : lw_okq (⟨"LockRuns$Berths", "layFrom", "(IIII)Z"⟩, 6) := ⟨⟨by decide +kernel, by decide +kernel⟩, List.mem_of_getElem? (i := 82) (by decide +kernel), List.mem_of_getElem? (i := 288) (by decide +kernel), List.mem_of_getElem? (i := 289) (by decide +kernel)⟩
theorem lw_p6 : lw_okq (⟨"LockRuns$Chambers", "pastSpans", "(II)I"⟩, 8) := ⟨⟨by decide +kernel, by decide +kernel⟩, List.mem_of_getElem? (i := 25) (by decide +kernel), List.mem_of_getElem? (i := 329) (by decide +kernel), List.mem_of_getElem? (i := 330) (by decide +kernel)⟩
theorem lw_p7 : lw_okq (⟨"LockRuns", "runsOf", "(I)I"⟩, 4) := ⟨⟨by decide +kernel, by decide +kernel⟩, List.mem_of_getElem? (i := 17) (by decide +kernel), List.mem_of_getElem? (i := 371) (by decide +kernel), List.mem_of_getElem? (i := 372) (by decide +kernel)⟩
theorem lw_p8 : lw_okq (⟨"java/lang/Throwable", "fillInStackTrace", "(I)Ljava/lang/Throwable;"⟩, 6) := ⟨⟨by decide +kernel, by decide +kernel⟩, List.mem_of_getElem? (i := 435) (by decide +kernel), List.mem_of_getElem? (i := 433) (by decide +kernel), List.mem_of_getElem? (i := 434) (by decide +kernel)⟩
theorem lw_p9 : lw_okq (⟨"LockRuns$Planner", "layRunOf", "(I)Z"⟩, 8) := ⟨⟨by decide +kernel, by decide +kernel⟩, List.mem_of_getElem? (i := 107) (by decide +kernel), List.mem_of_getElem? (i := 539) (by decide +kernel), List.mem_of_getElem? (i := 540) (by decide +kernel)⟩
theorem lw_p10 : lw_okq (⟨"LockRunsModel", "isChamber", "(I)Z"⟩, 25) := ⟨⟨by decide +kernel, by decide +kernel⟩, List.mem_of_getElem? (i := 636) (by decide +kernel), List.mem_of_getElem? (i := 738) (by decide +kernel), List.mem_of_getElem? (i := 739) (by decide +kernel)⟩
theorem lw_p11 : lw_okq (⟨"LockRunsModel", "lay", "(II)Z"⟩, 25) := ⟨⟨by decide +kernel, by decide +kernel⟩, List.mem_of_getElem? (i := 636) (by decide +kernel), List.mem_of_getElem? (i := 750) (by decide +kernel), List.mem_of_getElem? (i := 751) (by decide +kernel)⟩
theorem lw_p12 : lw_okq (⟨"LockRunsModel", "mayLie", "(IIII)Z"⟩, 25) := ⟨⟨by decide +kernel, by decide +kernel⟩, List.mem_of_getElem? (i := 636) (by decide +kernel), List.mem_of_getElem? (i := 754) (by decide +kernel), List.mem_of_getElem? (i := 755) (by decide +kernel)⟩
theorem lw_p13 : lw_okq (⟨"LockRunsModel", "search", "()I"⟩, 25) := ⟨⟨by decide +kernel, by decide +kernel⟩, List.mem_of_getElem? (i := 636) (by decide +kernel), List.mem_of_getElem? (i := 762) (by decide +kernel), List.mem_of_getElem? (i := 763) (by decide +kernel)⟩
theorem lw_p14 : lw_okq (⟨"LockRunsModel", "weighed", "()I"⟩, 25) := ⟨⟨by decide +kernel, by decide +kernel⟩, List.mem_of_getElem? (i := 636) (by decide +kernel), List.mem_of_getElem? (i := 767) (by decide +kernel), List.mem_of_getElem? (i := 768) (by decide +kernel)⟩
theorem lw_p15 : lw_okq (⟨"LockRunsModel", "times", "(I)Z"⟩, 25) := ⟨⟨by decide +kernel, by decide +kernel⟩, List.mem_of_getElem? (i := 636) (by decide +kernel), List.mem_of_getElem? (i := 771) (by decide +kernel), List.mem_of_getElem? (i := 772) (by decide +kernel)⟩
def lw_privs_1 : List (MethodName × Nat) := [(⟨"LockRuns$Planner", "tryRuns", "(IIIIII)V"⟩, 8), (⟨"LockRuns$Planner", "offerTrial", "(I)V"⟩, 8), (⟨"LockRuns$Planner", "overtaken", "(LLockRuns$Timetable;I)I"⟩, 8), (⟨"LockRuns$Timetable", "differs", "(LLockRuns$Timetable;I)Z"⟩, 4), (⟨"LockRuns$Planner", "canRun", "(II)Z"⟩, 8), (⟨"LockRuns$Berths", "layFrom", "(IIII)Z"⟩, 6), (⟨"LockRuns$Chambers", "pastSpans", "(II)I"⟩, 8), (⟨"LockRuns", "runsOf", "(I)I"⟩, 4), (⟨"java/lang/Throwable", "fillInStackTrace", "(I)Ljava/lang/Throwable;"⟩, 6), (⟨"LockRuns$Planner", "layRunOf", "(I)Z"⟩, 8), (⟨"LockRunsModel", "isChamber", "(I)Z"⟩, 25), (⟨"LockRunsModel", "lay", "(II)Z"⟩, 25), (⟨"LockRunsModel", "mayLie", "(IIII)Z"⟩, 25), (⟨"LockRunsModel", "search", "()I"⟩, 25), (⟨"LockRunsModel", "weighed", "()I"⟩, 25), (⟨"LockRunsModel", "times", "(I)Z"⟩, 25)]
theorem lw_r1 : ∀ q ∈ lw_privs_1, lw_okq q := List.forall_mem_cons.mpr ⟨lw_p0, List.forall_mem_cons.mpr ⟨lw_p1, List.forall_mem_cons.mpr ⟨lw_p2, List.forall_mem_cons.mpr ⟨lw_p3, List.forall_mem_cons.mpr ⟨lw_p4, List.forall_mem_cons.mpr ⟨lw_p5, List.forall_mem_cons.mpr ⟨lw_p6, List.forall_mem_cons.mpr ⟨lw_p7, List.forall_mem_cons.mpr ⟨lw_p8, List.forall_mem_cons.mpr ⟨lw_p9, List.forall_mem_cons.mpr ⟨lw_p10, List.forall_mem_cons.mpr ⟨lw_p11, List.forall_mem_cons.mpr ⟨lw_p12, List.forall_mem_cons.mpr ⟨lw_p13, List.forall_mem_cons.mpr ⟨lw_p14, List.forall_mem_cons.mpr ⟨lw_p15, fun _ h => absurd h List.not_mem_nil⟩⟩⟩⟩⟩⟩⟩⟩⟩⟩⟩⟩⟩⟩⟩⟩
theorem lw_p16 : lw_okq (⟨"LockRunsModel", "setOf", "(I)I"⟩, 25) := ⟨⟨by decide +kernel, by decide +kernel⟩, List.mem_of_getElem? (i := 636) (by decide +kernel), List.mem_of_getElem? (i := 775) (by decide +kernel), List.mem_of_getElem? (i := 776) (by decide +kernel)⟩
theorem lw_p17 : lw_okq (⟨"LockRunsModel", "isOneWay", "(I)Z"⟩, 25) := ⟨⟨by decide +kernel, by decide +kernel⟩, List.mem_of_getElem? (i := 636) (by decide +kernel), List.mem_of_getElem? (i := 779) (by decide +kernel), List.mem_of_getElem? (i := 780) (by decide +kernel)⟩
theorem lw_p18 : lw_okq (⟨"LockRunsModel", "open", "(II)I"⟩, 25) := ⟨⟨by decide +kernel, by decide +kernel⟩, List.mem_of_getElem? (i := 636) (by decide +kernel), List.mem_of_getElem? (i := 786) (by decide +kernel), List.mem_of_getElem? (i := 787) (by decide +kernel)⟩
theorem lw_p19 : lw_okq (⟨"LockRunsModel", "overtaken", "(IZ)I"⟩, 25) := ⟨⟨by decide +kernel, by decide +kernel⟩, List.mem_of_getElem? (i := 636) (by decide +kernel), List.mem_of_getElem? (i := 790) (by decide +kernel), List.mem_of_getElem? (i := 791) (by decide +kernel)⟩
theorem lw_p20 : lw_okq (⟨"LockRunsModel", "isAhead", "()Z"⟩, 25) := ⟨⟨by decide +kernel, by decide +kernel⟩, List.mem_of_getElem? (i := 636) (by decide +kernel), List.mem_of_getElem? (i := 794) (by decide +kernel), List.mem_of_getElem? (i := 795) (by decide +kernel)⟩
theorem lw_p21 : lw_okq (⟨"LockRunsModel", "isShip", "(I)Z"⟩, 25) := ⟨⟨by decide +kernel, by decide +kernel⟩, List.mem_of_getElem? (i := 636) (by decide +kernel), List.mem_of_getElem? (i := 802) (by decide +kernel), List.mem_of_getElem? (i := 803) (by decide +kernel)⟩
theorem lw_p22 : lw_okq (⟨"LockRunsModel", "shipsOf", "(I)I"⟩, 25) := ⟨⟨by decide +kernel, by decide +kernel⟩, List.mem_of_getElem? (i := 636) (by decide +kernel), List.mem_of_getElem? (i := 806) (by decide +kernel), List.mem_of_getElem? (i := 807) (by decide +kernel)⟩
def lw_privs_2 : List (MethodName × Nat) := [(⟨"LockRunsModel", "setOf", "(I)I"⟩, 25), (⟨"LockRunsModel", "isOneWay", "(I)Z"⟩, 25), (⟨"LockRunsModel", "open", "(II)I"⟩, 25), (⟨"LockRunsModel", "overtaken", "(IZ)I"⟩, 25), (⟨"LockRunsModel", "isAhead", "()Z"⟩, 25), (⟨"LockRunsModel", "isShip", "(I)Z"⟩, 25), (⟨"LockRunsModel", "shipsOf", "(I)I"⟩, 25)]
theorem lw_r2 : ∀ q ∈ lw_privs_2, lw_okq q := List.forall_mem_cons.mpr ⟨lw_p16, List.forall_mem_cons.mpr ⟨lw_p17, List.forall_mem_cons.mpr ⟨lw_p18, List.forall_mem_cons.mpr ⟨lw_p19, List.forall_mem_cons.mpr ⟨lw_p20, List.forall_mem_cons.mpr ⟨lw_p21, List.forall_mem_cons.mpr ⟨lw_p22, fun _ h => absurd h List.not_mem_nil⟩⟩⟩⟩⟩⟩⟩
def lw_privs : List (MethodName × Nat) := lw_privs_1 ++ (lw_privs_2)
def lw_tbl : List Cond := k2_sels lw_privs ++ tables_1
theorem lw_privs_ok : ∀ q ∈ lw_privs, lw_okq q := by
  show ∀ q ∈ lw_privs_1 ++ (lw_privs_2), lw_okq q
  exact List.forall_mem_append.mpr ⟨lw_r1, lw_r2⟩

/-- the words that every contract of mine takes: those of the tables that stay true as the tables warm -/
def BIG : List Cond := lw_tbl.filter goodWord
theorem BIG_good : GoodIn BIG BIG := fun w hw => ⟨hw, by
  have h := (List.mem_filter.mp hw).2
  cases w <;> first | exact Or.inl h | exact Or.inr ⟨_, rfl⟩⟩
theorem BIG_at {w : Cond} (i : Nat) (h : tables_1[i]? = some w) (hg : goodWord w = true) : w ∈ BIG := List.mem_filter.mpr ⟨List.mem_append_right _ (List.mem_of_getElem? h), hg⟩
theorem BIG_sel {q : MethodName × Nat} (i : Nat) (h : lw_privs[i]? = some q) (hg : goodWord (Cond.selects q.1.cls q.1 q.1) = true) : Cond.selects q.1.cls q.1 q.1 ∈ BIG := List.mem_filter.mpr ⟨List.mem_append_left _ (List.mem_map.mpr ⟨q, List.mem_of_getElem? h, rfl⟩), hg⟩
def NESTW : List Cond := [.methodLinkNest "LockRuns" 11 ⟨"LockRuns$Chambers", "<init>", "()V"⟩ "LockRuns", .methodLinkNest "LockRuns" 18 ⟨"LockRuns$Fleet", "<init>", "()V"⟩ "LockRuns", .methodLinkNest "LockRuns$Planner" 11 ⟨"LockRuns$Timetable", "<init>", "()V"⟩ "LockRuns", .methodLinkNest "LockRuns$Timetable" 25 ⟨"LockRuns", "holds", "(II)Z"⟩ "LockRuns", .methodLinkNest "LockRuns$Fleet" 35 ⟨"LockRuns", "holds", "(II)Z"⟩ "LockRuns", .methodLinkNest "LockRuns$Berths" 37 ⟨"LockRuns", "holds", "(II)Z"⟩ "LockRuns"]
theorem NESTW_tab : ∀ w ∈ NESTW, w.onTables = true := by decide +kernel
theorem NESTW_is : ∀ w ∈ NESTW, ∃ (a : String) (i : Nat) (x : MethodName) (h : String), w = .methodLinkNest a i x h := by
  intro w hw
  simp only [NESTW, List.mem_cons, List.not_mem_nil, or_false] at hw
  rcases hw with rfl | rfl | rfl | rfl | rfl | rfl <;> exact ⟨_, _, _, _, rfl⟩
theorem NESTW_warm (w : Cond) (hw : w ∈ NESTW) {s U : State} (hW : s.WarmedH U.vm) (h : va_Nw w s) : va_Nw w U := by
  obtain ⟨a, i, x, h9, rfl⟩ := NESTW_is w hw
  exact va_Nw.warmM hW h
def R_LR : String := "LockRuns"
def F_LR : u_T := fun k => match k with
  | 0 => ("LockRuns", "chambers", "LLockRuns$Chambers;", true)
  | 1 => ("LockRuns", "fleet", "LLockRuns$Fleet;", true)
  | 2 => ("LockRuns", "berths", "LLockRuns$Berths;", true)
  | _ => ("LockRuns", "planner", "LLockRuns$Planner;", true)
def t_LR : Nat → FieldType := fun k => match k with
  | 0 => (.object "LockRuns$Chambers")
  | 1 => (.object "LockRuns$Fleet")
  | 2 => (.object "LockRuns$Berths")
  | _ => (.object "LockRuns$Planner")
theorem n_LR : ∀ a, a < 4 → ∀ b, b < 4 → a ≠ b → (F_LR a).2.1 ≠ (F_LR b).2.1 := by decide +kernel
theorem t_LR_ok : ∀ k, k < 4 → parseFieldDescriptor (F_LR k).2.2.1 = some (t_LR k) := by decide +kernel
theorem i_LR : ∀ w ∈ u_ws R_LR F_LR 4, w ∈ BIG := by
  intro w hw
  obtain ⟨j, hj, rfl⟩ := List.mem_map.mp hw
  have hj := List.mem_range.mp hj
  match j, hj with
  | 0, _ => exact BIG_at 160 (by decide +kernel) (by decide +kernel)
  | 1, _ => exact BIG_at 162 (by decide +kernel) (by decide +kernel)
  | 2, _ => exact BIG_at 164 (by decide +kernel) (by decide +kernel)
  | 3, _ => exact BIG_at 166 (by decide +kernel) (by decide +kernel)
  | j + 4, h => exact absurd h (by omega)
def R_Ch : String := "LockRuns$Chambers"
def F_Ch : u_T := fun k => match k with
  | 0 => ("LockRuns$Chambers", "lengths", "[I", true)
  | 1 => ("LockRuns$Chambers", "widths", "[I", true)
  | 2 => ("LockRuns$Chambers", "fills", "[I", true)
  | 3 => ("LockRuns$Chambers", "size", "I", false)
  | 4 => ("LockRuns$Chambers", "spanChambers", "[I", true)
  | 5 => ("LockRuns$Chambers", "spanBegins", "[I", true)
  | 6 => ("LockRuns$Chambers", "spanEnds", "[I", true)
  | _ => ("LockRuns$Chambers", "spans", "I", false)
def t_Ch : Nat → FieldType := fun k => match k with
  | 0 => (.array .int)
  | 1 => (.array .int)
  | 2 => (.array .int)
  | 3 => .int
  | 4 => (.array .int)
  | 5 => (.array .int)
  | 6 => (.array .int)
  | _ => .int
theorem n_Ch : ∀ a, a < 8 → ∀ b, b < 8 → a ≠ b → (F_Ch a).2.1 ≠ (F_Ch b).2.1 := by decide +kernel
theorem t_Ch_ok : ∀ k, k < 8 → parseFieldDescriptor (F_Ch k).2.2.1 = some (t_Ch k) := by decide +kernel
theorem i_Ch : ∀ w ∈ u_ws R_Ch F_Ch 8, w ∈ BIG := by
  intro w hw
  obtain ⟨j, hj, rfl⟩ := List.mem_map.mp hw
  have hj := List.mem_range.mp hj
  match j, hj with
  | 0, _ => exact BIG_at 38 (by decide +kernel) (by decide +kernel)
  | 1, _ => exact BIG_at 40 (by decide +kernel) (by decide +kernel)
  | 2, _ => exact BIG_at 42 (by decide +kernel) (by decide +kernel)
  | 3, _ => exact BIG_at 44 (by decide +kernel) (by decide +kernel)
  | 4, _ => exact BIG_at 46 (by decide +kernel) (by decide +kernel)
  | 5, _ => exact BIG_at 48 (by decide +kernel) (by decide +kernel)
  | 6, _ => exact BIG_at 50 (by decide +kernel) (by decide +kernel)
  | 7, _ => exact BIG_at 52 (by decide +kernel) (by decide +kernel)
  | j + 8, h => exact absurd h (by omega)
def R_Fl : String := "LockRuns$Fleet"
def F_Fl : u_T := fun k => match k with
  | 0 => ("LockRuns$Fleet", "lengths", "[I", true)
  | 1 => ("LockRuns$Fleet", "widths", "[I", true)
  | 2 => ("LockRuns$Fleet", "arrivals", "[I", true)
  | 3 => ("LockRuns$Fleet", "directions", "[I", true)
  | 4 => ("LockRuns$Fleet", "sides", "[I", true)
  | _ => ("LockRuns$Fleet", "size", "I", false)
def t_Fl : Nat → FieldType := fun k => match k with
  | 0 => (.array .int)
  | 1 => (.array .int)
  | 2 => (.array .int)
  | 3 => (.array .int)
  | 4 => (.array .int)
  | _ => .int
theorem n_Fl : ∀ a, a < 6 → ∀ b, b < 6 → a ≠ b → (F_Fl a).2.1 ≠ (F_Fl b).2.1 := by decide +kernel
theorem t_Fl_ok : ∀ k, k < 6 → parseFieldDescriptor (F_Fl k).2.2.1 = some (t_Fl k) := by decide +kernel
theorem i_Fl : ∀ w ∈ u_ws R_Fl F_Fl 6, w ∈ BIG := by
  intro w hw
  obtain ⟨j, hj, rfl⟩ := List.mem_map.mp hw
  have hj := List.mem_range.mp hj
  match j, hj with
  | 0, _ => exact BIG_at 68 (by decide +kernel) (by decide +kernel)
  | 1, _ => exact BIG_at 70 (by decide +kernel) (by decide +kernel)
  | 2, _ => exact BIG_at 72 (by decide +kernel) (by decide +kernel)
  | 3, _ => exact BIG_at 74 (by decide +kernel) (by decide +kernel)
  | 4, _ => exact BIG_at 76 (by decide +kernel) (by decide +kernel)
  | 5, _ => exact BIG_at 78 (by decide +kernel) (by decide +kernel)
  | j + 6, h => exact absurd h (by omega)
def R_Be : String := "LockRuns$Berths"
def F_Be : u_T := fun k => match k with
  | 0 => ("LockRuns$Berths", "chambers", "LLockRuns$Chambers;", true)
  | 1 => ("LockRuns$Berths", "fleet", "LLockRuns$Fleet;", true)
  | 2 => ("LockRuns$Berths", "xs", "[I", true)
  | 3 => ("LockRuns$Berths", "ys", "[I", true)
  | 4 => ("LockRuns$Berths", "found", "[I", true)
  | _ => ("LockRuns$Berths", "gap", "I", false)
def t_Be : Nat → FieldType := fun k => match k with
  | 0 => (.object "LockRuns$Chambers")
  | 1 => (.object "LockRuns$Fleet")
  | 2 => (.array .int)
  | 3 => (.array .int)
  | 4 => (.array .int)
  | _ => .int
theorem n_Be : ∀ a, a < 6 → ∀ b, b < 6 → a ≠ b → (F_Be a).2.1 ≠ (F_Be b).2.1 := by decide +kernel
theorem t_Be_ok : ∀ k, k < 6 → parseFieldDescriptor (F_Be k).2.2.1 = some (t_Be k) := by decide +kernel
theorem i_Be : ∀ w ∈ u_ws R_Be F_Be 6, w ∈ BIG := by
  intro w hw
  obtain ⟨j, hj, rfl⟩ := List.mem_map.mp hw
  have hj := List.mem_range.mp hj
  match j, hj with
  | 0, _ => exact BIG_at 93 (by decide +kernel) (by decide +kernel)
  | 1, _ => exact BIG_at 95 (by decide +kernel) (by decide +kernel)
  | 2, _ => exact BIG_at 97 (by decide +kernel) (by decide +kernel)
  | 3, _ => exact BIG_at 99 (by decide +kernel) (by decide +kernel)
  | 4, _ => exact BIG_at 101 (by decide +kernel) (by decide +kernel)
  | 5, _ => exact BIG_at 103 (by decide +kernel) (by decide +kernel)
  | j + 6, h => exact absurd h (by omega)
def R_Tt : String := "LockRuns$Timetable"
def F_Tt : u_T := fun k => match k with
  | 0 => ("LockRuns$Timetable", "begins", "[I", true)
  | 1 => ("LockRuns$Timetable", "chambers", "[I", true)
  | 2 => ("LockRuns$Timetable", "runs", "[I", true)
  | _ => ("LockRuns$Timetable", "waiting", "I", false)
def t_Tt : Nat → FieldType := fun k => match k with
  | 0 => (.array .int)
  | 1 => (.array .int)
  | 2 => (.array .int)
  | _ => .int
theorem n_Tt : ∀ a, a < 4 → ∀ b, b < 4 → a ≠ b → (F_Tt a).2.1 ≠ (F_Tt b).2.1 := by decide +kernel
theorem t_Tt_ok : ∀ k, k < 4 → parseFieldDescriptor (F_Tt k).2.2.1 = some (t_Tt k) := by decide +kernel
theorem i_Tt : ∀ w ∈ u_ws R_Tt F_Tt 4, w ∈ BIG := by
  intro w hw
  obtain ⟨j, hj, rfl⟩ := List.mem_map.mp hw
  have hj := List.mem_range.mp hj
  match j, hj with
  | 0, _ => exact BIG_at 122 (by decide +kernel) (by decide +kernel)
  | 1, _ => exact BIG_at 124 (by decide +kernel) (by decide +kernel)
  | 2, _ => exact BIG_at 126 (by decide +kernel) (by decide +kernel)
  | 3, _ => exact BIG_at 128 (by decide +kernel) (by decide +kernel)
  | j + 4, h => exact absurd h (by omega)
def R_Pl : String := "LockRuns$Planner"
def F_Pl : u_T := fun k => match k with
  | 0 => ("LockRuns$Planner", "chambers", "LLockRuns$Chambers;", true)
  | 1 => ("LockRuns$Planner", "fleet", "LLockRuns$Fleet;", true)
  | 2 => ("LockRuns$Planner", "berths", "LLockRuns$Berths;", true)
  | 3 => ("LockRuns$Planner", "trial", "LLockRuns$Timetable;", true)
  | 4 => ("LockRuns$Planner", "best", "LLockRuns$Timetable;", true)
  | 5 => ("LockRuns$Planner", "previous", "LLockRuns$Timetable;", true)
  | 6 => ("LockRuns$Planner", "planned", "Z", false)
  | _ => ("LockRuns$Planner", "over", "I", false)
def t_Pl : Nat → FieldType := fun k => match k with
  | 0 => (.object "LockRuns$Chambers")
  | 1 => (.object "LockRuns$Fleet")
  | 2 => (.object "LockRuns$Berths")
  | 3 => (.object "LockRuns$Timetable")
  | 4 => (.object "LockRuns$Timetable")
  | 5 => (.object "LockRuns$Timetable")
  | 6 => .boolean
  | _ => .int
theorem n_Pl : ∀ a, a < 8 → ∀ b, b < 8 → a ≠ b → (F_Pl a).2.1 ≠ (F_Pl b).2.1 := by decide +kernel
theorem t_Pl_ok : ∀ k, k < 8 → parseFieldDescriptor (F_Pl k).2.2.1 = some (t_Pl k) := by decide +kernel
theorem i_Pl : ∀ w ∈ u_ws R_Pl F_Pl 8, w ∈ BIG := by
  intro w hw
  obtain ⟨j, hj, rfl⟩ := List.mem_map.mp hw
  have hj := List.mem_range.mp hj
  match j, hj with
  | 0, _ => exact BIG_at 139 (by decide +kernel) (by decide +kernel)
  | 1, _ => exact BIG_at 141 (by decide +kernel) (by decide +kernel)
  | 2, _ => exact BIG_at 143 (by decide +kernel) (by decide +kernel)
  | 3, _ => exact BIG_at 145 (by decide +kernel) (by decide +kernel)
  | 4, _ => exact BIG_at 147 (by decide +kernel) (by decide +kernel)
  | 5, _ => exact BIG_at 149 (by decide +kernel) (by decide +kernel)
  | 6, _ => exact BIG_at 151 (by decide +kernel) (by decide +kernel)
  | 7, _ => exact BIG_at 153 (by decide +kernel) (by decide +kernel)
  | j + 8, h => exact absurd h (by omega)
def R_Mo : String := "LockRunsModel"
def F_Mo : u_T := fun k => match k with
  | 0 => ("LockRunsModel", "thrown", "I", false)
  | 1 => ("LockRunsModel", "chambers", "I", false)
  | 2 => ("LockRunsModel", "ships", "I", false)
  | 3 => ("LockRunsModel", "spans", "I", false)
  | 4 => ("LockRunsModel", "gap", "I", false)
  | 5 => ("LockRunsModel", "over", "I", false)
  | 6 => ("LockRunsModel", "isPlan", "Z", false)
  | 7 => ("LockRunsModel", "lengthOf", "[I", true)
  | 8 => ("LockRunsModel", "widthOf", "[I", true)
  | 9 => ("LockRunsModel", "fillOf", "[I", true)
  | 10 => ("LockRunsModel", "spanChamber", "[I", true)
  | 11 => ("LockRunsModel", "spanFrom", "[I", true)
  | 12 => ("LockRunsModel", "spanTo", "[I", true)
  | 13 => ("LockRunsModel", "shipLength", "[I", true)
  | 14 => ("LockRunsModel", "shipWidth", "[I", true)
  | 15 => ("LockRunsModel", "arrives", "[I", true)
  | 16 => ("LockRunsModel", "way", "[I", true)
  | 17 => ("LockRunsModel", "side", "[I", true)
  | 18 => ("LockRunsModel", "laid", "[I", true)
  | 19 => ("LockRunsModel", "isFit", "[Z", true)
  | 20 => ("LockRunsModel", "tried", "[I", true)
  | 21 => ("LockRunsModel", "triedBegin", "[I", true)
  | 22 => ("LockRunsModel", "best", "[I", true)
  | 23 => ("LockRunsModel", "bestBegin", "[I", true)
  | _ => ("LockRunsModel", "runBegin", "[I", true)
def t_Mo : Nat → FieldType := fun k => match k with
  | 0 => .int
  | 1 => .int
  | 2 => .int
  | 3 => .int
  | 4 => .int
  | 5 => .int
  | 6 => .boolean
  | 7 => (.array .int)
  | 8 => (.array .int)
  | 9 => (.array .int)
  | 10 => (.array .int)
  | 11 => (.array .int)
  | 12 => (.array .int)
  | 13 => (.array .int)
  | 14 => (.array .int)
  | 15 => (.array .int)
  | 16 => (.array .int)
  | 17 => (.array .int)
  | 18 => (.array .int)
  | 19 => (.array .boolean)
  | 20 => (.array .int)
  | 21 => (.array .int)
  | 22 => (.array .int)
  | 23 => (.array .int)
  | _ => (.array .int)
theorem n_Mo : ∀ a, a < 25 → ∀ b, b < 25 → a ≠ b → (F_Mo a).2.1 ≠ (F_Mo b).2.1 := by decide +kernel
theorem t_Mo_ok : ∀ k, k < 25 → parseFieldDescriptor (F_Mo k).2.2.1 = some (t_Mo k) := by decide +kernel
theorem i_Mo : ∀ w ∈ u_ws R_Mo F_Mo 25, w ∈ BIG := by
  intro w hw
  obtain ⟨j, hj, rfl⟩ := List.mem_map.mp hw
  have hj := List.mem_range.mp hj
  match j, hj with
  | 0, _ => exact BIG_at 666 (by decide +kernel) (by decide +kernel)
  | 1, _ => exact BIG_at 668 (by decide +kernel) (by decide +kernel)
  | 2, _ => exact BIG_at 670 (by decide +kernel) (by decide +kernel)
  | 3, _ => exact BIG_at 672 (by decide +kernel) (by decide +kernel)
  | 4, _ => exact BIG_at 674 (by decide +kernel) (by decide +kernel)
  | 5, _ => exact BIG_at 676 (by decide +kernel) (by decide +kernel)
  | 6, _ => exact BIG_at 678 (by decide +kernel) (by decide +kernel)
  | 7, _ => exact BIG_at 680 (by decide +kernel) (by decide +kernel)
  | 8, _ => exact BIG_at 682 (by decide +kernel) (by decide +kernel)
  | 9, _ => exact BIG_at 684 (by decide +kernel) (by decide +kernel)
  | 10, _ => exact BIG_at 686 (by decide +kernel) (by decide +kernel)
  | 11, _ => exact BIG_at 688 (by decide +kernel) (by decide +kernel)
  | 12, _ => exact BIG_at 690 (by decide +kernel) (by decide +kernel)
  | 13, _ => exact BIG_at 692 (by decide +kernel) (by decide +kernel)
  | 14, _ => exact BIG_at 694 (by decide +kernel) (by decide +kernel)
  | 15, _ => exact BIG_at 696 (by decide +kernel) (by decide +kernel)
  | 16, _ => exact BIG_at 698 (by decide +kernel) (by decide +kernel)
  | 17, _ => exact BIG_at 700 (by decide +kernel) (by decide +kernel)
  | 18, _ => exact BIG_at 702 (by decide +kernel) (by decide +kernel)
  | 19, _ => exact BIG_at 704 (by decide +kernel) (by decide +kernel)
  | 20, _ => exact BIG_at 706 (by decide +kernel) (by decide +kernel)
  | 21, _ => exact BIG_at 708 (by decide +kernel) (by decide +kernel)
  | 22, _ => exact BIG_at 710 (by decide +kernel) (by decide +kernel)
  | 23, _ => exact BIG_at 712 (by decide +kernel) (by decide +kernel)
  | 24, _ => exact BIG_at 714 (by decide +kernel) (by decide +kernel)
  | j + 25, h => exact absurd h (by omega)
def R_Lw : String := "LockRunsLaw"
abbrev classes : List vw_C := [(R_LR, F_LR, 4), (R_Ch, F_Ch, 8), (R_Fl, F_Fl, 6), (R_Be, F_Be, 6), (R_Tt, F_Tt, 4), (R_Pl, F_Pl, 8), (R_Mo, F_Mo, 25)]
abbrev b_LR_init : ByteArray := prog_1_method_1_code
def y_LR_init : MethodName := ⟨R_LR, "<init>", "()V"⟩
abbrev b_LR_chamber : ByteArray := prog_1_method_2_code
def y_LR_chamber : MethodName := ⟨R_LR, "chamber", "(III)I"⟩
abbrev b_LR_ship : ByteArray := prog_1_method_3_code
def y_LR_ship : MethodName := ⟨R_LR, "ship", "(IIIII)I"⟩
abbrev b_LR_closed : ByteArray := prog_1_method_4_code
def y_LR_closed : MethodName := ⟨R_LR, "closed", "(III)Z"⟩
abbrev b_LR_rule : ByteArray := prog_1_method_5_code
def y_LR_rule : MethodName := ⟨R_LR, "rule", "(II)Z"⟩
abbrev b_LR_plan : ByteArray := prog_1_method_6_code
def y_LR_plan : MethodName := ⟨R_LR, "plan", "()I"⟩
abbrev b_LR_fits : ByteArray := prog_1_method_7_code
def y_LR_fits : MethodName := ⟨R_LR, "fits", "(II)Z"⟩
abbrev b_LR_of : ByteArray := prog_1_method_8_code
def y_LR_of : MethodName := ⟨R_LR, "of", "(II)I"⟩
abbrev b_LR_run : ByteArray := prog_1_method_9_code
def y_LR_run : MethodName := ⟨R_LR, "run", "(III)I"⟩
abbrev b_LR_late : ByteArray := prog_1_method_10_code
def y_LR_late : MethodName := ⟨R_LR, "late", "(II)I"⟩
abbrev b_LR_home : ByteArray := prog_1_method_11_code
def y_LR_home : MethodName := ⟨R_LR, "home", "(I)I"⟩
abbrev b_LR_rate : ByteArray := prog_1_method_12_code
def y_LR_rate : MethodName := ⟨R_LR, "rate", "(II)I"⟩
abbrev b_LR_count : ByteArray := prog_1_method_13_code
def y_LR_count : MethodName := ⟨R_LR, "count", "(I)I"⟩
abbrev b_LR_runsOf : ByteArray := prog_1_method_14_code
def y_LR_runsOf : MethodName := ⟨R_LR, "runsOf", "(I)I"⟩
abbrev b_LR_canMeasure : ByteArray := prog_1_method_15_code
def y_LR_canMeasure : MethodName := ⟨R_LR, "canMeasure", "(II)Z"⟩
abbrev b_LR_within : ByteArray := prog_1_method_16_code
def y_LR_within : MethodName := ⟨R_LR, "within", "(III)Z"⟩
abbrev b_LR_holds : ByteArray := prog_1_method_17_code
def y_LR_holds : MethodName := ⟨R_LR, "holds", "(II)Z"⟩
abbrev b_Ch_init : ByteArray := prog_3_method_1_code
def y_Ch_init : MethodName := ⟨R_Ch, "<init>", "()V"⟩
abbrev b_Ch_size : ByteArray := prog_3_method_2_code
def y_Ch_size : MethodName := ⟨R_Ch, "size", "()I"⟩
abbrev b_Ch_spans : ByteArray := prog_3_method_3_code
def y_Ch_spans : MethodName := ⟨R_Ch, "spans", "()I"⟩
abbrev b_Ch_has : ByteArray := prog_3_method_4_code
def y_Ch_has : MethodName := ⟨R_Ch, "has", "(I)Z"⟩
abbrev b_Ch_add : ByteArray := prog_3_method_5_code
def y_Ch_add : MethodName := ⟨R_Ch, "add", "(III)I"⟩
abbrev b_Ch_addSpan : ByteArray := prog_3_method_6_code
def y_Ch_addSpan : MethodName := ⟨R_Ch, "addSpan", "(III)Z"⟩
abbrev b_Ch_length : ByteArray := prog_3_method_7_code
def y_Ch_length : MethodName := ⟨R_Ch, "length", "(I)I"⟩
abbrev b_Ch_width : ByteArray := prog_3_method_8_code
def y_Ch_width : MethodName := ⟨R_Ch, "width", "(I)I"⟩
abbrev b_Ch_fill : ByteArray := prog_3_method_9_code
def y_Ch_fill : MethodName := ⟨R_Ch, "fill", "(I)I"⟩
abbrev b_Ch_firstOpen : ByteArray := prog_3_method_10_code
def y_Ch_firstOpen : MethodName := ⟨R_Ch, "firstOpen", "(II)I"⟩
abbrev b_Ch_pastSpans : ByteArray := prog_3_method_11_code
def y_Ch_pastSpans : MethodName := ⟨R_Ch, "pastSpans", "(II)I"⟩
abbrev b_Fl_init : ByteArray := prog_4_method_1_code
def y_Fl_init : MethodName := ⟨R_Fl, "<init>", "()V"⟩
abbrev b_Fl_size : ByteArray := prog_4_method_2_code
def y_Fl_size : MethodName := ⟨R_Fl, "size", "()I"⟩
abbrev b_Fl_has : ByteArray := prog_4_method_3_code
def y_Fl_has : MethodName := ⟨R_Fl, "has", "(I)Z"⟩
abbrev b_Fl_all : ByteArray := prog_4_method_4_code
def y_Fl_all : MethodName := ⟨R_Fl, "all", "()I"⟩
abbrev b_Fl_add : ByteArray := prog_4_method_5_code
def y_Fl_add : MethodName := ⟨R_Fl, "add", "(IIIII)I"⟩
abbrev b_Fl_length : ByteArray := prog_4_method_6_code
def y_Fl_length : MethodName := ⟨R_Fl, "length", "(I)I"⟩
abbrev b_Fl_width : ByteArray := prog_4_method_7_code
def y_Fl_width : MethodName := ⟨R_Fl, "width", "(I)I"⟩
abbrev b_Fl_side : ByteArray := prog_4_method_8_code
def y_Fl_side : MethodName := ⟨R_Fl, "side", "(I)I"⟩
abbrev b_Fl_arrival : ByteArray := prog_4_method_9_code
def y_Fl_arrival : MethodName := ⟨R_Fl, "arrival", "(I)I"⟩
abbrev b_Fl_setArrival : ByteArray := prog_4_method_10_code
def y_Fl_setArrival : MethodName := ⟨R_Fl, "setArrival", "(II)V"⟩
abbrev b_Fl_commonDirection : ByteArray := prog_4_method_11_code
def y_Fl_commonDirection : MethodName := ⟨R_Fl, "commonDirection", "(I)I"⟩
abbrev b_Fl_lastArrival : ByteArray := prog_4_method_12_code
def y_Fl_lastArrival : MethodName := ⟨R_Fl, "lastArrival", "(I)I"⟩
abbrev b_Fl_waiting : ByteArray := prog_4_method_13_code
def y_Fl_waiting : MethodName := ⟨R_Fl, "waiting", "(II)I"⟩
abbrev b_Fl_comesBehind : ByteArray := prog_4_method_14_code
def y_Fl_comesBehind : MethodName := ⟨R_Fl, "comesBehind", "(II)Z"⟩
abbrev b_Be_init : ByteArray := prog_2_method_1_code
def y_Be_init : MethodName := ⟨R_Be, "<init>", "(LLockRuns$Chambers;LLockRuns$Fleet;)V"⟩
abbrev b_Be_gap : ByteArray := prog_2_method_2_code
def y_Be_gap : MethodName := ⟨R_Be, "gap", "()I"⟩
abbrev b_Be_setGap : ByteArray := prog_2_method_3_code
def y_Be_setGap : MethodName := ⟨R_Be, "setGap", "(I)V"⟩
abbrev b_Be_x : ByteArray := prog_2_method_4_code
def y_Be_x : MethodName := ⟨R_Be, "x", "(I)I"⟩
abbrev b_Be_y : ByteArray := prog_2_method_5_code
def y_Be_y : MethodName := ⟨R_Be, "y", "(I)I"⟩
abbrev b_Be_canLay : ByteArray := prog_2_method_6_code
def y_Be_canLay : MethodName := ⟨R_Be, "canLay", "(II)Z"⟩
abbrev b_Be_lay : ByteArray := prog_2_method_7_code
def y_Be_lay : MethodName := ⟨R_Be, "lay", "(II)Z"⟩
abbrev b_Be_layFrom : ByteArray := prog_2_method_8_code
def y_Be_layFrom : MethodName := ⟨R_Be, "layFrom", "(IIII)Z"⟩
abbrev b_Be_cells : ByteArray := prog_2_method_9_code
def y_Be_cells : MethodName := ⟨R_Be, "cells", "(IIII)I"⟩
abbrev b_Tt_init : ByteArray := prog_6_method_1_code
def y_Tt_init : MethodName := ⟨R_Tt, "<init>", "()V"⟩
abbrev b_Tt_waiting : ByteArray := prog_6_method_2_code
def y_Tt_waiting : MethodName := ⟨R_Tt, "waiting", "()I"⟩
abbrev b_Tt_setWaiting : ByteArray := prog_6_method_3_code
def y_Tt_setWaiting : MethodName := ⟨R_Tt, "setWaiting", "(I)V"⟩
abbrev b_Tt_begin : ByteArray := prog_6_method_4_code
def y_Tt_begin : MethodName := ⟨R_Tt, "begin", "(I)I"⟩
abbrev b_Tt_beginOfAll : ByteArray := prog_6_method_5_code
def y_Tt_beginOfAll : MethodName := ⟨R_Tt, "beginOfAll", "(I)I"⟩
abbrev b_Tt_chamberOf : ByteArray := prog_6_method_6_code
def y_Tt_chamberOf : MethodName := ⟨R_Tt, "chamberOf", "(I)I"⟩
abbrev b_Tt_runOf : ByteArray := prog_6_method_7_code
def y_Tt_runOf : MethodName := ⟨R_Tt, "runOf", "(I)I"⟩
abbrev b_Tt_put : ByteArray := prog_6_method_8_code
def y_Tt_put : MethodName := ⟨R_Tt, "put", "(IIII)V"⟩
abbrev b_Tt_copyFrom : ByteArray := prog_6_method_9_code
def y_Tt_copyFrom : MethodName := ⟨R_Tt, "copyFrom", "(LLockRuns$Timetable;)V"⟩
abbrev b_Tt_isAheadOf : ByteArray := prog_6_method_10_code
def y_Tt_isAheadOf : MethodName := ⟨R_Tt, "isAheadOf", "(LLockRuns$Timetable;I)Z"⟩
abbrev b_Tt_differences : ByteArray := prog_6_method_11_code
def y_Tt_differences : MethodName := ⟨R_Tt, "differences", "(LLockRuns$Timetable;I)I"⟩
abbrev b_Tt_differs : ByteArray := prog_6_method_12_code
def y_Tt_differs : MethodName := ⟨R_Tt, "differs", "(LLockRuns$Timetable;I)Z"⟩
abbrev b_Tt_aboard : ByteArray := prog_6_method_13_code
def y_Tt_aboard : MethodName := ⟨R_Tt, "aboard", "(III)I"⟩
abbrev b_Pl_init : ByteArray := prog_5_method_1_code
def y_Pl_init : MethodName := ⟨R_Pl, "<init>", "(LLockRuns$Chambers;LLockRuns$Fleet;LLockRuns$Berths;)V"⟩
abbrev b_Pl_over : ByteArray := prog_5_method_2_code
def y_Pl_over : MethodName := ⟨R_Pl, "over", "()I"⟩
abbrev b_Pl_setOver : ByteArray := prog_5_method_3_code
def y_Pl_setOver : MethodName := ⟨R_Pl, "setOver", "(I)V"⟩
abbrev b_Pl_hasPlan : ByteArray := prog_5_method_4_code
def y_Pl_hasPlan : MethodName := ⟨R_Pl, "hasPlan", "()Z"⟩
abbrev b_Pl_forget : ByteArray := prog_5_method_5_code
def y_Pl_forget : MethodName := ⟨R_Pl, "forget", "()V"⟩
abbrev b_Pl_waiting : ByteArray := prog_5_method_6_code
def y_Pl_waiting : MethodName := ⟨R_Pl, "waiting", "()I"⟩
abbrev b_Pl_search : ByteArray := prog_5_method_7_code
def y_Pl_search : MethodName := ⟨R_Pl, "search", "()Z"⟩
abbrev b_Pl_keepForComparison : ByteArray := prog_5_method_8_code
def y_Pl_keepForComparison : MethodName := ⟨R_Pl, "keepForComparison", "()V"⟩
abbrev b_Pl_moved : ByteArray := prog_5_method_9_code
def y_Pl_moved : MethodName := ⟨R_Pl, "moved", "()I"⟩
abbrev b_Pl_tryRuns : ByteArray := prog_5_method_10_code
def y_Pl_tryRuns : MethodName := ⟨R_Pl, "tryRuns", "(IIIIII)V"⟩
abbrev b_Pl_canRun : ByteArray := prog_5_method_11_code
def y_Pl_canRun : MethodName := ⟨R_Pl, "canRun", "(II)Z"⟩
abbrev b_Pl_offerTrial : ByteArray := prog_5_method_12_code
def y_Pl_offerTrial : MethodName := ⟨R_Pl, "offerTrial", "(I)V"⟩
abbrev b_Pl_overtaken : ByteArray := prog_5_method_13_code
def y_Pl_overtaken : MethodName := ⟨R_Pl, "overtaken", "(LLockRuns$Timetable;I)I"⟩
abbrev b_Pl_tellShip : ByteArray := prog_5_method_14_code
def y_Pl_tellShip : MethodName := ⟨R_Pl, "tellShip", "(II)I"⟩
abbrev b_Pl_layRunOf : ByteArray := prog_5_method_15_code
def y_Pl_layRunOf : MethodName := ⟨R_Pl, "layRunOf", "(I)Z"⟩
abbrev b_Pl_tellRun : ByteArray := prog_5_method_16_code
def y_Pl_tellRun : MethodName := ⟨R_Pl, "tellRun", "(III)I"⟩
abbrev b_Pl_runs : ByteArray := prog_5_method_17_code
def y_Pl_runs : MethodName := ⟨R_Pl, "runs", "(I)I"⟩
abbrev b_Mo_init : ByteArray := prog_8_method_1_code
def y_Mo_init : MethodName := ⟨R_Mo, "<init>", "()V"⟩
abbrev b_Mo_thrown : ByteArray := prog_8_method_2_code
def y_Mo_thrown : MethodName := ⟨R_Mo, "thrown", "()I"⟩
abbrev b_Mo_in : ByteArray := prog_8_method_3_code
def y_Mo_in : MethodName := ⟨R_Mo, "in", "(III)Z"⟩
abbrev b_Mo_isChamber : ByteArray := prog_8_method_4_code
def y_Mo_isChamber : MethodName := ⟨R_Mo, "isChamber", "(I)Z"⟩
abbrev b_Mo_isShip : ByteArray := prog_8_method_5_code
def y_Mo_isShip : MethodName := ⟨R_Mo, "isShip", "(I)Z"⟩
abbrev b_Mo_chamber : ByteArray := prog_8_method_6_code
def y_Mo_chamber : MethodName := ⟨R_Mo, "chamber", "(III)I"⟩
abbrev b_Mo_ship : ByteArray := prog_8_method_7_code
def y_Mo_ship : MethodName := ⟨R_Mo, "ship", "(IIIII)I"⟩
abbrev b_Mo_closed : ByteArray := prog_8_method_8_code
def y_Mo_closed : MethodName := ⟨R_Mo, "closed", "(III)Z"⟩
abbrev b_Mo_rule : ByteArray := prog_8_method_9_code
def y_Mo_rule : MethodName := ⟨R_Mo, "rule", "(II)Z"⟩
abbrev b_Mo_mayLie : ByteArray := prog_8_method_10_code
def y_Mo_mayLie : MethodName := ⟨R_Mo, "mayLie", "(IIII)Z"⟩
abbrev b_Mo_lay : ByteArray := prog_8_method_11_code
def y_Mo_lay : MethodName := ⟨R_Mo, "lay", "(II)Z"⟩
abbrev b_Mo_fits : ByteArray := prog_8_method_12_code
def y_Mo_fits : MethodName := ⟨R_Mo, "fits", "(II)Z"⟩
abbrev b_Mo_setOf : ByteArray := prog_8_method_13_code
def y_Mo_setOf : MethodName := ⟨R_Mo, "setOf", "(I)I"⟩
abbrev b_Mo_first : ByteArray := prog_8_method_14_code
def y_Mo_first : MethodName := ⟨R_Mo, "first", "(I)I"⟩
abbrev b_Mo_isOneWay : ByteArray := prog_8_method_15_code
def y_Mo_isOneWay : MethodName := ⟨R_Mo, "isOneWay", "(I)Z"⟩
abbrev b_Mo_open : ByteArray := prog_8_method_16_code
def y_Mo_open : MethodName := ⟨R_Mo, "open", "(II)I"⟩
abbrev b_Mo_times : ByteArray := prog_8_method_17_code
def y_Mo_times : MethodName := ⟨R_Mo, "times", "(I)Z"⟩
abbrev b_Mo_overtaken : ByteArray := prog_8_method_18_code
def y_Mo_overtaken : MethodName := ⟨R_Mo, "overtaken", "(IZ)I"⟩
abbrev b_Mo_weighed : ByteArray := prog_8_method_19_code
def y_Mo_weighed : MethodName := ⟨R_Mo, "weighed", "()I"⟩
abbrev b_Mo_isAhead : ByteArray := prog_8_method_20_code
def y_Mo_isAhead : MethodName := ⟨R_Mo, "isAhead", "()Z"⟩
abbrev b_Mo_search : ByteArray := prog_8_method_21_code
def y_Mo_search : MethodName := ⟨R_Mo, "search", "()I"⟩
abbrev b_Mo_plan : ByteArray := prog_8_method_22_code
def y_Mo_plan : MethodName := ⟨R_Mo, "plan", "()I"⟩
abbrev b_Mo_shipsOf : ByteArray := prog_8_method_23_code
def y_Mo_shipsOf : MethodName := ⟨R_Mo, "shipsOf", "(I)I"⟩
abbrev b_Mo_of : ByteArray := prog_8_method_24_code
def y_Mo_of : MethodName := ⟨R_Mo, "of", "(II)I"⟩
abbrev b_Mo_run : ByteArray := prog_8_method_25_code
def y_Mo_run : MethodName := ⟨R_Mo, "run", "(III)I"⟩
abbrev b_Mo_late : ByteArray := prog_8_method_26_code
def y_Mo_late : MethodName := ⟨R_Mo, "late", "(II)I"⟩
abbrev b_Mo_home : ByteArray := prog_8_method_27_code
def y_Mo_home : MethodName := ⟨R_Mo, "home", "(I)I"⟩
abbrev b_Mo_rate : ByteArray := prog_8_method_28_code
def y_Mo_rate : MethodName := ⟨R_Mo, "rate", "(II)I"⟩
abbrev b_Mo_count : ByteArray := prog_8_method_29_code
def y_Mo_count : MethodName := ⟨R_Mo, "count", "(I)I"⟩
abbrev b_Lw_chamber : ByteArray := method_3_code
def y_Lw_chamber : MethodName := ⟨R_Lw, "chamber", "(LLockRuns;III[J)I"⟩
abbrev b_Lw_ship : ByteArray := method_4_code
def y_Lw_ship : MethodName := ⟨R_Lw, "ship", "(LLockRuns;IIIII[J)I"⟩
abbrev b_Lw_fits : ByteArray := method_5_code
def y_Lw_fits : MethodName := ⟨R_Lw, "fits", "(LLockRuns;II[J)I"⟩
abbrev b_Lw_of : ByteArray := method_6_code
def y_Lw_of : MethodName := ⟨R_Lw, "of", "(LLockRuns;II[J)I"⟩
abbrev b_Lw_run : ByteArray := method_7_code
def y_Lw_run : MethodName := ⟨R_Lw, "run", "(LLockRuns;III[J)I"⟩
abbrev b_Lw_late : ByteArray := method_8_code
def y_Lw_late : MethodName := ⟨R_Lw, "late", "(LLockRuns;II[J)I"⟩
abbrev b_Lw_home : ByteArray := method_9_code
def y_Lw_home : MethodName := ⟨R_Lw, "home", "(LLockRuns;I[J)I"⟩
abbrev b_Lw_rate : ByteArray := method_10_code
def y_Lw_rate : MethodName := ⟨R_Lw, "rate", "(LLockRuns;II[J)I"⟩
