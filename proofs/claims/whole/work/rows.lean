section
-- ===== PART A: goes FIRST, ahead of the names: the tables' words, and 'selects' of the private methods out of them =====
/-- a private method of a class that the tables say can be made, by its rows of tables_1 -/
def lw_okq (q : MethodName × Nat) : Prop := (q.1.cls ≠ "java/lang/invoke/MethodHandle" ∧ q.1.cls ≠ "java/lang/invoke/VarHandle") ∧ Cond.instantiable q.1.cls q.2 ∈ tables_1 ∧ Cond.privateMethod q.1 ∈ tables_1 ∧ Cond.instanceMethod q.1 ∈ tables_1
theorem lw_p0 : lw_okq (⟨"LockRuns$Planner", "tryRuns", "(IIIIII)V"⟩, 8) := ⟨⟨by decide +kernel, by decide +kernel⟩, List.mem_of_getElem? (i := 107) (by decide +kernel), List.mem_of_getElem? (i := 213) (by decide +kernel), List.mem_of_getElem? (i := 214) (by decide +kernel)⟩
theorem lw_p1 : lw_okq (⟨"LockRuns$Planner", "offerTrial", "(I)V"⟩, 8) := ⟨⟨by decide +kernel, by decide +kernel⟩, List.mem_of_getElem? (i := 107) (by decide +kernel), List.mem_of_getElem? (i := 221) (by decide +kernel), List.mem_of_getElem? (i := 222) (by decide +kernel)⟩
theorem lw_p2 : lw_okq (⟨"LockRuns$Planner", "overtaken", "(LLockRuns$Timetable;I)I"⟩, 8) := ⟨⟨by decide +kernel, by decide +kernel⟩, List.mem_of_getElem? (i := 107) (by decide +kernel), List.mem_of_getElem? (i := 229) (by decide +kernel), List.mem_of_getElem? (i := 230) (by decide +kernel)⟩
theorem lw_p3 : lw_okq (⟨"LockRuns$Timetable", "differs", "(LLockRuns$Timetable;I)Z"⟩, 4) := ⟨⟨by decide +kernel, by decide +kernel⟩, List.mem_of_getElem? (i := 113) (by decide +kernel), List.mem_of_getElem? (i := 256) (by decide +kernel), List.mem_of_getElem? (i := 257) (by decide +kernel)⟩
theorem lw_p4 : lw_okq (⟨"LockRuns$Planner", "canRun", "(II)Z"⟩, 8) := ⟨⟨by decide +kernel, by decide +kernel⟩, List.mem_of_getElem? (i := 107) (by decide +kernel), List.mem_of_getElem? (i := 275) (by decide +kernel), List.mem_of_getElem? (i := 276) (by decide +kernel)⟩
theorem lw_p5 : lw_okq (⟨"LockRuns$Berths", "layFrom", "(IIII)Z"⟩, 6) := ⟨⟨by decide +kernel, by decide +kernel⟩, List.mem_of_getElem? (i := 82) (by decide +kernel), List.mem_of_getElem? (i := 288) (by decide +kernel), List.mem_of_getElem? (i := 289) (by decide +kernel)⟩
theorem lw_p6 : lw_okq (⟨"LockRuns$Chambers", "pastSpans", "(II)I"⟩, 8) := ⟨⟨by decide +kernel, by decide +kernel⟩, List.mem_of_getElem? (i := 25) (by decide +kernel), List.mem_of_getElem? (i := 329) (by decide +kernel), List.mem_of_getElem? (i := 330) (by decide +kernel)⟩
theorem lw_p7 : lw_okq (⟨"LockRuns", "runsOf", "(I)I"⟩, 4) := ⟨⟨by decide +kernel, by decide +kernel⟩, List.mem_of_getElem? (i := 17) (by decide +kernel), List.mem_of_getElem? (i := 371) (by decide +kernel), List.mem_of_getElem? (i := 372) (by decide +kernel)⟩
theorem lw_p8 : lw_okq (⟨"java/lang/Throwable", "fillInStackTrace", "(I)Ljava/lang/Throwable;"⟩, 6) := ⟨⟨by decide +kernel, by decide +kernel⟩, List.mem_of_getElem? (i := 435) (by decide +kernel), List.mem_of_getElem? (i := 433) (by decide +kernel), List.mem_of_getElem? (i := 434) (by decide +kernel)⟩
theorem lw_p9 : lw_okq (⟨"LockRuns$Planner", "layRunOf", "(I)Z"⟩, 8) := ⟨⟨by decide +kernel, by decide +kernel⟩, List.mem_of_getElem? (i := 107) (by decide +kernel), List.mem_of_getElem? (i := 539) (by decide +kernel), List.mem_of_getElem? (i := 540) (by decide +kernel)⟩
theorem lw_p10 : lw_okq (⟨"LockRunsModel", "isChamber", "(I)Z"⟩, 25) := ⟨⟨by decide +kernel, by decide +kernel⟩, List.mem_of_getElem? (i := 636) (by decide +kernel), List.mem_of_getElem? (i := 738) (by decide +kernel), List.mem_of_getElem? (i := 739) (by decide +kernel)⟩
theorem lw_p11 : lw_okq (⟨"LockRunsModel", "lay", "(II)Z"⟩, 25) := ⟨⟨by decide +kernel, by decide +kernel⟩, List.mem_of_getElem? (i := 636) (by decide +kernel), List.mem_of_getElem? (i := 750) (by decide +kernel), List.mem_of_getElem? (i := 751) (by decide +kernel)⟩
theorem lw_p12 : lw_okq (⟨"LockRunsModel", "mayLie", "(IIII)Z"⟩, 25) := ⟨⟨by decide +kernel, by decide +kernel⟩, List.mem_of_getElem? (i := 636) (by decide +kernel), List.mem_of_getElem? (i := 754) (by decide +kernel), List.mem_of_getElem? (i := 755) (by decide +kernel)⟩
theorem lw_p13 : lw_okq (⟨"LockRunsModel", "search", "()I"⟩, 25) := ⟨⟨by decide +kernel, by decide +kernel⟩, List.mem_of_getElem? (i := 636) (by decide +kernel), List.mem_of_getElem? (i := 762) (by decide +kernel), List.mem_of_getElem? (i := 763) (by decide +kernel)⟩
theorem lw_p14 : lw_okq (⟨"LockRunsModel", "weighed", "()I"⟩, 25) := ⟨⟨by decide +kernel, by decide +kernel⟩, List.mem_of_getElem? (i := 636) (by decide +kernel), List.mem_of_getElem? (i := 767) (by decide +kernel), List.mem_of_getElem? (i := 768) (by decide +kernel)⟩
theorem lw_p15 : lw_okq (⟨"LockRunsModel", "times", "(I)Z"⟩, 25) := ⟨⟨by decide +kernel, by decide +kernel⟩, List.mem_of_getElem? (i := 636) (by decide +kernel), List.mem_of_getElem? (i := 771) (by decide +kernel), List.mem_of_getElem? (i := 772) (by decide +kernel)⟩
def lw_privs_1 : List (MethodName × Nat) := [(⟨"LockRuns$Planner", "tryRuns", "(IIIIII)V"⟩, 8), (⟨"LockRuns$Planner", "offerTrial", "(I)V"⟩, 8), (⟨"LockRuns$Planner", "overtaken", "(LLockRuns$Timetable;I)I"⟩, 8), (⟨"LockRuns$Timetable", "differs", "(LLockRuns$Timetable;I)Z"⟩, 4), (⟨"LockRuns$Planner", "canRun", "(II)Z"⟩, 8), (⟨"LockRuns$Berths", "layFrom", "(IIII)Z"⟩, 6), (⟨"LockRuns$Chambers", "pastSpans", "(II)I"⟩, 8), (⟨"LockRuns", "runsOf", "(I)I"⟩, 4), (⟨"java/lang/Throwable", "fillInStackTrace", "(I)Ljava/lang/Throwable;"⟩, 6), (⟨"LockRuns$Planner", "layRunOf", "(I)Z"⟩, 8), (⟨"LockRunsModel", "isChamber", "(I)Z"⟩, 25), (⟨"LockRunsModel", "lay", "(II)Z"⟩, 25), (⟨"LockRunsModel", "mayLie", "(IIII)Z"⟩, 25), (⟨"LockRunsModel", "search", "()I"⟩, 25), (⟨"LockRunsModel", "weighed", "()I"⟩, 25), (⟨"LockRunsModel", "times", "(I)Z"⟩, 25)]
theorem lw_r1 : ∀ q ∈ lw_privs_1, lw_okq q := List.forall_mem_cons.mpr ⟨lw_p0, List.forall_mem_cons.mpr ⟨lw_p1, List.forall_mem_cons.mpr ⟨lw_p2, List.forall_mem_cons.mpr ⟨lw_p3, List.forall_mem_cons.mpr ⟨lw_p4, List.forall_mem_cons.mpr ⟨lw_p5, List.forall_mem_cons.mpr ⟨lw_p6, List.forall_mem_cons.mpr ⟨lw_p7, List.forall_mem_cons.mpr ⟨lw_p8, List.forall_mem_cons.mpr ⟨lw_p9, List.forall_mem_cons.mpr ⟨lw_p10, List.forall_mem_cons.mpr ⟨lw_p11, List.forall_mem_cons.mpr ⟨lw_p12, List.forall_mem_cons.mpr ⟨lw_p13, List.forall_mem_cons.mpr ⟨lw_p14, List.forall_mem_cons.mpr ⟨lw_p15, fun _ h => absurd h List.not_mem_nil⟩⟩⟩⟩⟩⟩⟩⟩⟩⟩⟩⟩⟩⟩⟩⟩
theorem lw_p16 : lw_okq (⟨"LockRunsModel", "setOf", "(I)I"⟩, 25) := ⟨⟨by decide +kernel, by decide +kernel⟩, List.mem_of_getElem? (i := 636) (by decide +kernel), List.mem_of_getElem? (i := 775) (by decide +kernel), List.mem_of_getElem? (i := 776) (by decide +kernel)⟩
theorem lw_p17 : lw_okq (⟨"LockRunsModel", "isOneWay", "(I)Z"⟩, 25) := ⟨⟨by decide +kernel, by decide +kernel⟩, List.mem_of_getElem? (i := 636) (by decide +kernel), List.mem_of_getElem? (i := 779) (by decide +kernel), List.mem_of_getElem? (i := 780) (by decide +kernel)⟩
theorem lw_p18 : lw_okq (⟨"LockRunsModel", "open", "(II)I"⟩, 25) := ⟨⟨by decide +kernel, by decide +kernel⟩, List.mem_of_getElem? (i := 636) (by decide +kernel), List.mem_of_getElem? (i := 786) (by decide +kernel), List.mem_of_getElem? (i := 787) (by decide +kernel)⟩
theorem lw_p19 : lw_okq (⟨"LockRunsModel", "overtaken", "(IZ)I"⟩, 25) := ⟨⟨by decide +kernel, by decide +kernel⟩, List.mem_of_getElem? (i := 636) (by decide +kernel), List.mem_of_getElem? (i := 790) (by decide +kernel), List.mem_of_getElem? (i := 791) (by decide +kernel)⟩
theorem lw_p20 : lw_okq (⟨"LockRunsModel", "isAhead", "()Z"⟩, 25) := ⟨⟨by decide +kernel, by decide +kernel⟩, List.mem_of_getElem? (i := 636) (by decide +kernel), List.mem_of_getElem? (i := 794) (by decide +kernel), List.mem_of_getElem? (i := 795) (by decide +kernel)⟩
theorem lw_p21 : lw_okq (⟨"LockRunsModel", "isShip", "(I)Z"⟩, 25) := ⟨⟨by decide +kernel, by decide +kernel⟩, List.mem_of_getElem? (i := 636) (by decide +kernel), List.mem_of_getElem? (i := 802) (by decide +kernel), List.mem_of_getElem? (i := 803) (by decide +kernel)⟩
theorem lw_p22 : lw_okq (⟨"LockRunsModel", "shipsOf", "(I)I"⟩, 25) := ⟨⟨by decide +kernel, by decide +kernel⟩, List.mem_of_getElem? (i := 636) (by decide +kernel), List.mem_of_getElem? (i := 806) (by decide +kernel), List.mem_of_getElem? (i := 807) (by decide +kernel)⟩
def lw_privs_2 : List (MethodName × Nat) := [(⟨"LockRunsModel", "setOf", "(I)I"⟩, 25), (⟨"LockRunsModel", "isOneWay", "(I)Z"⟩, 25), (⟨"LockRunsModel", "open", "(II)I"⟩, 25), (⟨"LockRunsModel", "overtaken", "(IZ)I"⟩, 25), (⟨"LockRunsModel", "isAhead", "()Z"⟩, 25), (⟨"LockRunsModel", "isShip", "(I)Z"⟩, 25), (⟨"LockRunsModel", "shipsOf", "(I)I"⟩, 25)]
theorem lw_r2 : ∀ q ∈ lw_privs_2, lw_okq q := List.forall_mem_cons.mpr ⟨lw_p16, List.forall_mem_cons.mpr ⟨lw_p17, List.forall_mem_cons.mpr ⟨lw_p18, List.forall_mem_cons.mpr ⟨lw_p19, List.forall_mem_cons.mpr ⟨lw_p20, List.forall_mem_cons.mpr ⟨lw_p21, List.forall_mem_cons.mpr ⟨lw_p22, fun _ h => absurd h List.not_mem_nil⟩⟩⟩⟩⟩⟩⟩
def lw_privs : List (MethodName × Nat) := lw_privs_1 ++ (lw_privs_2)
def lw_tbl : List Cond := k2_sels lw_privs ++ tables_1
theorem lw_privs_ok : ∀ q ∈ lw_privs, lw_okq q := by
  show ∀ q ∈ lw_privs_1 ++ (lw_privs_2), lw_okq q
  exact List.forall_mem_append.mpr ⟨lw_r1, lw_r2⟩

/-- the words that every contract of mine takes: those of the tables that stay true as the tables warm -/
def BIG : List Cond := lw_tbl.filter goodWord
theorem BIG_good : GoodIn BIG BIG := fun w hw => ⟨hw, by
  have h := (List.mem_filter.mp hw).2
  cases w <;> first | exact Or.inl h | exact Or.inr ⟨_, rfl⟩⟩
theorem BIG_at {w : Cond} (i : Nat) (h : tables_1[i]? = some w) (hg : goodWord w = true) : w ∈ BIG := List.mem_filter.mpr ⟨List.mem_append_right _ (List.mem_of_getElem? h), hg⟩
theorem BIG_sel {q : MethodName × Nat} (i : Nat) (h : lw_privs[i]? = some q) (hg : goodWord (Cond.selects q.1.cls q.1 q.1) = true) : Cond.selects q.1.cls q.1 q.1 ∈ BIG := List.mem_filter.mpr ⟨List.mem_append_left _ (List.mem_map.mpr ⟨q, List.mem_of_getElem? h, rfl⟩), hg⟩
def NESTW : List Cond := [.methodLinkNest "LockRuns" 11 ⟨"LockRuns$Chambers", "<init>", "()V"⟩ "LockRuns", .methodLinkNest "LockRuns" 18 ⟨"LockRuns$Fleet", "<init>", "()V"⟩ "LockRuns", .methodLinkNest "LockRuns$Planner" 11 ⟨"LockRuns$Timetable", "<init>", "()V"⟩ "LockRuns", .methodLinkNest "LockRuns$Timetable" 25 ⟨"LockRuns", "holds", "(II)Z"⟩ "LockRuns", .methodLinkNest "LockRuns$Fleet" 35 ⟨"LockRuns", "holds", "(II)Z"⟩ "LockRuns", .methodLinkNest "LockRuns$Berths" 37 ⟨"LockRuns", "holds", "(II)Z"⟩ "LockRuns"]
theorem NESTW_tab : ∀ w ∈ NESTW, w.onTables = true := by decide +kernel
theorem NESTW_is : ∀ w ∈ NESTW, ∃ (a : String) (i : Nat) (x : MethodName) (h : String), w = .methodLinkNest a i x h := by
  intro w hw
  simp only [NESTW, List.mem_cons, List.not_mem_nil, or_false] at hw
  rcases hw with rfl | rfl | rfl | rfl | rfl | rfl <;> exact ⟨_, _, _, _, rfl⟩
theorem NESTW_warm (w : Cond) (hw : w ∈ NESTW) {s U : State} (hW : s.WarmedH U.vm) (h : va_Nw w s) : va_Nw w U := by
  obtain ⟨a, i, x, h9, rfl⟩ := NESTW_is w hw
  exact va_Nw.warmM hW h
def R_LR : String := "LockRuns"
def F_LR : u_T := fun k => match k with
  | 0 => ("LockRuns", "chambers", "LLockRuns$Chambers;", true)
  | 1 => ("LockRuns", "fleet", "LLockRuns$Fleet;", true)
  | 2 => ("LockRuns", "berths", "LLockRuns$Berths;", true)
  | _ => ("LockRuns", "planner", "LLockRuns$Planner;", true)
def t_LR : Nat → FieldType := fun k => match k with
  | 0 => (.object "LockRuns$Chambers")
  | 1 => (.object "LockRuns$Fleet")
  | 2 => (.object "LockRuns$Berths")
  | _ => (.object "LockRuns$Planner")
theorem n_LR : ∀ a, a < 4 → ∀ b, b < 4 → a ≠ b → (F_LR a).2.1 ≠ (F_LR b).2.1 := by decide +kernel
theorem t_LR_ok : ∀ k, k < 4 → parseFieldDescriptor (F_LR k).2.2.1 = some (t_LR k) := by decide +kernel
theorem i_LR : ∀ w ∈ u_ws R_LR F_LR 4, w ∈ BIG := by
  intro w hw
  obtain ⟨j, hj, rfl⟩ := List.mem_map.mp hw
  have hj := List.mem_range.mp hj
  match j, hj with
  | 0, _ => exact BIG_at 160 (by decide +kernel) (by decide +kernel)
  | 1, _ => exact BIG_at 162 (by decide +kernel) (by decide +kernel)
  | 2, _ => exact BIG_at 164 (by decide +kernel) (by decide +kernel)
  | 3, _ => exact BIG_at 166 (by decide +kernel) (by decide +kernel)
  | j + 4, h => exact absurd h (by omega)
def R_Ch : String := "LockRuns$Chambers"
def F_Ch : u_T := fun k => match k with
  | 0 => ("LockRuns$Chambers", "lengths", "[I", true)
  | 1 => ("LockRuns$Chambers", "widths", "[I", true)
  | 2 => ("LockRuns$Chambers", "fills", "[I", true)
  | 3 => ("LockRuns$Chambers", "size", "I", false)
  | 4 => ("LockRuns$Chambers", "spanChambers", "[I", true)
  | 5 => ("LockRuns$Chambers", "spanBegins", "[I", true)
  | 6 => ("LockRuns$Chambers", "spanEnds", "[I", true)
  | _ => ("LockRuns$Chambers", "spans", "I", false)
def t_Ch : Nat → FieldType := fun k => match k with
  | 0 => (.array .int)
  | 1 => (.array .int)
  | 2 => (.array .int)
  | 3 => .int
  | 4 => (.array .int)
  | 5 => (.array .int)
  | 6 => (.array .int)
  | _ => .int
theorem n_Ch : ∀ a, a < 8 → ∀ b, b < 8 → a ≠ b → (F_Ch a).2.1 ≠ (F_Ch b).2.1 := by decide +kernel
theorem t_Ch_ok : ∀ k, k < 8 → parseFieldDescriptor (F_Ch k).2.2.1 = some (t_Ch k) := by decide +kernel
theorem i_Ch : ∀ w ∈ u_ws R_Ch F_Ch 8, w ∈ BIG := by
  intro w hw
  obtain ⟨j, hj, rfl⟩ := List.mem_map.mp hw
  have hj := List.mem_range.mp hj
  match j, hj with
  | 0, _ => exact BIG_at 38 (by decide +kernel) (by decide +kernel)
  | 1, _ => exact BIG_at 40 (by decide +kernel) (by decide +kernel)
  | 2, _ => exact BIG_at 42 (by decide +kernel) (by decide +kernel)
  | 3, _ => exact BIG_at 44 (by decide +kernel) (by decide +kernel)
  | 4, _ => exact BIG_at 46 (by decide +kernel) (by decide +kernel)
  | 5, _ => exact BIG_at 48 (by decide +kernel) (by decide +kernel)
  | 6, _ => exact BIG_at 50 (by decide +kernel) (by decide +kernel)
  | 7, _ => exact BIG_at 52 (by decide +kernel) (by decide +kernel)
  | j + 8, h => exact absurd h (by omega)
def R_Fl : String := "LockRuns$Fleet"
def F_Fl : u_T := fun k => match k with
  | 0 => ("LockRuns$Fleet", "lengths", "[I", true)
  | 1 => ("LockRuns$Fleet", "widths", "[I", true)
  | 2 => ("LockRuns$Fleet", "arrivals", "[I", true)
  | 3 => ("LockRuns$Fleet", "directions", "[I", true)
  | 4 => ("LockRuns$Fleet", "sides", "[I", true)
  | _ => ("LockRuns$Fleet", "size", "I", false)
def t_Fl : Nat → FieldType := fun k => match k with
  | 0 => (.array .int)
  | 1 => (.array .int)
  | 2 => (.array .int)
  | 3 => (.array .int)
  | 4 => (.array .int)
  | _ => .int
theorem n_Fl : ∀ a, a < 6 → ∀ b, b < 6 → a ≠ b → (F_Fl a).2.1 ≠ (F_Fl b).2.1 := by decide +kernel
theorem t_Fl_ok : ∀ k, k < 6 → parseFieldDescriptor (F_Fl k).2.2.1 = some (t_Fl k) := by decide +kernel
theorem i_Fl : ∀ w ∈ u_ws R_Fl F_Fl 6, w ∈ BIG := by
  intro w hw
  obtain ⟨j, hj, rfl⟩ := List.mem_map.mp hw
  have hj := List.mem_range.mp hj
  match j, hj with
  | 0, _ => exact BIG_at 68 (by decide +kernel) (by decide +kernel)
  | 1, _ => exact BIG_at 70 (by decide +kernel) (by decide +kernel)
  | 2, _ => exact BIG_at 72 (by decide +kernel) (by decide +kernel)
  | 3, _ => exact BIG_at 74 (by decide +kernel) (by decide +kernel)
  | 4, _ => exact BIG_at 76 (by decide +kernel) (by decide +kernel)
  | 5, _ => exact BIG_at 78 (by decide +kernel) (by decide +kernel)
  | j + 6, h => exact absurd h (by omega)
def R_Be : String := "LockRuns$Berths"
def F_Be : u_T := fun k => match k with
  | 0 => ("LockRuns$Berths", "chambers", "LLockRuns$Chambers;", true)
  | 1 => ("LockRuns$Berths", "fleet", "LLockRuns$Fleet;", true)
  | 2 => ("LockRuns$Berths", "xs", "[I", true)
  | 3 => ("LockRuns$Berths", "ys", "[I", true)
  | 4 => ("LockRuns$Berths", "found", "[I", true)
  | _ => ("LockRuns$Berths", "gap", "I", false)
def t_Be : Nat → FieldType := fun k => match k with
  | 0 => (.object "LockRuns$Chambers")
  | 1 => (.object "LockRuns$Fleet")
  | 2 => (.array .int)
  | 3 => (.array .int)
  | 4 => (.array .int)
  | _ => .int
theorem n_Be : ∀ a, a < 6 → ∀ b, b < 6 → a ≠ b → (F_Be a).2.1 ≠ (F_Be b).2.1 := by decide +kernel
theorem t_Be_ok : ∀ k, k < 6 → parseFieldDescriptor (F_Be k).2.2.1 = some (t_Be k) := by decide +kernel
theorem i_Be : ∀ w ∈ u_ws R_Be F_Be 6, w ∈ BIG := by
  intro w hw
  obtain ⟨j, hj, rfl⟩ := List.mem_map.mp hw
  have hj := List.mem_range.mp hj
  match j, hj with
  | 0, _ => exact BIG_at 93 (by decide +kernel) (by decide +kernel)
  | 1, _ => exact BIG_at 95 (by decide +kernel) (by decide +kernel)
  | 2, _ => exact BIG_at 97 (by decide +kernel) (by decide +kernel)
  | 3, _ => exact BIG_at 99 (by decide +kernel) (by decide +kernel)
  | 4, _ => exact BIG_at 101 (by decide +kernel) (by decide +kernel)
  | 5, _ => exact BIG_at 103 (by decide +kernel) (by decide +kernel)
  | j + 6, h => exact absurd h (by omega)
def R_Tt : String := "LockRuns$Timetable"
def F_Tt : u_T := fun k => match k with
  | 0 => ("LockRuns$Timetable", "begins", "[I", true)
  | 1 => ("LockRuns$Timetable", "chambers", "[I", true)
  | 2 => ("LockRuns$Timetable", "runs", "[I", true)
  | _ => ("LockRuns$Timetable", "waiting", "I", false)
def t_Tt : Nat → FieldType := fun k => match k with
  | 0 => (.array .int)
  | 1 => (.array .int)
  | 2 => (.array .int)
  | _ => .int
theorem n_Tt : ∀ a, a < 4 → ∀ b, b < 4 → a ≠ b → (F_Tt a).2.1 ≠ (F_Tt b).2.1 := by decide +kernel
theorem t_Tt_ok : ∀ k, k < 4 → parseFieldDescriptor (F_Tt k).2.2.1 = some (t_Tt k) := by decide +kernel
theorem i_Tt : ∀ w ∈ u_ws R_Tt F_Tt 4, w ∈ BIG := by
  intro w hw
  obtain ⟨j, hj, rfl⟩ := List.mem_map.mp hw
  have hj := List.mem_range.mp hj
  match j, hj with
  | 0, _ => exact BIG_at 122 (by decide +kernel) (by decide +kernel)
  | 1, _ => exact BIG_at 124 (by decide +kernel) (by decide +kernel)
  | 2, _ => exact BIG_at 126 (by decide +kernel) (by decide +kernel)
  | 3, _ => exact BIG_at 128 (by decide +kernel) (by decide +kernel)
  | j + 4, h => exact absurd h (by omega)
def R_Pl : String := "LockRuns$Planner"
def F_Pl : u_T := fun k => match k with
  | 0 => ("LockRuns$Planner", "chambers", "LLockRuns$Chambers;", true)
  | 1 => ("LockRuns$Planner", "fleet", "LLockRuns$Fleet;", true)
  | 2 => ("LockRuns$Planner", "berths", "LLockRuns$Berths;", true)
  | 3 => ("LockRuns$Planner", "trial", "LLockRuns$Timetable;", true)
  | 4 => ("LockRuns$Planner", "best", "LLockRuns$Timetable;", true)
  | 5 => ("LockRuns$Planner", "previous", "LLockRuns$Timetable;", true)
  | 6 => ("LockRuns$Planner", "planned", "Z", false)
  | _ => ("LockRuns$Planner", "over", "I", false)
def t_Pl : Nat → FieldType := fun k => match k with
  | 0 => (.object "LockRuns$Chambers")
  | 1 => (.object "LockRuns$Fleet")
  | 2 => (.object "LockRuns$Berths")
  | 3 => (.object "LockRuns$Timetable")
  | 4 => (.object "LockRuns$Timetable")
  | 5 => (.object "LockRuns$Timetable")
  | 6 => .boolean
  | _ => .int
theorem n_Pl : ∀ a, a < 8 → ∀ b, b < 8 → a ≠ b → (F_Pl a).2.1 ≠ (F_Pl b).2.1 := by decide +kernel
theorem t_Pl_ok : ∀ k, k < 8 → parseFieldDescriptor (F_Pl k).2.2.1 = some (t_Pl k) := by decide +kernel
theorem i_Pl : ∀ w ∈ u_ws R_Pl F_Pl 8, w ∈ BIG := by
  intro w hw
  obtain ⟨j, hj, rfl⟩ := List.mem_map.mp hw
  have hj := List.mem_range.mp hj
  match j, hj with
  | 0, _ => exact BIG_at 139 (by decide +kernel) (by decide +kernel)
  | 1, _ => exact BIG_at 141 (by decide +kernel) (by decide +kernel)
  | 2, _ => exact BIG_at 143 (by decide +kernel) (by decide +kernel)
  | 3, _ => exact BIG_at 145 (by decide +kernel) (by decide +kernel)
  | 4, _ => exact BIG_at 147 (by decide +kernel) (by decide +kernel)
  | 5, _ => exact BIG_at 149 (by decide +kernel) (by decide +kernel)
  | 6, _ => exact BIG_at 151 (by decide +kernel) (by decide +kernel)
  | 7, _ => exact BIG_at 153 (by decide +kernel) (by decide +kernel)
  | j + 8, h => exact absurd h (by omega)
def R_Mo : String := "LockRunsModel"
def F_Mo : u_T := fun k => match k with
  | 0 => ("LockRunsModel", "thrown", "I", false)
  | 1 => ("LockRunsModel", "chambers", "I", false)
  | 2 => ("LockRunsModel", "ships", "I", false)
  | 3 => ("LockRunsModel", "spans", "I", false)
  | 4 => ("LockRunsModel", "gap", "I", false)
  | 5 => ("LockRunsModel", "over", "I", false)
  | 6 => ("LockRunsModel", "isPlan", "Z", false)
  | 7 => ("LockRunsModel", "lengthOf", "[I", true)
  | 8 => ("LockRunsModel", "widthOf", "[I", true)
  | 9 => ("LockRunsModel", "fillOf", "[I", true)
  | 10 => ("LockRunsModel", "spanChamber", "[I", true)
  | 11 => ("LockRunsModel", "spanFrom", "[I", true)
  | 12 => ("LockRunsModel", "spanTo", "[I", true)
  | 13 => ("LockRunsModel", "shipLength", "[I", true)
  | 14 => ("LockRunsModel", "shipWidth", "[I", true)
  | 15 => ("LockRunsModel", "arrives", "[I", true)
  | 16 => ("LockRunsModel", "way", "[I", true)
  | 17 => ("LockRunsModel", "side", "[I", true)
  | 18 => ("LockRunsModel", "laid", "[I", true)
  | 19 => ("LockRunsModel", "isFit", "[Z", true)
  | 20 => ("LockRunsModel", "tried", "[I", true)
  | 21 => ("LockRunsModel", "triedBegin", "[I", true)
  | 22 => ("LockRunsModel", "best", "[I", true)
  | 23 => ("LockRunsModel", "bestBegin", "[I", true)
  | _ => ("LockRunsModel", "runBegin", "[I", true)
def t_Mo : Nat → FieldType := fun k => match k with
  | 0 => .int
  | 1 => .int
  | 2 => .int
  | 3 => .int
  | 4 => .int
  | 5 => .int
  | 6 => .boolean
  | 7 => (.array .int)
  | 8 => (.array .int)
  | 9 => (.array .int)
  | 10 => (.array .int)
  | 11 => (.array .int)
  | 12 => (.array .int)
  | 13 => (.array .int)
  | 14 => (.array .int)
  | 15 => (.array .int)
  | 16 => (.array .int)
  | 17 => (.array .int)
  | 18 => (.array .int)
  | 19 => (.array .boolean)
  | 20 => (.array .int)
  | 21 => (.array .int)
  | 22 => (.array .int)
  | 23 => (.array .int)
  | _ => (.array .int)
theorem n_Mo : ∀ a, a < 25 → ∀ b, b < 25 → a ≠ b → (F_Mo a).2.1 ≠ (F_Mo b).2.1 := by decide +kernel
theorem t_Mo_ok : ∀ k, k < 25 → parseFieldDescriptor (F_Mo k).2.2.1 = some (t_Mo k) := by decide +kernel
theorem i_Mo : ∀ w ∈ u_ws R_Mo F_Mo 25, w ∈ BIG := by
  intro w hw
  obtain ⟨j, hj, rfl⟩ := List.mem_map.mp hw
  have hj := List.mem_range.mp hj
  match j, hj with
  | 0, _ => exact BIG_at 666 (by decide +kernel) (by decide +kernel)
  | 1, _ => exact BIG_at 668 (by decide +kernel) (by decide +kernel)
  | 2, _ => exact BIG_at 670 (by decide +kernel) (by decide +kernel)
  | 3, _ => exact BIG_at 672 (by decide +kernel) (by decide +kernel)
  | 4, _ => exact BIG_at 674 (by decide +kernel) (by decide +kernel)
  | 5, _ => exact BIG_at 676 (by decide +kernel) (by decide +kernel)
  | 6, _ => exact BIG_at 678 (by decide +kernel) (by decide +kernel)
  | 7, _ => exact BIG_at 680 (by decide +kernel) (by decide +kernel)
  | 8, _ => exact BIG_at 682 (by decide +kernel) (by decide +kernel)
  | 9, _ => exact BIG_at 684 (by decide +kernel) (by decide +kernel)
  | 10, _ => exact BIG_at 686 (by decide +kernel) (by decide +kernel)
  | 11, _ => exact BIG_at 688 (by decide +kernel) (by decide +kernel)
  | 12, _ => exact BIG_at 690 (by decide +kernel) (by decide +kernel)
  | 13, _ => exact BIG_at 692 (by decide +kernel) (by decide +kernel)
  | 14, _ => exact BIG_at 694 (by decide +kernel) (by decide +kernel)
  | 15, _ => exact BIG_at 696 (by decide +kernel) (by decide +kernel)
  | 16, _ => exact BIG_at 698 (by decide +kernel) (by decide +kernel)
  | 17, _ => exact BIG_at 700 (by decide +kernel) (by decide +kernel)
  | 18, _ => exact BIG_at 702 (by decide +kernel) (by decide +kernel)
  | 19, _ => exact BIG_at 704 (by decide +kernel) (by decide +kernel)
  | 20, _ => exact BIG_at 706 (by decide +kernel) (by decide +kernel)
  | 21, _ => exact BIG_at 708 (by decide +kernel) (by decide +kernel)
  | 22, _ => exact BIG_at 710 (by decide +kernel) (by decide +kernel)
  | 23, _ => exact BIG_at 712 (by decide +kernel) (by decide +kernel)
  | 24, _ => exact BIG_at 714 (by decide +kernel) (by decide +kernel)
  | j + 25, h => exact absurd h (by omega)
def R_Lw : String := "LockRunsLaw"
abbrev classes : List vw_C := [(R_LR, F_LR, 4), (R_Ch, F_Ch, 8), (R_Fl, F_Fl, 6), (R_Be, F_Be, 6), (R_Tt, F_Tt, 4), (R_Pl, F_Pl, 8), (R_Mo, F_Mo, 25)]
abbrev b_LR_init : ByteArray := prog_1_method_1_code
def y_LR_init : MethodName := ⟨R_LR, "<init>", "()V"⟩
abbrev b_LR_chamber : ByteArray := prog_1_method_2_code
def y_LR_chamber : MethodName := ⟨R_LR, "chamber", "(III)I"⟩
abbrev b_LR_ship : ByteArray := prog_1_method_3_code
def y_LR_ship : MethodName := ⟨R_LR, "ship", "(IIIII)I"⟩
abbrev b_LR_closed : ByteArray := prog_1_method_4_code
def y_LR_closed : MethodName := ⟨R_LR, "closed", "(III)Z"⟩
abbrev b_LR_rule : ByteArray := prog_1_method_5_code
def y_LR_rule : MethodName := ⟨R_LR, "rule", "(II)Z"⟩
abbrev b_LR_plan : ByteArray := prog_1_method_6_code
def y_LR_plan : MethodName := ⟨R_LR, "plan", "()I"⟩
abbrev b_LR_fits : ByteArray := prog_1_method_7_code
def y_LR_fits : MethodName := ⟨R_LR, "fits", "(II)Z"⟩
abbrev b_LR_of : ByteArray := prog_1_method_8_code
def y_LR_of : MethodName := ⟨R_LR, "of", "(II)I"⟩
abbrev b_LR_run : ByteArray := prog_1_method_9_code
def y_LR_run : MethodName := ⟨R_LR, "run", "(III)I"⟩
abbrev b_LR_late : ByteArray := prog_1_method_10_code
def y_LR_late : MethodName := ⟨R_LR, "late", "(II)I"⟩
abbrev b_LR_home : ByteArray := prog_1_method_11_code
def y_LR_home : MethodName := ⟨R_LR, "home", "(I)I"⟩
abbrev b_LR_rate : ByteArray := prog_1_method_12_code
def y_LR_rate : MethodName := ⟨R_LR, "rate", "(II)I"⟩
abbrev b_LR_count : ByteArray := prog_1_method_13_code
def y_LR_count : MethodName := ⟨R_LR, "count", "(I)I"⟩
abbrev b_LR_runsOf : ByteArray := prog_1_method_14_code
def y_LR_runsOf : MethodName := ⟨R_LR, "runsOf", "(I)I"⟩
abbrev b_LR_canMeasure : ByteArray := prog_1_method_15_code
def y_LR_canMeasure : MethodName := ⟨R_LR, "canMeasure", "(II)Z"⟩
abbrev b_LR_within : ByteArray := prog_1_method_16_code
def y_LR_within : MethodName := ⟨R_LR, "within", "(III)Z"⟩
abbrev b_LR_holds : ByteArray := prog_1_method_17_code
def y_LR_holds : MethodName := ⟨R_LR, "holds", "(II)Z"⟩
abbrev b_Ch_init : ByteArray := prog_3_method_1_code
def y_Ch_init : MethodName := ⟨R_Ch, "<init>", "()V"⟩
abbrev b_Ch_size : ByteArray := prog_3_method_2_code
def y_Ch_size : MethodName := ⟨R_Ch, "size", "()I"⟩
abbrev b_Ch_spans : ByteArray := prog_3_method_3_code
def y_Ch_spans : MethodName := ⟨R_Ch, "spans", "()I"⟩
abbrev b_Ch_has : ByteArray := prog_3_method_4_code
def y_Ch_has : MethodName := ⟨R_Ch, "has", "(I)Z"⟩
abbrev b_Ch_add : ByteArray := prog_3_method_5_code
def y_Ch_add : MethodName := ⟨R_Ch, "add", "(III)I"⟩
abbrev b_Ch_addSpan : ByteArray := prog_3_method_6_code
def y_Ch_addSpan : MethodName := ⟨R_Ch, "addSpan", "(III)Z"⟩
abbrev b_Ch_length : ByteArray := prog_3_method_7_code
def y_Ch_length : MethodName := ⟨R_Ch, "length", "(I)I"⟩
abbrev b_Ch_width : ByteArray := prog_3_method_8_code
def y_Ch_width : MethodName := ⟨R_Ch, "width", "(I)I"⟩
abbrev b_Ch_fill : ByteArray := prog_3_method_9_code
def y_Ch_fill : MethodName := ⟨R_Ch, "fill", "(I)I"⟩
abbrev b_Ch_firstOpen : ByteArray := prog_3_method_10_code
def y_Ch_firstOpen : MethodName := ⟨R_Ch, "firstOpen", "(II)I"⟩
abbrev b_Ch_pastSpans : ByteArray := prog_3_method_11_code
def y_Ch_pastSpans : MethodName := ⟨R_Ch, "pastSpans", "(II)I"⟩
abbrev b_Fl_init : ByteArray := prog_4_method_1_code
def y_Fl_init : MethodName := ⟨R_Fl, "<init>", "()V"⟩
abbrev b_Fl_size : ByteArray := prog_4_method_2_code
def y_Fl_size : MethodName := ⟨R_Fl, "size", "()I"⟩
abbrev b_Fl_has : ByteArray := prog_4_method_3_code
def y_Fl_has : MethodName := ⟨R_Fl, "has", "(I)Z"⟩
abbrev b_Fl_all : ByteArray := prog_4_method_4_code
def y_Fl_all : MethodName := ⟨R_Fl, "all", "()I"⟩
abbrev b_Fl_add : ByteArray := prog_4_method_5_code
def y_Fl_add : MethodName := ⟨R_Fl, "add", "(IIIII)I"⟩
abbrev b_Fl_length : ByteArray := prog_4_method_6_code
def y_Fl_length : MethodName := ⟨R_Fl, "length", "(I)I"⟩
abbrev b_Fl_width : ByteArray := prog_4_method_7_code
def y_Fl_width : MethodName := ⟨R_Fl, "width", "(I)I"⟩
abbrev b_Fl_side : ByteArray := prog_4_method_8_code
def y_Fl_side : MethodName := ⟨R_Fl, "side", "(I)I"⟩
abbrev b_Fl_arrival : ByteArray := prog_4_method_9_code
def y_Fl_arrival : MethodName := ⟨R_Fl, "arrival", "(I)I"⟩
abbrev b_Fl_setArrival : ByteArray := prog_4_method_10_code
def y_Fl_setArrival : MethodName := ⟨R_Fl, "setArrival", "(II)V"⟩
abbrev b_Fl_commonDirection : ByteArray := prog_4_method_11_code
def y_Fl_commonDirection : MethodName := ⟨R_Fl, "commonDirection", "(I)I"⟩
abbrev b_Fl_lastArrival : ByteArray := prog_4_method_12_code
def y_Fl_lastArrival : MethodName := ⟨R_Fl, "lastArrival", "(I)I"⟩
abbrev b_Fl_waiting : ByteArray := prog_4_method_13_code
def y_Fl_waiting : MethodName := ⟨R_Fl, "waiting", "(II)I"⟩
abbrev b_Fl_comesBehind : ByteArray := prog_4_method_14_code
def y_Fl_comesBehind : MethodName := ⟨R_Fl, "comesBehind", "(II)Z"⟩
abbrev b_Be_init : ByteArray := prog_2_method_1_code
def y_Be_init : MethodName := ⟨R_Be, "<init>", "(LLockRuns$Chambers;LLockRuns$Fleet;)V"⟩
abbrev b_Be_gap : ByteArray := prog_2_method_2_code
def y_Be_gap : MethodName := ⟨R_Be, "gap", "()I"⟩
abbrev b_Be_setGap : ByteArray := prog_2_method_3_code
def y_Be_setGap : MethodName := ⟨R_Be, "setGap", "(I)V"⟩
abbrev b_Be_x : ByteArray := prog_2_method_4_code
def y_Be_x : MethodName := ⟨R_Be, "x", "(I)I"⟩
abbrev b_Be_y : ByteArray := prog_2_method_5_code
def y_Be_y : MethodName := ⟨R_Be, "y", "(I)I"⟩
abbrev b_Be_canLay : ByteArray := prog_2_method_6_code
def y_Be_canLay : MethodName := ⟨R_Be, "canLay", "(II)Z"⟩
abbrev b_Be_lay : ByteArray := prog_2_method_7_code
def y_Be_lay : MethodName := ⟨R_Be, "lay", "(II)Z"⟩
abbrev b_Be_layFrom : ByteArray := prog_2_method_8_code
def y_Be_layFrom : MethodName := ⟨R_Be, "layFrom", "(IIII)Z"⟩
abbrev b_Be_cells : ByteArray := prog_2_method_9_code
def y_Be_cells : MethodName := ⟨R_Be, "cells", "(IIII)I"⟩
abbrev b_Tt_init : ByteArray := prog_6_method_1_code
def y_Tt_init : MethodName := ⟨R_Tt, "<init>", "()V"⟩
abbrev b_Tt_waiting : ByteArray := prog_6_method_2_code
def y_Tt_waiting : MethodName := ⟨R_Tt, "waiting", "()I"⟩
abbrev b_Tt_setWaiting : ByteArray := prog_6_method_3_code
def y_Tt_setWaiting : MethodName := ⟨R_Tt, "setWaiting", "(I)V"⟩
abbrev b_Tt_begin : ByteArray := prog_6_method_4_code
def y_Tt_begin : MethodName := ⟨R_Tt, "begin", "(I)I"⟩
abbrev b_Tt_beginOfAll : ByteArray := prog_6_method_5_code
def y_Tt_beginOfAll : MethodName := ⟨R_Tt, "beginOfAll", "(I)I"⟩
abbrev b_Tt_chamberOf : ByteArray := prog_6_method_6_code
def y_Tt_chamberOf : MethodName := ⟨R_Tt, "chamberOf", "(I)I"⟩
abbrev b_Tt_runOf : ByteArray := prog_6_method_7_code
def y_Tt_runOf : MethodName := ⟨R_Tt, "runOf", "(I)I"⟩
abbrev b_Tt_put : ByteArray := prog_6_method_8_code
def y_Tt_put : MethodName := ⟨R_Tt, "put", "(IIII)V"⟩
abbrev b_Tt_copyFrom : ByteArray := prog_6_method_9_code
def y_Tt_copyFrom : MethodName := ⟨R_Tt, "copyFrom", "(LLockRuns$Timetable;)V"⟩
abbrev b_Tt_isAheadOf : ByteArray := prog_6_method_10_code
def y_Tt_isAheadOf : MethodName := ⟨R_Tt, "isAheadOf", "(LLockRuns$Timetable;I)Z"⟩
abbrev b_Tt_differences : ByteArray := prog_6_method_11_code
def y_Tt_differences : MethodName := ⟨R_Tt, "differences", "(LLockRuns$Timetable;I)I"⟩
abbrev b_Tt_differs : ByteArray := prog_6_method_12_code
def y_Tt_differs : MethodName := ⟨R_Tt, "differs", "(LLockRuns$Timetable;I)Z"⟩
abbrev b_Tt_aboard : ByteArray := prog_6_method_13_code
def y_Tt_aboard : MethodName := ⟨R_Tt, "aboard", "(III)I"⟩
abbrev b_Pl_init : ByteArray := prog_5_method_1_code
def y_Pl_init : MethodName := ⟨R_Pl, "<init>", "(LLockRuns$Chambers;LLockRuns$Fleet;LLockRuns$Berths;)V"⟩
abbrev b_Pl_over : ByteArray := prog_5_method_2_code
def y_Pl_over : MethodName := ⟨R_Pl, "over", "()I"⟩
abbrev b_Pl_setOver : ByteArray := prog_5_method_3_code
def y_Pl_setOver : MethodName := ⟨R_Pl, "setOver", "(I)V"⟩
abbrev b_Pl_hasPlan : ByteArray := prog_5_method_4_code
def y_Pl_hasPlan : MethodName := ⟨R_Pl, "hasPlan", "()Z"⟩
abbrev b_Pl_forget : ByteArray := prog_5_method_5_code
def y_Pl_forget : MethodName := ⟨R_Pl, "forget", "()V"⟩
abbrev b_Pl_waiting : ByteArray := prog_5_method_6_code
def y_Pl_waiting : MethodName := ⟨R_Pl, "waiting", "()I"⟩
abbrev b_Pl_search : ByteArray := prog_5_method_7_code
def y_Pl_search : MethodName := ⟨R_Pl, "search", "()Z"⟩
abbrev b_Pl_keepForComparison : ByteArray := prog_5_method_8_code
def y_Pl_keepForComparison : MethodName := ⟨R_Pl, "keepForComparison", "()V"⟩
abbrev b_Pl_moved : ByteArray := prog_5_method_9_code
def y_Pl_moved : MethodName := ⟨R_Pl, "moved", "()I"⟩
abbrev b_Pl_tryRuns : ByteArray := prog_5_method_10_code
def y_Pl_tryRuns : MethodName := ⟨R_Pl, "tryRuns", "(IIIIII)V"⟩
abbrev b_Pl_canRun : ByteArray := prog_5_method_11_code
def y_Pl_canRun : MethodName := ⟨R_Pl, "canRun", "(II)Z"⟩
abbrev b_Pl_offerTrial : ByteArray := prog_5_method_12_code
def y_Pl_offerTrial : MethodName := ⟨R_Pl, "offerTrial", "(I)V"⟩
abbrev b_Pl_overtaken : ByteArray := prog_5_method_13_code
def y_Pl_overtaken : MethodName := ⟨R_Pl, "overtaken", "(LLockRuns$Timetable;I)I"⟩
abbrev b_Pl_tellShip : ByteArray := prog_5_method_14_code
def y_Pl_tellShip : MethodName := ⟨R_Pl, "tellShip", "(II)I"⟩
abbrev b_Pl_layRunOf : ByteArray := prog_5_method_15_code
def y_Pl_layRunOf : MethodName := ⟨R_Pl, "layRunOf", "(I)Z"⟩
abbrev b_Pl_tellRun : ByteArray := prog_5_method_16_code
def y_Pl_tellRun : MethodName := ⟨R_Pl, "tellRun", "(III)I"⟩
abbrev b_Pl_runs : ByteArray := prog_5_method_17_code
def y_Pl_runs : MethodName := ⟨R_Pl, "runs", "(I)I"⟩
abbrev b_Mo_init : ByteArray := prog_8_method_1_code
def y_Mo_init : MethodName := ⟨R_Mo, "<init>", "()V"⟩
abbrev b_Mo_thrown : ByteArray := prog_8_method_2_code
def y_Mo_thrown : MethodName := ⟨R_Mo, "thrown", "()I"⟩
abbrev b_Mo_in : ByteArray := prog_8_method_3_code
def y_Mo_in : MethodName := ⟨R_Mo, "in", "(III)Z"⟩
abbrev b_Mo_isChamber : ByteArray := prog_8_method_4_code
def y_Mo_isChamber : MethodName := ⟨R_Mo, "isChamber", "(I)Z"⟩
abbrev b_Mo_isShip : ByteArray := prog_8_method_5_code
def y_Mo_isShip : MethodName := ⟨R_Mo, "isShip", "(I)Z"⟩
abbrev b_Mo_chamber : ByteArray := prog_8_method_6_code
def y_Mo_chamber : MethodName := ⟨R_Mo, "chamber", "(III)I"⟩
abbrev b_Mo_ship : ByteArray := prog_8_method_7_code
def y_Mo_ship : MethodName := ⟨R_Mo, "ship", "(IIIII)I"⟩
abbrev b_Mo_closed : ByteArray := prog_8_method_8_code
def y_Mo_closed : MethodName := ⟨R_Mo, "closed", "(III)Z"⟩
abbrev b_Mo_rule : ByteArray := prog_8_method_9_code
def y_Mo_rule : MethodName := ⟨R_Mo, "rule", "(II)Z"⟩
abbrev b_Mo_mayLie : ByteArray := prog_8_method_10_code
def y_Mo_mayLie : MethodName := ⟨R_Mo, "mayLie", "(IIII)Z"⟩
abbrev b_Mo_lay : ByteArray := prog_8_method_11_code
def y_Mo_lay : MethodName := ⟨R_Mo, "lay", "(II)Z"⟩
abbrev b_Mo_fits : ByteArray := prog_8_method_12_code
def y_Mo_fits : MethodName := ⟨R_Mo, "fits", "(II)Z"⟩
abbrev b_Mo_setOf : ByteArray := prog_8_method_13_code
def y_Mo_setOf : MethodName := ⟨R_Mo, "setOf", "(I)I"⟩
abbrev b_Mo_first : ByteArray := prog_8_method_14_code
def y_Mo_first : MethodName := ⟨R_Mo, "first", "(I)I"⟩
abbrev b_Mo_isOneWay : ByteArray := prog_8_method_15_code
def y_Mo_isOneWay : MethodName := ⟨R_Mo, "isOneWay", "(I)Z"⟩
abbrev b_Mo_open : ByteArray := prog_8_method_16_code
def y_Mo_open : MethodName := ⟨R_Mo, "open", "(II)I"⟩
abbrev b_Mo_times : ByteArray := prog_8_method_17_code
def y_Mo_times : MethodName := ⟨R_Mo, "times", "(I)Z"⟩
abbrev b_Mo_overtaken : ByteArray := prog_8_method_18_code
def y_Mo_overtaken : MethodName := ⟨R_Mo, "overtaken", "(IZ)I"⟩
abbrev b_Mo_weighed : ByteArray := prog_8_method_19_code
def y_Mo_weighed : MethodName := ⟨R_Mo, "weighed", "()I"⟩
abbrev b_Mo_isAhead : ByteArray := prog_8_method_20_code
def y_Mo_isAhead : MethodName := ⟨R_Mo, "isAhead", "()Z"⟩
abbrev b_Mo_search : ByteArray := prog_8_method_21_code
def y_Mo_search : MethodName := ⟨R_Mo, "search", "()I"⟩
abbrev b_Mo_plan : ByteArray := prog_8_method_22_code
def y_Mo_plan : MethodName := ⟨R_Mo, "plan", "()I"⟩
abbrev b_Mo_shipsOf : ByteArray := prog_8_method_23_code
def y_Mo_shipsOf : MethodName := ⟨R_Mo, "shipsOf", "(I)I"⟩
abbrev b_Mo_of : ByteArray := prog_8_method_24_code
def y_Mo_of : MethodName := ⟨R_Mo, "of", "(II)I"⟩
abbrev b_Mo_run : ByteArray := prog_8_method_25_code
def y_Mo_run : MethodName := ⟨R_Mo, "run", "(III)I"⟩
abbrev b_Mo_late : ByteArray := prog_8_method_26_code
def y_Mo_late : MethodName := ⟨R_Mo, "late", "(II)I"⟩
abbrev b_Mo_home : ByteArray := prog_8_method_27_code
def y_Mo_home : MethodName := ⟨R_Mo, "home", "(I)I"⟩
abbrev b_Mo_rate : ByteArray := prog_8_method_28_code
def y_Mo_rate : MethodName := ⟨R_Mo, "rate", "(II)I"⟩
abbrev b_Mo_count : ByteArray := prog_8_method_29_code
def y_Mo_count : MethodName := ⟨R_Mo, "count", "(I)I"⟩
abbrev b_Lw_chamber : ByteArray := method_3_code
def y_Lw_chamber : MethodName := ⟨R_Lw, "chamber", "(LLockRuns;III[J)I"⟩
abbrev b_Lw_ship : ByteArray := method_4_code
def y_Lw_ship : MethodName := ⟨R_Lw, "ship", "(LLockRuns;IIIII[J)I"⟩
abbrev b_Lw_fits : ByteArray := method_5_code
def y_Lw_fits : MethodName := ⟨R_Lw, "fits", "(LLockRuns;II[J)I"⟩
abbrev b_Lw_of : ByteArray := method_6_code
def y_Lw_of : MethodName := ⟨R_Lw, "of", "(LLockRuns;II[J)I"⟩
abbrev b_Lw_run : ByteArray := method_7_code
def y_Lw_run : MethodName := ⟨R_Lw, "run", "(LLockRuns;III[J)I"⟩
abbrev b_Lw_late : ByteArray := method_8_code
def y_Lw_late : MethodName := ⟨R_Lw, "late", "(LLockRuns;II[J)I"⟩
abbrev b_Lw_home : ByteArray := method_9_code
def y_Lw_home : MethodName := ⟨R_Lw, "home", "(LLockRuns;I[J)I"⟩
abbrev b_Lw_rate : ByteArray := method_10_code
def y_Lw_rate : MethodName := ⟨R_Lw, "rate", "(LLockRuns;II[J)I"⟩
end
section
/-! what the pure functions are made of -/
def xlet {α β : Type} (v : α) (f : α → β) : β := f v
theorem xlet_at {α β : Type} {v z : α} {f : α → β} {o : β} (h : z = v) (hf : xlet v f = o) : f z = o := by rw [h]; exact hf
theorem xlet_ex {α β : Type} {v : α} {f : α → β} {o : β} (hf : xlet v f = o) : ∃ z, z = v ∧ f z = o := ⟨v, rfl, hf⟩
theorem xi_pos {c : Prop} [Decidable c] {α : Type} {a b o : α} (h : c) (hf : (if c then a else b) = o) : a = o := by rw [if_pos h] at hf; exact hf
theorem xi_neg {c : Prop} [Decidable c] {α : Type} {a b o : α} (h : ¬ c) (hf : (if c then a else b) = o) : b = o := by rw [if_neg h] at hf; exact hf
theorem xb_some {α β : Type} {o : Option α} {f : α → Option β} {r : β} (h : o.bind f = some r) : ∃ a, o = some a ∧ f a = some r := Option.bind_eq_some_iff.mp h
theorem xb_guard {c : Prop} [Decidable c] {α : Type} {a : Option α} {o : α} (hf : (if c then a else none) = some o) : c ∧ a = some o := by
  by_cases h : c
  · rw [if_pos h] at hf; exact ⟨h, hf⟩
  · rw [if_neg h] at hf; cases hf
abbrev xin (i : Int32) (n : Nat) : Prop := ¬ (i < 0 ∨ n ≤ i.toNatClampNeg)
theorem xb_narrow {v : Int32} (h : v = 0 ∨ v = 1) : narrow .boolean (.int v) = .int v := by rcases h with rfl | rfl <;> rfl
theorem xb_fits {v : Int32} (h : v = 0 ∨ v = 1) : fits .boolean (.int v) = true := by rcases h with rfl | rfl <;> rfl
/-- a switch goes to its default -/
theorem xsw_out {x : Int32} (n : Nat) (hn : n < 2 ^ 31) (h : ∀ k : Nat, k < n → ¬ x = Int32.ofNat k) : x.toInt < 0 ∨ ((n : Nat) : Int) - 1 < x.toInt := by
  by_cases h0 : x.toInt < 0
  · exact Or.inl h0
  · right
    by_cases h1 : (n : Int) - 1 < x.toInt
    · exact h1
    · exfalso
      have h2 : ¬ x < 0 := fun h9 => h0 (by simpa using Int32.lt_iff_toInt_lt.mp h9)
      obtain ⟨j, hj, e⟩ := nI_of h2
      refine h j ?_ e
      have h3 : x.toInt = (j : Int) := by rw [e]; exact nI_toInt hj
      omega
/-! THE WALK OVER A PURE STATE. xJ: at pc, with locals lv and stack st, over every heap that holds the world ws, the method comes to Q. xC: what is fixed in a walk. -/
section XJ
variable {p : Program} {l : Launch} {e : Env} {R : Room} {s : State} {m : MethodId} {args : Array Value} {below : List Frame} {meth : Method} {c : Code} {cells slots : Nat} {Q : State → Prop}
variable {A : Nat → Prop} {D : va_G} {tys : List (ClassId × FieldType)} {ws : va_W} {nL : Nat} {lv : List (Nat × Value)} {pc : Nat} {rest : List Value} {cc : ByteArray} {own : String}
def xJ (p : Program) (l : Launch) (e : Env) (R : Room) (s : State) (m : MethodId) (args : Array Value) (below : List Frame) (meth : Method) (c : Code) (cells slots : Nat) (Q : State → Prop) (A : Nat → Prop) (D : va_G) (nL : Nat) (ws : va_W) (lv : List (Nat × Value)) (pc : Nat) (st : List Value) : Prop :=
  ∀ (H : Heap) (locs : List Loc) (ls : Array Slot), va_P D classes ws H → va_S A s.heap H locs → lv_has ls nL lv → W p l e R s m args below meth c H locs cells slots Q (F0 m pc ls st)
def xC (p : Program) (s : State) (m : MethodId) (args : Array Value) (meth : Method) (c : Code) (A : Nat → Prop) (D : va_G) (nL : Nat) (tys : List (ClassId × FieldType)) (cc : ByteArray) (own : String) : Prop :=
  (p.tables.exec = Jvm.exec ∧ c.code = cc ∧ c.maxLocals = nL ∧ s.vm.findClass own = some m.cls ∧ ∀ w ∈ BIG, w.before args s = true) ∧ va_K D classes tys s ∧ (∀ q : Nat, s.heap.size ≤ q → A q) ∧ meth.locks = false ∧ ∀ w ∈ NESTW, va_Nw w s
theorem xC.ex (C : xC p s m args meth c A D nL tys cc own) : p.tables.exec = Jvm.exec := C.1.1
theorem xC.by (C : xC p s m args meth c A D nL tys cc own) : c.code = cc := C.1.2.1
theorem xC.ow (C : xC p s m args meth c A D nL tys cc own) : s.vm.findClass own = some m.cls := C.1.2.2.2.1
theorem xC.ts (C : xC p s m args meth c A D nL tys cc own) : ∀ w ∈ BIG, w.before args s = true := C.1.2.2.2.2
theorem xC.K (C : xC p s m args meth c A D nL tys cc own) : va_K D classes tys s := C.2.1
theorem xC.fA (C : xC p s m args meth c A D nL tys cc own) : ∀ q : Nat, s.heap.size ≤ q → A q := C.2.2.1
theorem xC.lk (C : xC p s m args meth c A D nL tys cc own) : meth.locks = false := C.2.2.2.1
theorem xC.nw (C : xC p s m args meth c A D nL tys cc own) : ∀ w ∈ NESTW, va_Nw w s := C.2.2.2.2
theorem xj_iconst (C : xC p s m args meth c A D nL tys cc own) {n : Int} {v : Int32} (hdg : decode cc pc = .ok (.iconst n, 1)) (hv : Int32.ofInt n = v) (k : xJ p l e R s m args below meth c cells slots Q A D nL ws lv (pc + 1) (.int v :: rest)) : xJ p l e R s m args below meth c cells slots Q A D nL ws lv pc rest := fun H locs ls hP hS hl => lv_iconst C.ex C.by hdg hv (k H locs ls hP hS hl)
theorem xj_bipush (C : xC p s m args meth c A D nL tys cc own) {n : Int} {v : Int32} (hdg : decode cc pc = .ok (.bipush n, 2)) (hv : (Int8.ofInt n).toInt32 = v) (k : xJ p l e R s m args below meth c cells slots Q A D nL ws lv (pc + 2) (.int v :: rest)) : xJ p l e R s m args below meth c cells slots Q A D nL ws lv pc rest := fun H locs ls hP hS hl => lv_bipush C.ex C.by hdg hv (k H locs ls hP hS hl)
theorem xj_sipush (C : xC p s m args meth c A D nL tys cc own) {n : Int} {v : Int32} (hdg : decode cc pc = .ok (.sipush n, 3)) (hv : (Int16.ofInt n).toInt32 = v) (k : xJ p l e R s m args below meth c cells slots Q A D nL ws lv (pc + 3) (.int v :: rest)) : xJ p l e R s m args below meth c cells slots Q A D nL ws lv pc rest := fun H locs ls hP hS hl => lv_sipush C.ex C.by hdg hv (k H locs ls hP hS hl)
theorem xj_iload_n (C : xC p s m args meth c A D nL tys cc own) {k : Fin 4} {i : Nat} {x : Int32} (hdg : decode cc pc = .ok (.iload_n k, 1)) (hi : (k : Nat) = i) (j : Nat) (hj : lv[j]? = some (i, .int x)) (k : xJ p l e R s m args below meth c cells slots Q A D nL ws lv (pc + 1) (.int x :: rest)) : xJ p l e R s m args below meth c cells slots Q A D nL ws lv pc rest := fun H locs ls hP hS hl => lv_iload_n C.ex C.by hdg hi (lv_at hl j hj) (k H locs ls hP hS hl)
theorem xj_iload (C : xC p s m args meth c A D nL tys cc own) {i : Nat} {x : Int32} (hdg : decode cc pc = .ok (.iload i, 2)) (j : Nat) (hj : lv[j]? = some (i, .int x)) (k : xJ p l e R s m args below meth c cells slots Q A D nL ws lv (pc + 2) (.int x :: rest)) : xJ p l e R s m args below meth c cells slots Q A D nL ws lv pc rest := fun H locs ls hP hS hl => lv_iload C.ex C.by hdg (lv_at hl j hj) (k H locs ls hP hS hl)
theorem xj_aload_n (C : xC p s m args meth c A D nL tys cc own) {k : Fin 4} {i : Nat} {x : Nat} (hdg : decode cc pc = .ok (.aload_n k, 1)) (hi : (k : Nat) = i) (j : Nat) (hj : lv[j]? = some (i, .ref x)) (k : xJ p l e R s m args below meth c cells slots Q A D nL ws lv (pc + 1) (.ref x :: rest)) : xJ p l e R s m args below meth c cells slots Q A D nL ws lv pc rest := fun H locs ls hP hS hl => lv_aload_n C.ex C.by hdg hi (lv_at hl j hj) (k H locs ls hP hS hl)
theorem xj_aload (C : xC p s m args meth c A D nL tys cc own) {i : Nat} {x : Nat} (hdg : decode cc pc = .ok (.aload i, 2)) (j : Nat) (hj : lv[j]? = some (i, .ref x)) (k : xJ p l e R s m args below meth c cells slots Q A D nL ws lv (pc + 2) (.ref x :: rest)) : xJ p l e R s m args below meth c cells slots Q A D nL ws lv pc rest := fun H locs ls hP hS hl => lv_aload C.ex C.by hdg (lv_at hl j hj) (k H locs ls hP hS hl)
theorem xj_lload_n (C : xC p s m args meth c A D nL tys cc own) {k : Fin 4} {i : Nat} {x : Int64} (hdg : decode cc pc = .ok (.lload_n k, 1)) (hi : (k : Nat) = i) (j : Nat) (hj : lv[j]? = some (i, .long x)) (k : xJ p l e R s m args below meth c cells slots Q A D nL ws lv (pc + 1) (.long x :: rest)) : xJ p l e R s m args below meth c cells slots Q A D nL ws lv pc rest := fun H locs ls hP hS hl => lv_lload_n C.ex C.by hdg hi (lv_at hl j hj) (k H locs ls hP hS hl)
theorem xj_lload (C : xC p s m args meth c A D nL tys cc own) {i : Nat} {x : Int64} (hdg : decode cc pc = .ok (.lload i, 2)) (j : Nat) (hj : lv[j]? = some (i, .long x)) (k : xJ p l e R s m args below meth c cells slots Q A D nL ws lv (pc + 2) (.long x :: rest)) : xJ p l e R s m args below meth c cells slots Q A D nL ws lv pc rest := fun H locs ls hP hS hl => lv_lload C.ex C.by hdg (lv_at hl j hj) (k H locs ls hP hS hl)
theorem xj_lstore_n (C : xC p s m args meth c A D nL tys cc own) {k : Fin 4} {i : Nat} {x : Int64} {lv' : List (Nat × Value)} (hdg : decode cc pc = .ok (.lstore_n k, 1)) (hi : (k : Nat) = i) (hn : i + 1 < nL) (hl9 : (i, Value.long x) :: lv.filter (fun q => !(q.1 == i) && (!(q.1 == i + 1) && !(q.1 + 1 == i && q.2.category == 2))) = lv') (k : xJ p l e R s m args below meth c cells slots Q A D nL ws lv' (pc + 1) rest) : xJ p l e R s m args below meth c cells slots Q A D nL ws lv pc (.long x :: rest) := fun H locs ls hP hS hl => lv_lstore_n C.ex C.by hdg hi hl hn hl9 (fun ls hl => (k H locs ls hP hS hl))
theorem xj_lstore (C : xC p s m args meth c A D nL tys cc own) {i : Nat} {x : Int64} {lv' : List (Nat × Value)} (hdg : decode cc pc = .ok (.lstore i, 2)) (hn : i + 1 < nL) (hl9 : (i, Value.long x) :: lv.filter (fun q => !(q.1 == i) && (!(q.1 == i + 1) && !(q.1 + 1 == i && q.2.category == 2))) = lv') (k : xJ p l e R s m args below meth c cells slots Q A D nL ws lv' (pc + 2) rest) : xJ p l e R s m args below meth c cells slots Q A D nL ws lv pc (.long x :: rest) := fun H locs ls hP hS hl => lv_lstore C.ex C.by hdg hl hn hl9 (fun ls hl => (k H locs ls hP hS hl))
theorem xj_istore_n (C : xC p s m args meth c A D nL tys cc own) {k : Fin 4} {i : Nat} {x : Int32} {lv' : List (Nat × Value)} (hdg : decode cc pc = .ok (.istore_n k, 1)) (hi : (k : Nat) = i) (hn : i < nL) (hl9 : (i, Value.int x) :: lv.filter (fun q => !(q.1 == i) && !(q.1 + 1 == i && q.2.category == 2)) = lv') (k : xJ p l e R s m args below meth c cells slots Q A D nL ws lv' (pc + 1) rest) : xJ p l e R s m args below meth c cells slots Q A D nL ws lv pc (.int x :: rest) := fun H locs ls hP hS hl => lv_istore_n C.ex C.by hdg hi hl hn hl9 (fun ls hl => (k H locs ls hP hS hl))
theorem xj_istore (C : xC p s m args meth c A D nL tys cc own) {i : Nat} {x : Int32} {lv' : List (Nat × Value)} (hdg : decode cc pc = .ok (.istore i, 2)) (hn : i < nL) (hl9 : (i, Value.int x) :: lv.filter (fun q => !(q.1 == i) && !(q.1 + 1 == i && q.2.category == 2)) = lv') (k : xJ p l e R s m args below meth c cells slots Q A D nL ws lv' (pc + 2) rest) : xJ p l e R s m args below meth c cells slots Q A D nL ws lv pc (.int x :: rest) := fun H locs ls hP hS hl => lv_istore C.ex C.by hdg hl hn hl9 (fun ls hl => (k H locs ls hP hS hl))
theorem xj_astore_n (C : xC p s m args meth c A D nL tys cc own) {k : Fin 4} {i : Nat} {x : Nat} {lv' : List (Nat × Value)} (hdg : decode cc pc = .ok (.astore_n k, 1)) (hi : (k : Nat) = i) (hn : i < nL) (hl9 : (i, Value.ref x) :: lv.filter (fun q => !(q.1 == i) && !(q.1 + 1 == i && q.2.category == 2)) = lv') (k : xJ p l e R s m args below meth c cells slots Q A D nL ws lv' (pc + 1) rest) : xJ p l e R s m args below meth c cells slots Q A D nL ws lv pc (.ref x :: rest) := fun H locs ls hP hS hl => lv_astore_n C.ex C.by hdg hi hl hn hl9 (fun ls hl => (k H locs ls hP hS hl))
theorem xj_astore (C : xC p s m args meth c A D nL tys cc own) {i : Nat} {x : Nat} {lv' : List (Nat × Value)} (hdg : decode cc pc = .ok (.astore i, 2)) (hn : i < nL) (hl9 : (i, Value.ref x) :: lv.filter (fun q => !(q.1 == i) && !(q.1 + 1 == i && q.2.category == 2)) = lv') (k : xJ p l e R s m args below meth c cells slots Q A D nL ws lv' (pc + 2) rest) : xJ p l e R s m args below meth c cells slots Q A D nL ws lv pc (.ref x :: rest) := fun H locs ls hP hS hl => lv_astore C.ex C.by hdg hl hn hl9 (fun ls hl => (k H locs ls hP hS hl))
theorem xj_iinc (C : xC p s m args meth c A D nL tys cc own) {i j : Nat} {n : Int} {x v : Int32} {lv' : List (Nat × Value)} (hdg : decode cc pc = .ok (.iinc i n, 3)) (hj : lv[j]? = some (i, .int x)) (hv : x + Int32.ofInt n = v) (hn : i < nL) (hl9 : (i, Value.int v) :: lv.filter (fun q => !(q.1 == i) && !(q.1 + 1 == i && q.2.category == 2)) = lv') (k : xJ p l e R s m args below meth c cells slots Q A D nL ws lv' (pc + 3) rest) : xJ p l e R s m args below meth c cells slots Q A D nL ws lv pc rest := fun H locs ls hP hS hl => lv_iinc C.ex C.by hdg hl hj hv hn hl9 (fun ls hl => (k H locs ls hP hS hl))
theorem xj_iadd (C : xC p s m args meth c A D nL tys cc own) {x y : Int32} (hdg : decode cc pc = .ok (.iadd, 1)) (k : xJ p l e R s m args below meth c cells slots Q A D nL ws lv (pc + 1) (.int (x + y) :: rest)) : xJ p l e R s m args below meth c cells slots Q A D nL ws lv pc (.int y :: .int x :: rest) := fun H locs ls hP hS hl => lv_iadd C.ex C.by hdg (k H locs ls hP hS hl)
theorem xj_isub (C : xC p s m args meth c A D nL tys cc own) {x y : Int32} (hdg : decode cc pc = .ok (.isub, 1)) (k : xJ p l e R s m args below meth c cells slots Q A D nL ws lv (pc + 1) (.int (x - y) :: rest)) : xJ p l e R s m args below meth c cells slots Q A D nL ws lv pc (.int y :: .int x :: rest) := fun H locs ls hP hS hl => lv_isub C.ex C.by hdg (k H locs ls hP hS hl)
theorem xj_imul (C : xC p s m args meth c A D nL tys cc own) {x y : Int32} (hdg : decode cc pc = .ok (.imul, 1)) (k : xJ p l e R s m args below meth c cells slots Q A D nL ws lv (pc + 1) (.int (x * y) :: rest)) : xJ p l e R s m args below meth c cells slots Q A D nL ws lv pc (.int y :: .int x :: rest) := fun H locs ls hP hS hl => lv_imul C.ex C.by hdg (k H locs ls hP hS hl)
theorem xj_iand (C : xC p s m args meth c A D nL tys cc own) {x y : Int32} (hdg : decode cc pc = .ok (.iand, 1)) (k : xJ p l e R s m args below meth c cells slots Q A D nL ws lv (pc + 1) (.int (x &&& y) :: rest)) : xJ p l e R s m args below meth c cells slots Q A D nL ws lv pc (.int y :: .int x :: rest) := fun H locs ls hP hS hl => lv_iand C.ex C.by hdg (k H locs ls hP hS hl)
theorem xj_ior (C : xC p s m args meth c A D nL tys cc own) {x y : Int32} (hdg : decode cc pc = .ok (.ior, 1)) (k : xJ p l e R s m args below meth c cells slots Q A D nL ws lv (pc + 1) (.int (x ||| y) :: rest)) : xJ p l e R s m args below meth c cells slots Q A D nL ws lv pc (.int y :: .int x :: rest) := fun H locs ls hP hS hl => lv_ior C.ex C.by hdg (k H locs ls hP hS hl)
theorem xj_ixor (C : xC p s m args meth c A D nL tys cc own) {x y : Int32} (hdg : decode cc pc = .ok (.ixor, 1)) (k : xJ p l e R s m args below meth c cells slots Q A D nL ws lv (pc + 1) (.int (x ^^^ y) :: rest)) : xJ p l e R s m args below meth c cells slots Q A D nL ws lv pc (.int y :: .int x :: rest) := fun H locs ls hP hS hl => lv_ixor C.ex C.by hdg (k H locs ls hP hS hl)
theorem xj_ishl (C : xC p s m args meth c A D nL tys cc own) {x y : Int32} (hdg : decode cc pc = .ok (.ishl, 1)) (k : xJ p l e R s m args below meth c cells slots Q A D nL ws lv (pc + 1) (.int (x <<< (y &&& 31)) :: rest)) : xJ p l e R s m args below meth c cells slots Q A D nL ws lv pc (.int y :: .int x :: rest) := fun H locs ls hP hS hl => lv_ishl C.ex C.by hdg (k H locs ls hP hS hl)
theorem xj_ishr (C : xC p s m args meth c A D nL tys cc own) {x y : Int32} (hdg : decode cc pc = .ok (.ishr, 1)) (k : xJ p l e R s m args below meth c cells slots Q A D nL ws lv (pc + 1) (.int (x >>> (y &&& 31)) :: rest)) : xJ p l e R s m args below meth c cells slots Q A D nL ws lv pc (.int y :: .int x :: rest) := fun H locs ls hP hS hl => lv_ishr C.ex C.by hdg (k H locs ls hP hS hl)
theorem xj_idiv (C : xC p s m args meth c A D nL tys cc own) {x y : Int32} (hdg : decode cc pc = .ok (.idiv, 1)) (hne : ¬ y = 0) (k : xJ p l e R s m args below meth c cells slots Q A D nL ws lv (pc + 1) (.int (x / y) :: rest)) : xJ p l e R s m args below meth c cells slots Q A D nL ws lv pc (.int y :: .int x :: rest) := fun H locs ls hP hS hl => lv_idiv C.ex C.by hdg hne (k H locs ls hP hS hl)
theorem xj_irem (C : xC p s m args meth c A D nL tys cc own) {x y : Int32} (hdg : decode cc pc = .ok (.irem, 1)) (hne : ¬ y = 0) (k : xJ p l e R s m args below meth c cells slots Q A D nL ws lv (pc + 1) (.int (x - x / y * y) :: rest)) : xJ p l e R s m args below meth c cells slots Q A D nL ws lv pc (.int y :: .int x :: rest) := fun H locs ls hP hS hl => lv_irem C.ex C.by hdg hne (k H locs ls hP hS hl)
theorem xj_ladd (C : xC p s m args meth c A D nL tys cc own) {x y : Int64} (hdg : decode cc pc = .ok (.ladd, 1)) (k : xJ p l e R s m args below meth c cells slots Q A D nL ws lv (pc + 1) (.long (x + y) :: rest)) : xJ p l e R s m args below meth c cells slots Q A D nL ws lv pc (.long y :: .long x :: rest) := fun H locs ls hP hS hl => lv_ladd C.ex C.by hdg (k H locs ls hP hS hl)
theorem xj_lsub (C : xC p s m args meth c A D nL tys cc own) {x y : Int64} (hdg : decode cc pc = .ok (.lsub, 1)) (k : xJ p l e R s m args below meth c cells slots Q A D nL ws lv (pc + 1) (.long (x - y) :: rest)) : xJ p l e R s m args below meth c cells slots Q A D nL ws lv pc (.long y :: .long x :: rest) := fun H locs ls hP hS hl => lv_lsub C.ex C.by hdg (k H locs ls hP hS hl)
theorem xj_lmul (C : xC p s m args meth c A D nL tys cc own) {x y : Int64} (hdg : decode cc pc = .ok (.lmul, 1)) (k : xJ p l e R s m args below meth c cells slots Q A D nL ws lv (pc + 1) (.long (x * y) :: rest)) : xJ p l e R s m args below meth c cells slots Q A D nL ws lv pc (.long y :: .long x :: rest) := fun H locs ls hP hS hl => lv_lmul C.ex C.by hdg (k H locs ls hP hS hl)
theorem xj_ldiv (C : xC p s m args meth c A D nL tys cc own) {x y : Int64} (hdg : decode cc pc = .ok (.ldiv, 1)) (hne : ¬ y = 0) (k : xJ p l e R s m args below meth c cells slots Q A D nL ws lv (pc + 1) (.long (x / y) :: rest)) : xJ p l e R s m args below meth c cells slots Q A D nL ws lv pc (.long y :: .long x :: rest) := fun H locs ls hP hS hl => lv_ldiv C.ex C.by hdg hne (k H locs ls hP hS hl)
theorem xj_lrem (C : xC p s m args meth c A D nL tys cc own) {x y : Int64} (hdg : decode cc pc = .ok (.lrem, 1)) (hne : ¬ y = 0) (k : xJ p l e R s m args below meth c cells slots Q A D nL ws lv (pc + 1) (.long (x - x / y * y) :: rest)) : xJ p l e R s m args below meth c cells slots Q A D nL ws lv pc (.long y :: .long x :: rest) := fun H locs ls hP hS hl => lv_lrem C.ex C.by hdg hne (k H locs ls hP hS hl)
theorem xj_ldc2 (C : xC p s m args meth c A D nL tys cc own) {index : Nat} {v : Int64} (hconst : Jvm.Cond.constantLong own index v ∈ BIG) (hdg : decode cc pc = .ok (.ldc2_w index, 3)) (k : xJ p l e R s m args below meth c cells slots Q A D nL ws lv (pc + 3) (.long v :: rest)) : xJ p l e R s m args below meth c cells slots Q A D nL ws lv pc rest := fun H locs ls hP hS hl => lv_ldc2 C.ex C.by C.ow (C.ts _ hconst) hdg (k H locs ls hP hS hl)
theorem xj_ineg (C : xC p s m args meth c A D nL tys cc own) {x : Int32} (hdg : decode cc pc = .ok (.ineg, 1)) (k : xJ p l e R s m args below meth c cells slots Q A D nL ws lv (pc + 1) (.int (-x) :: rest)) : xJ p l e R s m args below meth c cells slots Q A D nL ws lv pc (.int x :: rest) := fun H locs ls hP hS hl => lv_ineg C.ex C.by hdg (k H locs ls hP hS hl)
theorem xj_iushr (C : xC p s m args meth c A D nL tys cc own) {x y v : Int32} (hdg : decode cc pc = .ok (.iushr, 1)) (hv : (x.toUInt32 >>> (y.toUInt32 &&& Int32.toUInt32 31)).toInt32 = v) (k : xJ p l e R s m args below meth c cells slots Q A D nL ws lv (pc + 1) (.int v :: rest)) : xJ p l e R s m args below meth c cells slots Q A D nL ws lv pc (.int y :: .int x :: rest) := fun H locs ls hP hS hl => lv_iushr C.ex C.by hdg hv (k H locs ls hP hS hl)
theorem xj_i2l (C : xC p s m args meth c A D nL tys cc own) {x : Int32} {v : Int64} (hdg : decode cc pc = .ok (.i2l, 1)) (hv : x.toInt64 = v) (k : xJ p l e R s m args below meth c cells slots Q A D nL ws lv (pc + 1) (.long v :: rest)) : xJ p l e R s m args below meth c cells slots Q A D nL ws lv pc (.int x :: rest) := fun H locs ls hP hS hl => lv_i2l C.ex C.by hdg hv (k H locs ls hP hS hl)
theorem xj_lcmp (C : xC p s m args meth c A D nL tys cc own) {x y : Int64} (hdg : decode cc pc = .ok (.lcmp, 1)) (k : xJ p l e R s m args below meth c cells slots Q A D nL ws lv (pc + 1) (.int (lg_cmp x y) :: rest)) : xJ p l e R s m args below meth c cells slots Q A D nL ws lv pc (.long y :: .long x :: rest) := fun H locs ls hP hS hl => W.lcmp C.ex C.by hdg (k H locs ls hP hS hl)
theorem xj_lconst (C : xC p s m args meth c A D nL tys cc own) {n : Fin 2} {v : Int64} (hdg : decode cc pc = .ok (.lconst n, 1)) (hv : Int64.ofNat (n : Nat) = v) (k : xJ p l e R s m args below meth c cells slots Q A D nL ws lv (pc + 1) (.long v :: rest)) : xJ p l e R s m args below meth c cells slots Q A D nL ws lv pc rest := fun H locs ls hP hS hl => lv_lconst C.ex C.by hdg hv (k H locs ls hP hS hl)
theorem xj_null (C : xC p s m args meth c A D nL tys cc own)  (hdg : decode cc pc = .ok (.aconst_null, 1)) (k : xJ p l e R s m args below meth c cells slots Q A D nL ws lv (pc + 1) (.null :: rest)) : xJ p l e R s m args below meth c cells slots Q A D nL ws lv pc rest := fun H locs ls hP hS hl => lv_null C.ex C.by hdg (k H locs ls hP hS hl)
theorem xj_dup (C : xC p s m args meth c A D nL tys cc own) {va : Value} (hdg : decode cc pc = .ok (.dup, 1)) (hva : va.category = 1) (k : xJ p l e R s m args below meth c cells slots Q A D nL ws lv (pc + 1) (va :: va :: rest)) : xJ p l e R s m args below meth c cells slots Q A D nL ws lv pc (va :: rest) := fun H locs ls hP hS hl => lv_dup C.ex C.by hdg hva (k H locs ls hP hS hl)
theorem xj_pop (C : xC p s m args meth c A D nL tys cc own) {va : Value} (hdg : decode cc pc = .ok (.pop, 1)) (hva : va.category = 1) (k : xJ p l e R s m args below meth c cells slots Q A D nL ws lv (pc + 1) rest) : xJ p l e R s m args below meth c cells slots Q A D nL ws lv pc (va :: rest) := fun H locs ls hP hS hl => lv_pop C.ex C.by hdg hva (k H locs ls hP hS hl)
theorem xj_dup_x1 (C : xC p s m args meth c A D nL tys cc own) {va vb : Value} (hdg : decode cc pc = .ok (.dup_x1, 1)) (hva : va.category = 1) (hvb : vb.category = 1) (k : xJ p l e R s m args below meth c cells slots Q A D nL ws lv (pc + 1) (va :: vb :: va :: rest)) : xJ p l e R s m args below meth c cells slots Q A D nL ws lv pc (va :: vb :: rest) := fun H locs ls hP hS hl => lv_dup_x1 C.ex C.by hdg hva hvb (k H locs ls hP hS hl)
theorem xj_dup_x2 (C : xC p s m args meth c A D nL tys cc own) {va vb vd : Value} (hdg : decode cc pc = .ok (.dup_x2, 1)) (hva : va.category = 1) (hvb : vb.category = 1) (hvd : vd.category = 1) (k : xJ p l e R s m args below meth c cells slots Q A D nL ws lv (pc + 1) (va :: vb :: vd :: va :: rest)) : xJ p l e R s m args below meth c cells slots Q A D nL ws lv pc (va :: vb :: vd :: rest) := fun H locs ls hP hS hl => lv_dup_x2 C.ex C.by hdg hva hvb hvd (k H locs ls hP hS hl)
theorem xj_dup2 (C : xC p s m args meth c A D nL tys cc own) {va vb : Value} (hdg : decode cc pc = .ok (.dup2, 1)) (hva : va.category = 1) (hvb : vb.category = 1) (k : xJ p l e R s m args below meth c cells slots Q A D nL ws lv (pc + 1) (va :: vb :: va :: vb :: rest)) : xJ p l e R s m args below meth c cells slots Q A D nL ws lv pc (va :: vb :: rest) := fun H locs ls hP hS hl => lv_dup2_11 C.ex C.by hdg hva hvb (k H locs ls hP hS hl)
theorem xj_if_eq (C : xC p s m args meth c A D nL tys cc own) {x : Int32} {off : Int} {tgt : Nat} (hdg : decode cc pc = .ok (.ifCond .eq off, 3)) (ht : (pc : Int) + off = (tgt : Int)) (kt : x = 0 → xJ p l e R s m args below meth c cells slots Q A D nL ws lv tgt rest) (kf : ¬ x = 0 → xJ p l e R s m args below meth c cells slots Q A D nL ws lv (pc + 3) rest) : xJ p l e R s m args below meth c cells slots Q A D nL ws lv pc (.int x :: rest) := fun H locs ls hP hS hl => lv_if_eq C.ex C.by hdg ht (fun h9 => kt h9 H locs ls hP hS hl) (fun h9 => kf h9 H locs ls hP hS hl)
theorem xj_icmp_eq (C : xC p s m args meth c A D nL tys cc own) {x y : Int32} {off : Int} {tgt : Nat} (hdg : decode cc pc = .ok (.if_icmp .eq off, 3)) (ht : (pc : Int) + off = (tgt : Int)) (kt : x = y → xJ p l e R s m args below meth c cells slots Q A D nL ws lv tgt rest) (kf : ¬ x = y → xJ p l e R s m args below meth c cells slots Q A D nL ws lv (pc + 3) rest) : xJ p l e R s m args below meth c cells slots Q A D nL ws lv pc (.int y :: .int x :: rest) := fun H locs ls hP hS hl => lv_icmp_eq C.ex C.by hdg ht (fun h9 => kt h9 H locs ls hP hS hl) (fun h9 => kf h9 H locs ls hP hS hl)
theorem xj_if_ne (C : xC p s m args meth c A D nL tys cc own) {x : Int32} {off : Int} {tgt : Nat} (hdg : decode cc pc = .ok (.ifCond .ne off, 3)) (ht : (pc : Int) + off = (tgt : Int)) (kt : ¬ x = 0 → xJ p l e R s m args below meth c cells slots Q A D nL ws lv tgt rest) (kf : x = 0 → xJ p l e R s m args below meth c cells slots Q A D nL ws lv (pc + 3) rest) : xJ p l e R s m args below meth c cells slots Q A D nL ws lv pc (.int x :: rest) := fun H locs ls hP hS hl => lv_if_ne C.ex C.by hdg ht (fun h9 => kt h9 H locs ls hP hS hl) (fun h9 => kf h9 H locs ls hP hS hl)
theorem xj_icmp_ne (C : xC p s m args meth c A D nL tys cc own) {x y : Int32} {off : Int} {tgt : Nat} (hdg : decode cc pc = .ok (.if_icmp .ne off, 3)) (ht : (pc : Int) + off = (tgt : Int)) (kt : ¬ x = y → xJ p l e R s m args below meth c cells slots Q A D nL ws lv tgt rest) (kf : x = y → xJ p l e R s m args below meth c cells slots Q A D nL ws lv (pc + 3) rest) : xJ p l e R s m args below meth c cells slots Q A D nL ws lv pc (.int y :: .int x :: rest) := fun H locs ls hP hS hl => lv_icmp_ne C.ex C.by hdg ht (fun h9 => kt h9 H locs ls hP hS hl) (fun h9 => kf h9 H locs ls hP hS hl)
theorem xj_if_lt (C : xC p s m args meth c A D nL tys cc own) {x : Int32} {off : Int} {tgt : Nat} (hdg : decode cc pc = .ok (.ifCond .lt off, 3)) (ht : (pc : Int) + off = (tgt : Int)) (kt : x < 0 → xJ p l e R s m args below meth c cells slots Q A D nL ws lv tgt rest) (kf : ¬ x < 0 → xJ p l e R s m args below meth c cells slots Q A D nL ws lv (pc + 3) rest) : xJ p l e R s m args below meth c cells slots Q A D nL ws lv pc (.int x :: rest) := fun H locs ls hP hS hl => lv_if_lt C.ex C.by hdg ht (fun h9 => kt h9 H locs ls hP hS hl) (fun h9 => kf h9 H locs ls hP hS hl)
theorem xj_icmp_lt (C : xC p s m args meth c A D nL tys cc own) {x y : Int32} {off : Int} {tgt : Nat} (hdg : decode cc pc = .ok (.if_icmp .lt off, 3)) (ht : (pc : Int) + off = (tgt : Int)) (kt : x < y → xJ p l e R s m args below meth c cells slots Q A D nL ws lv tgt rest) (kf : ¬ x < y → xJ p l e R s m args below meth c cells slots Q A D nL ws lv (pc + 3) rest) : xJ p l e R s m args below meth c cells slots Q A D nL ws lv pc (.int y :: .int x :: rest) := fun H locs ls hP hS hl => lv_icmp_lt C.ex C.by hdg ht (fun h9 => kt h9 H locs ls hP hS hl) (fun h9 => kf h9 H locs ls hP hS hl)
theorem xj_if_ge (C : xC p s m args meth c A D nL tys cc own) {x : Int32} {off : Int} {tgt : Nat} (hdg : decode cc pc = .ok (.ifCond .ge off, 3)) (ht : (pc : Int) + off = (tgt : Int)) (kt : 0 ≤ x → xJ p l e R s m args below meth c cells slots Q A D nL ws lv tgt rest) (kf : ¬ 0 ≤ x → xJ p l e R s m args below meth c cells slots Q A D nL ws lv (pc + 3) rest) : xJ p l e R s m args below meth c cells slots Q A D nL ws lv pc (.int x :: rest) := fun H locs ls hP hS hl => lv_if_ge C.ex C.by hdg ht (fun h9 => kt h9 H locs ls hP hS hl) (fun h9 => kf h9 H locs ls hP hS hl)
theorem xj_icmp_ge (C : xC p s m args meth c A D nL tys cc own) {x y : Int32} {off : Int} {tgt : Nat} (hdg : decode cc pc = .ok (.if_icmp .ge off, 3)) (ht : (pc : Int) + off = (tgt : Int)) (kt : y ≤ x → xJ p l e R s m args below meth c cells slots Q A D nL ws lv tgt rest) (kf : ¬ y ≤ x → xJ p l e R s m args below meth c cells slots Q A D nL ws lv (pc + 3) rest) : xJ p l e R s m args below meth c cells slots Q A D nL ws lv pc (.int y :: .int x :: rest) := fun H locs ls hP hS hl => lv_icmp_ge C.ex C.by hdg ht (fun h9 => kt h9 H locs ls hP hS hl) (fun h9 => kf h9 H locs ls hP hS hl)
theorem xj_if_gt (C : xC p s m args meth c A D nL tys cc own) {x : Int32} {off : Int} {tgt : Nat} (hdg : decode cc pc = .ok (.ifCond .gt off, 3)) (ht : (pc : Int) + off = (tgt : Int)) (kt : 0 < x → xJ p l e R s m args below meth c cells slots Q A D nL ws lv tgt rest) (kf : ¬ 0 < x → xJ p l e R s m args below meth c cells slots Q A D nL ws lv (pc + 3) rest) : xJ p l e R s m args below meth c cells slots Q A D nL ws lv pc (.int x :: rest) := fun H locs ls hP hS hl => lv_if_gt C.ex C.by hdg ht (fun h9 => kt h9 H locs ls hP hS hl) (fun h9 => kf h9 H locs ls hP hS hl)
theorem xj_icmp_gt (C : xC p s m args meth c A D nL tys cc own) {x y : Int32} {off : Int} {tgt : Nat} (hdg : decode cc pc = .ok (.if_icmp .gt off, 3)) (ht : (pc : Int) + off = (tgt : Int)) (kt : y < x → xJ p l e R s m args below meth c cells slots Q A D nL ws lv tgt rest) (kf : ¬ y < x → xJ p l e R s m args below meth c cells slots Q A D nL ws lv (pc + 3) rest) : xJ p l e R s m args below meth c cells slots Q A D nL ws lv pc (.int y :: .int x :: rest) := fun H locs ls hP hS hl => lv_icmp_gt C.ex C.by hdg ht (fun h9 => kt h9 H locs ls hP hS hl) (fun h9 => kf h9 H locs ls hP hS hl)
theorem xj_if_le (C : xC p s m args meth c A D nL tys cc own) {x : Int32} {off : Int} {tgt : Nat} (hdg : decode cc pc = .ok (.ifCond .le off, 3)) (ht : (pc : Int) + off = (tgt : Int)) (kt : x ≤ 0 → xJ p l e R s m args below meth c cells slots Q A D nL ws lv tgt rest) (kf : ¬ x ≤ 0 → xJ p l e R s m args below meth c cells slots Q A D nL ws lv (pc + 3) rest) : xJ p l e R s m args below meth c cells slots Q A D nL ws lv pc (.int x :: rest) := fun H locs ls hP hS hl => lv_if_le C.ex C.by hdg ht (fun h9 => kt h9 H locs ls hP hS hl) (fun h9 => kf h9 H locs ls hP hS hl)
theorem xj_icmp_le (C : xC p s m args meth c A D nL tys cc own) {x y : Int32} {off : Int} {tgt : Nat} (hdg : decode cc pc = .ok (.if_icmp .le off, 3)) (ht : (pc : Int) + off = (tgt : Int)) (kt : x ≤ y → xJ p l e R s m args below meth c cells slots Q A D nL ws lv tgt rest) (kf : ¬ x ≤ y → xJ p l e R s m args below meth c cells slots Q A D nL ws lv (pc + 3) rest) : xJ p l e R s m args below meth c cells slots Q A D nL ws lv pc (.int y :: .int x :: rest) := fun H locs ls hP hS hl => lv_icmp_le C.ex C.by hdg ht (fun h9 => kt h9 H locs ls hP hS hl) (fun h9 => kf h9 H locs ls hP hS hl)
theorem xj_goto (C : xC p s m args meth c A D nL tys cc own) {off : Int} {tgt : Nat} (hdg : decode cc pc = .ok (.goto off, 3)) (ht : (pc : Int) + off = (tgt : Int)) (k : xJ p l e R s m args below meth c cells slots Q A D nL ws lv tgt rest) : xJ p l e R s m args below meth c cells slots Q A D nL ws lv pc rest := fun H locs ls hP hS hl => lv_goto C.ex C.by hdg ht (k H locs ls hP hS hl)
theorem xj_tableOut (C : xC p s m args meth c A D nL tys cc own) {dflt lo hi : Int} {offs : Array Int} {len : Nat} {x : Int32} {tgt : Nat} (hdg : decode cc pc = .ok (.tableswitch dflt lo hi offs, len)) (h : x.toInt < lo ∨ hi < x.toInt) (ht : (pc : Int) + dflt = (tgt : Int)) (k : xJ p l e R s m args below meth c cells slots Q A D nL ws lv tgt rest) : xJ p l e R s m args below meth c cells slots Q A D nL ws lv pc (.int x :: rest) := fun H locs ls hP hS hl => lv_tableOut C.ex C.by hdg h ht (k H locs ls hP hS hl)
theorem xj_tableIn (C : xC p s m args meth c A D nL tys cc own) {dflt lo hi : Int} {offs : Array Int} {len : Nat} {x : Int32} {off : Int} {tgt : Nat} (hdg : decode cc pc = .ok (.tableswitch dflt lo hi offs, len)) (h1 : ¬ x.toInt < lo) (h2 : ¬ hi < x.toInt) (ho : offs[(x.toInt - lo).toNat]? = some off) (ht : (pc : Int) + off = (tgt : Int)) (k : xJ p l e R s m args below meth c cells slots Q A D nL ws lv tgt rest) : xJ p l e R s m args below meth c cells slots Q A D nL ws lv pc (.int x :: rest) := fun H locs ls hP hS hl => lv_tableIn C.ex C.by hdg h1 h2 ho ht (k H locs ls hP hS hl)
theorem xj_lookup (C : xC p s m args meth c A D nL tys cc own) {dflt : Int} {ps : Array (Int × Int)} {len : Nat} {x : Int32} {off : Int} {tgt : Nat} (hdg : decode cc pc = .ok (.lookupswitch dflt ps, len)) (hp : (ps.toList.zip (ps.toList.drop 1)).all (fun (a, next) => a.1 < next.1) = true) (ho : Op.lookupswitch.offset ps.toList dflt x.toInt = off) (ht : (pc : Int) + off = (tgt : Int)) (k : xJ p l e R s m args below meth c cells slots Q A D nL ws lv tgt rest) : xJ p l e R s m args below meth c cells slots Q A D nL ws lv pc (.int x :: rest) := fun H locs ls hP hS hl => lv_lookup C.ex C.by hdg hp ho ht (k H locs ls hP hS hl)
theorem xj_ldc (C : xC p s m args meth c A D nL tys cc own) {index : Nat} {v : Int32} (hconst : Jvm.Cond.constant own index v ∈ BIG) (hdg : decode cc pc = .ok (.ldc index, 2)) (k : xJ p l e R s m args below meth c cells slots Q A D nL ws lv (pc + 2) (.int v :: rest)) : xJ p l e R s m args below meth c cells slots Q A D nL ws lv pc rest := fun H locs ls hP hS hl => lv_ldc C.ex C.by C.ow (C.ts _ hconst) hdg (k H locs ls hP hS hl)
/-- reorder or drop locals -/
theorem xj_lv (ks : List Nat) {lv' : List (Nat × Value)} (h : lv_pick lv ks = lv') (k : xJ p l e R s m args below meth c cells slots Q A D nL ws lv' pc rest) : xJ p l e R s m args below meth c cells slots Q A D nL ws lv pc rest := fun H locs ls hP hS hl => k H locs ls hP hS (lv_sub hl ks h)
/-- an entry of own's pool names field k of the class at place ci of 'classes' -/
def xF (own : String) (index ci k : Nat) : Prop := ∃ (C : String) (T : u_T) (N : Nat), classes[ci]? = some (C, T, N) ∧ (∀ w ∈ u_ws C T N, w ∈ BIG) ∧ k < N ∧ Cond.fieldLink own index (T k).1 (T k).2.1 (T k).2.2.1 ∈ BIG
/-- the same by a nest mate -/
def xFN (own : String) (index ci k : Nat) : Prop := ∃ (C : String) (T : u_T) (N : Nat) (host : String), classes[ci]? = some (C, T, N) ∧ (∀ w ∈ u_ws C T N, w ∈ BIG) ∧ k < N ∧ Cond.fieldLinkNest own index (T k).1 (T k).2.1 (T k).2.2.1 host ∈ BIG
/-- what a store wants besides: the field isn't final, its type -/
def xFW (ci k : Nat) (ty : FieldType) : Prop := ∃ (C : String) (T : u_T) (N : Nat) (t0 : Nat → FieldType), classes[ci]? = some (C, T, N) ∧ (∀ k, k < N → parseFieldDescriptor (T k).2.2.1 = some (t0 k)) ∧ (∀ a, a < N → ∀ b, b < N → a ≠ b → (T a).2.1 ≠ (T b).2.1) ∧ (T k).2.2.2 = false ∧ parseFieldDescriptor (T k).2.2.1 = some ty
theorem xj_get (C : xC p s m args meth c A D nL tys cc own) {index ci k a : Nat} (F : xF own index ci k) (q0 : Nat) {fs : List Value} {v : Value} (he : ws[q0]? = some (a, .inr (ci, fs))) (hv : fs[k]? = some v) (hdg : decode cc pc = .ok (.getfield index, 3)) (kk : xJ p l e R s m args below meth c cells slots Q A D nL ws lv (pc + 3) (v :: rest)) : xJ p l e R s m args below meth c cells slots Q A D nL ws lv pc (.ref a :: rest) := by
  intro H locs ls hP hS hl
  obtain ⟨C9, T9, N9, hc, hin, hk, hlk⟩ := F
  exact va_get (D := D) (ci := ci) (C := C9) (T := T9) (N := N9) C.ex C.by C.ts hin C.ow C.K hP q0 he hc k hk (C.ts _ hlk) (fun _ h9 => h9) hv hdg (kk H locs ls hP hS hl)
theorem xj_put (C : xC p s m args meth c A D nL tys cc own) {index ci k a : Nat} {ty : FieldType} (F : xF own index ci k) (G : xFW ci k ty) (hD : va_D A ws) (q0 : Nat) {fs : List Value} {v : Value} {ws' : va_W} (he : ws[q0]? = some (a, .inr (ci, fs))) (hn : narrow ty v = v) (hfit : fits ty v = true) (hl9 : k < fs.length) (hdg : decode cc pc = .ok (.putfield index, 3)) (hws : ws.set q0 (a, .inr (ci, fs.set k v)) = ws') (kk : xJ p l e R s m args below meth c cells slots Q A D nL ws' lv (pc + 3) rest) : xJ p l e R s m args below meth c cells slots Q A D nL ws lv pc (v :: .ref a :: rest) := by
  intro H locs ls hP hS hl
  obtain ⟨C9, T9, N9, hc, hin, hk, hlk⟩ := F
  obtain ⟨C8, T8, N8, t0, hc8, ht8, hn8, hf8, hp8⟩ := G
  rw [hc] at hc8
  cases hc8
  refine va_put (D := D) (ci := ci) (C := C9) (T := T9) (N := N9) C.ex C.by C.ts hin t0 ht8 hn8 C.ow C.K hP hD hS q0 he hc k hk (C.ts _ hlk) (fun _ h9 => h9) hf8 hp8 hn hfit hl9 hdg (fun H1 locs1 hP1 hD1 hS1 => ?_)
  rw [hws] at hP1
  exact kk H1 locs1 ls hP1 hS1 hl
theorem xj_getN (C : xC p s m args meth c A D nL tys cc own) {index ci k a : Nat} (F : xFN own index ci k) (q0 : Nat) {fs : List Value} {v : Value} (he : ws[q0]? = some (a, .inr (ci, fs))) (hv : fs[k]? = some v) (hdg : decode cc pc = .ok (.getfield index, 3)) (kk : xJ p l e R s m args below meth c cells slots Q A D nL ws lv (pc + 3) (v :: rest)) : xJ p l e R s m args below meth c cells slots Q A D nL ws lv pc (.ref a :: rest) := by
  intro H locs ls hP hS hl
  obtain ⟨C9, T9, N9, host, hc, hin, hk, hlk⟩ := F
  exact va_getN (D := D) (ci := ci) (C := C9) (T := T9) (N := N9) C.ex C.by C.ts hin C.ow C.K hP q0 he hc k hk (C.ts _ hlk) (fun _ h9 => h9) hv hdg (kk H locs ls hP hS hl)
theorem xj_putN (C : xC p s m args meth c A D nL tys cc own) {index ci k a : Nat} {ty : FieldType} (F : xFN own index ci k) (G : xFW ci k ty) (hD : va_D A ws) (q0 : Nat) {fs : List Value} {v : Value} {ws' : va_W} (he : ws[q0]? = some (a, .inr (ci, fs))) (hn : narrow ty v = v) (hfit : fits ty v = true) (hl9 : k < fs.length) (hdg : decode cc pc = .ok (.putfield index, 3)) (hws : ws.set q0 (a, .inr (ci, fs.set k v)) = ws') (kk : xJ p l e R s m args below meth c cells slots Q A D nL ws' lv (pc + 3) rest) : xJ p l e R s m args below meth c cells slots Q A D nL ws lv pc (v :: .ref a :: rest) := by
  intro H locs ls hP hS hl
  obtain ⟨C9, T9, N9, host, hc, hin, hk, hlk⟩ := F
  obtain ⟨C8, T8, N8, t0, hc8, ht8, hn8, hf8, hp8⟩ := G
  rw [hc] at hc8
  cases hc8
  refine va_putN (D := D) (ci := ci) (C := C9) (T := T9) (N := N9) C.ex C.by C.ts hin t0 ht8 hn8 C.ow C.K hP hD hS q0 he hc k hk (C.ts _ hlk) (fun _ h9 => h9) hf8 hp8 hn hfit hl9 hdg (fun H1 locs1 hP1 hD1 hS1 => ?_)
  rw [hws] at hP1
  exact kk H1 locs1 ls hP1 hS1 hl
theorem xj_iald (C : xC p s m args meth c A D nL tys cc own) (q0 t0 : Nat) {a n : Nat} {cA : ClassId} {f : Nat → Int32} {i : Int32} (ha : ws[q0]? = some (a, .inl (cA, n, .inl f))) (ht : tys[t0]? = some (cA, .int)) (hin : vp_in i n) (hdg : decode cc pc = .ok (.iaload, 1)) (kk : xJ p l e R s m args below meth c cells slots Q A D nL ws lv (pc + 1) (.int (f i.toNatClampNeg) :: rest)) : xJ p l e R s m args below meth c cells slots Q A D nL ws lv pc (.int i :: .ref a :: rest) := fun H locs ls hP hS hl => va_iald C.ex C.by C.K hP q0 t0 ha ht hin hdg (kk H locs ls hP hS hl)
theorem xj_iast (C : xC p s m args meth c A D nL tys cc own) (hD : va_D A ws) (q0 t0 : Nat) {a n : Nat} {cA : ClassId} {f : Nat → Int32} {i x : Int32} {ws' : va_W} (ha : ws[q0]? = some (a, .inl (cA, n, .inl f))) (ht : tys[t0]? = some (cA, .int)) (hin : vp_in i n) (hdg : decode cc pc = .ok (.iastore, 1)) (hws : ws.set q0 (a, .inl (cA, n, .inl (upd f i.toNatClampNeg x))) = ws') (kk : xJ p l e R s m args below meth c cells slots Q A D nL ws' lv (pc + 1) rest) : xJ p l e R s m args below meth c cells slots Q A D nL ws lv pc (.int x :: .int i :: .ref a :: rest) := by
  intro H locs ls hP hS hl
  refine va_iast C.ex C.by C.K hP hD hS q0 t0 ha ht hin hdg (fun H1 locs1 hP1 _ hS1 => ?_)
  rw [hws] at hP1
  exact kk H1 locs1 ls hP1 hS1 hl
theorem xj_alen (C : xC p s m args meth c A D nL tys cc own) (q0 t0 : Nat) {a : Nat} {cA : ClassId} {x : vp_A} {ty : FieldType} {v : Int32} (ha : ws[q0]? = some (a, .inl (cA, x))) (ht : tys[t0]? = some (cA, ty)) (hv : Int32.ofNat x.1 = v) (hdg : decode cc pc = .ok (.arraylength, 1)) (kk : xJ p l e R s m args below meth c cells slots Q A D nL ws lv (pc + 1) (.int v :: rest)) : xJ p l e R s m args below meth c cells slots Q A D nL ws lv pc (.ref a :: rest) := fun H locs ls hP hS hl => va_alen C.ex C.by C.K hP q0 t0 ha ht hv hdg (kk H locs ls hP hS hl)
theorem xj_topl {x : Int64} (k : ∀ z : Int64, z = x → xJ p l e R s m args below meth c cells slots Q A D nL ws lv pc (.long z :: rest)) : xJ p l e R s m args below meth c cells slots Q A D nL ws lv pc (.long x :: rest) := k x rfl
theorem xj_zald (C : xC p s m args meth c A D nL tys cc own) (q0 t0 : Nat) {a n : Nat} {cA : ClassId} {f : Nat → Int32} {i : Int32} (ha : ws[q0]? = some (a, .inl (cA, n, .inl f))) (ht : tys[t0]? = some (cA, .boolean)) (hin : vp_in i n) (hdg : decode cc pc = .ok (.baload, 1)) (kk : xJ p l e R s m args below meth c cells slots Q A D nL ws lv (pc + 1) (.int (f i.toNatClampNeg) :: rest)) : xJ p l e R s m args below meth c cells slots Q A D nL ws lv pc (.int i :: .ref a :: rest) := fun H locs ls hP hS hl => va_zald C.ex C.by C.K hP q0 t0 ha ht hin hdg (kk H locs ls hP hS hl)
theorem xj_zast (C : xC p s m args meth c A D nL tys cc own) (hD : va_D A ws) (q0 t0 : Nat) {a n : Nat} {cA : ClassId} {f : Nat → Int32} {i x : Int32} {ws' : va_W} (ha : ws[q0]? = some (a, .inl (cA, n, .inl f))) (ht : tys[t0]? = some (cA, .boolean)) (hin : vp_in i n) (hdg : decode cc pc = .ok (.bastore, 1)) (hws : ws.set q0 (a, .inl (cA, n, .inl (upd f i.toNatClampNeg (vp_nar .boolean x)))) = ws') (kk : xJ p l e R s m args below meth c cells slots Q A D nL ws' lv (pc + 1) rest) : xJ p l e R s m args below meth c cells slots Q A D nL ws lv pc (.int x :: .int i :: .ref a :: rest) := by
  intro H locs ls hP hS hl
  refine va_zast C.ex C.by C.K hP hD hS q0 t0 ha ht hin hdg (fun H1 locs1 hP1 _ hS1 => ?_)
  rw [hws] at hP1
  exact kk H1 locs1 ls hP1 hS1 hl
theorem xj_topi {x : Int32} (k : ∀ z : Int32, z = x → xJ p l e R s m args below meth c cells slots Q A D nL ws lv pc (.int z :: rest)) : xJ p l e R s m args below meth c cells slots Q A D nL ws lv pc (.int x :: rest) := k x rfl
def xMM (own : String) (index : Nat) (y : MethodName) (b : ByteArray) : Prop := Cond.methodLink own index y ∈ BIG ∧ Cond.static y ∈ BIG ∧ Cond.initialized "java/lang/Math" ∈ BIG ∧ Cond.code y b 2 (some .int) ∈ BIG
theorem xj_mmax (C : xC p s m args meth c A D nL tys cc own) {index : Nat} {x y : Int32} (h : xMM own index Lib.Math.max.name Lib.Math.max.code) (hf : 1 ≤ R.frames) (hlo : (rest.map fun v => v.category).sum + 13 ≤ R.locals) (hdg : decode cc pc = .ok (.invokestatic index, 3)) (k : xJ p l e R s m args below meth c 0 0 Q A D nL ws lv (pc + 3) (.int (if x < y then y else x) :: rest)) : xJ p l e R s m args below meth c 0 0 Q A D nL ws lv pc (.int y :: .int x :: rest) := fun H locs ls hP hS hl => va_mmax C.ex C.by (C.1.2.2.1.trans hl.1.symm) C.ow (C.ts _ h.1) (C.ts _ h.2.1) (C.ts _ h.2.2.1) (C.ts _ h.2.2.2) hf hlo (Nat.zero_le _) (Nat.zero_le _) hdg (k H locs ls hP hS hl)
theorem xj_mmin (C : xC p s m args meth c A D nL tys cc own) {index : Nat} {x y : Int32} (h : xMM own index Lib.Math.min.name Lib.Math.min.code) (hf : 1 ≤ R.frames) (hlo : (rest.map fun v => v.category).sum + 13 ≤ R.locals) (hdg : decode cc pc = .ok (.invokestatic index, 3)) (k : xJ p l e R s m args below meth c 0 0 Q A D nL ws lv (pc + 3) (.int (if y < x then y else x) :: rest)) : xJ p l e R s m args below meth c 0 0 Q A D nL ws lv pc (.int y :: .int x :: rest) := fun H locs ls hP hS hl => va_mmin C.ex C.by (C.1.2.2.1.trans hl.1.symm) C.ow (C.ts _ h.1) (C.ts _ h.2.1) (C.ts _ h.2.2.1) (C.ts _ h.2.2.2) hf hlo (Nat.zero_le _) (Nat.zero_le _) hdg (k H locs ls hP hS hl)
end XJ
end
section
/-! CONTRACTS over a pure state: the method's answer and its world behind it are 'out', which a pure function gives. -/
def xA (L : List Nat) (sz : Nat) : Nat → Prop := fun q => q ∈ L ∨ sz ≤ q
theorem xD_of {A : Nat → Prop} {ws : va_W} (hn : (ws.map (·.1)).Nodup) (hA : ∀ a ∈ ws.map (·.1), A a) : va_D A ws := by
  refine ⟨fun i j p q hi hj h => ?_, fun k q h => hA _ (List.mem_map.mpr ⟨q, List.mem_of_getElem? h, rfl⟩)⟩
  have h1 : (ws.map (·.1))[i]? = some p.1 := by rw [List.getElem?_map, hi]; rfl
  have h2 : (ws.map (·.1))[j]? = some q.1 := by rw [List.getElem?_map, hj]; rfl
  rw [h] at h1
  exact (List.getElem?_inj (List.getElem?_eq_some_iff.mp h1).1 hn).mp (h1.trans h2.symm)
theorem xD_L {S : Type} {wf : S → va_W} {L : List Nat} (hL : ∀ st, (wf st).map (·.1) = L) (hN : L.Nodup) (sz : Nat) (st : S) : va_D (xA L sz) (wf st) :=
  xD_of (by rw [hL]; exact hN) (fun a h => Or.inl (by rw [← hL st]; exact h))
/-- the tables, as a contract hands them on -/
def xK (D : va_G) (tys : List (ClassId × FieldType)) (U : State) : Prop := va_K D classes tys U ∧ ∀ w ∈ NESTW, va_Nw w U
theorem xK.moved {D : va_G} {tys : List (ClassId × FieldType)} {s U : State} (hW : s.WarmedH U.vm) (h : xK D tys s) : xK D tys U := ⟨va_K.moved hW.alike h.1, fun w hw => NESTW_warm w hw hW (h.2 w hw)⟩
theorem xK.blind {D : va_G} {tys : List (ClassId × FieldType)} {s U : State} (hv : s.vm = U.vm) (h : xK D tys s) : xK D tys U := ⟨va_K.moved (hv ▸ Vm.Alike.refl s.vm) h.1, fun w hw => va_Nw.same (NESTW_tab w hw) hv (h.2 w hw)⟩
abbrev xPc {S : Type} (D : va_G) (tys : List (ClassId × FieldType)) (wf : S → va_W) (av : List Value) (st : S) (sz : Nat) : Array Value → State → Prop := va_Pc av (fun U => U.heap.size = sz ∧ va_P D classes (wf st) U.heap ∧ xK D tys U)
abbrev xQi {S : Type} (D : va_G) (wf : S → va_W) (L : List Nat) (out : Int32 × S) (sz : Nat) : Array Value → State → Outcome → State → Prop := va_Qi (fun r u => out = (r, u)) (fun u t => va_P D classes (wf u) t.heap) (xA L sz)
abbrev xQv {S : Type} (D : va_G) (wf : S → va_W) (L : List Nat) (out : S) (sz : Nat) : Array Value → State → Outcome → State → Prop := va_Qv (fun u => out = u) (fun u t => va_P D classes (wf u) t.heap) (xA L sz)
def xMi {S : Type} (l : Launch) (y : MethodName) (b : ByteArray) (n : Nat) (rt : Option FieldType) (rm : Room) (D : va_G) (tys : List (ClassId × FieldType)) (wf : S → va_W) (L : List Nat) (av : List Value) (st : S) (out : Int32 × S) : Prop :=
  ∀ sz : Nat, Met l y (.code y b n rt :: BIG) rm (xPc D tys wf av st sz) (xQi D wf L out sz) 0 0 (xA L sz)
def xMv {S : Type} (l : Launch) (y : MethodName) (b : ByteArray) (n : Nat) (rt : Option FieldType) (rm : Room) (D : va_G) (tys : List (ClassId × FieldType)) (wf : S → va_W) (L : List Nat) (av : List Value) (st : S) (out : S) : Prop :=
  ∀ sz : Nat, Met l y (.code y b n rt :: BIG) rm (xPc D tys wf av st sz) (xQv D wf L out sz) 0 0 (xA L sz)
section XM
variable {l : Launch} {y : MethodName} {b : ByteArray} {n : Nat} {rt : Option FieldType} {rm : Room} {D : va_G} {tys : List (ClassId × FieldType)} {S : Type} {wf : S → va_W} {L : List Nat} {av : List Value} {st : S}
theorem xM_of {Qc : Array Value → State → Outcome → State → Prop} {mc ms sz : Nat} {free : Addr → Prop} (hy : plainName y.cls = true) (hn : (lg_sl av).length ≤ n)
    (body : ∀ (p : Program) (e : Env) (s : State) (m : MethodId) (below : List Frame) (meth : Method) (c : Code), s.heap.size = sz → meth.sig.returnType = rt → xC p s m av.toArray meth c (xA L sz) D n tys b y.cls → xJ p l e rm s m av.toArray below meth c 0 0 (MQ below Qc av.toArray s mc ms free) (xA L sz) D n (wf st) (lv_args 0 av) 0 []) :
    Met l y (.code y b n rt :: BIG) rm (xPc D tys wf av st sz) Qc mc ms free := by
  refine Met.ofW (cc := b) (maxL := n) (ret := rt) hy rfl ?_
  intro p e s m args below meth c s₁ B hml hv
  obtain ⟨rfl, hsz, hP, hK, hNw⟩ := hv
  have hts := atoms_spec (ws := .code y b n rt :: BIG) B.pre
  have hl := lv_entry av (n := n) hn
  rw [lg_entry_eq]
  exact body p e s m below meth c hsz B.returns ⟨⟨B.exec, B.bytes, hml, findClass_of_methodNamed B.named, fun w h => hts w (List.mem_cons_of_mem _ h)⟩, hK, fun q h => Or.inr (by rw [← hsz]; exact h), B.notSynchronized, hNw⟩ s.heap [] _ hP va_S.rf hl
end XM
section XR
variable {p : Program} {l : Launch} {e : Env} {R : Room} {s : State} {m : MethodId} {args : Array Value} {below : List Frame} {meth : Method} {c : Code} {Q : State → Prop} {cells slots : Nat}
variable {A : Nat → Prop} {D : va_G} {tys : List (ClassId × FieldType)} {nL : Nat} {lv : List (Nat × Value)} {pc : Nat} {rest st0 : List Value} {cc : ByteArray} {own : String} {S : Type} {wf : S → va_W} {L : List Nat} {sz : Nat} {st : S}
theorem xj_iret (C : xC p s m args meth c (xA L sz) D nL tys cc own) (hr : meth.sig.returnType = some .int) {out : Int32 × S} {v : Int32} (ho : some (v, st) = some out) (hdg : decode cc pc = .ok (.ireturn, 1)) : xJ p l e R s m args below meth c cells slots (MQ below (xQi D wf L out sz) args s cells slots (xA L sz)) (xA L sz) D nL (wf st) lv pc [.int v] :=
  fun H locs ls hP hS hl => W.iret (v := v) C.ex C.by hr (fun t ht hW => ⟨⟨v, st, rfl, (Option.some.inj ho).symm, (show va_P D classes (wf st) t.heap by rw [ht]; exact hP)⟩, hS.F ht⟩) hS.2.2 hdg C.lk
theorem xj_zret (C : xC p s m args meth c (xA L sz) D nL tys cc own) {ty : FieldType} (hr : meth.sig.returnType = some ty) {out : Int32 × S} {v : Int32} (hn : narrow ty (.int v) = .int v) (ho : some (v, st) = some out) (hdg : decode cc pc = .ok (.ireturn, 1)) : xJ p l e R s m args below meth c cells slots (MQ below (xQi D wf L out sz) args s cells slots (xA L sz)) (xA L sz) D nL (wf st) lv pc [.int v] :=
  fun H locs ls hP hS hl => W.zret (v := v) C.ex C.by hr hn (fun t ht hW => ⟨⟨v, st, rfl, (Option.some.inj ho).symm, (show va_P D classes (wf st) t.heap by rw [ht]; exact hP)⟩, hS.F ht⟩) hS.2.2 hdg C.lk
theorem xj_vret (C : xC p s m args meth c (xA L sz) D nL tys cc own) (hr : meth.sig.returnType = none) {out : S} (ho : some st = some out) (hdg : decode cc pc = .ok (.return_, 1)) : xJ p l e R s m args below meth c cells slots (MQ below (xQv D wf L out sz) args s cells slots (xA L sz)) (xA L sz) D nL (wf st) lv pc [] :=
  fun H locs ls hP hS hl => W.vret C.ex C.by hr (fun t ht hW => ⟨⟨st, rfl, (Option.some.inj ho).symm, (show va_P D classes (wf st) t.heap by rw [ht]; exact hP)⟩, hS.F ht⟩) hS.2.2 hdg C.lk
/-- what the tables say of a callee -/
def xY (y : MethodName) (b : ByteArray) (n : Nat) (rt : Option FieldType) (np : Nat) : Prop := Cond.code y b n rt ∈ BIG ∧ Cond.initialized y.cls ∈ BIG ∧ (y.cls ≠ "java/lang/invoke/MethodHandle" ∧ y.cls ≠ "java/lang/invoke/VarHandle" ∧ (parseMethodDescriptor y.desc).map (fun d => d.parameters.length) = some np)
theorem xGood {y : MethodName} {b : ByteArray} {n : Nat} {rt : Option FieldType} {np : Nat} (h : xY y b n rt np) : GoodIn BIG (.code y b n rt :: BIG) := by
  intro w hw
  rcases List.mem_cons.mp hw with rfl | hw
  · exact BIG_good _ h.1
  · exact BIG_good w hw
theorem xB (C : xC p s m args meth c A D nL tys cc own) {y : MethodName} {b : ByteArray} {n np index : Nat} {rt : Option FieldType} {rm : Room} {mc ms : Nat} (h : xY y b n rt np) (hl : Cond.methodLink own index y ∈ BIG) (hrc : rm.cells = mc) (hrs : rm.slots = ms) (hR : rm.frames + 1 ≤ R.frames ∧ 8 + (n + 11) + rm.locals ≤ R.locals) : CallB R s args own index y b n rt (.code y b n rt :: BIG) rm mc ms np :=
  callB_of (Ts := BIG) (ws' := BIG) np C.ts (xGood h) rfl hrc hrs (C.ts _ h.2.1) (C.ts _ hl) h.2.2 hR
/-- the callee stands in the receiver's class -/
def xIV (own : String) (index : Nat) (y : MethodName) : Prop := Cond.methodLink own index y ∈ BIG ∧ Cond.instanceMethod y ∈ BIG ∧ Cond.selects y.cls y y ∈ BIG
def xIS (own : String) (index : Nat) (y : MethodName) : Prop := Cond.methodLink own index y ∈ BIG ∧ Cond.static y ∈ BIG
def xISN (own : String) (index : Nat) (y : MethodName) : Prop := ∃ host : String, Cond.methodLinkNest own index y host ∈ NESTW ∧ Cond.static y ∈ BIG
def xIVN (own : String) (index : Nat) (y : MethodName) : Prop := ∃ host : String, Cond.methodLinkNest own index y host ∈ NESTW ∧ Cond.instanceMethod y ∈ BIG ∧ Cond.selects y.cls y y ∈ BIG
theorem xBlind {av : List Value} : FrameBlind (xPc D tys wf av st sz) := fun a U g mk q => by
  obtain ⟨q0, q1, qP, qK⟩ := q
  exact ⟨q0, q1, qP, xK.blind (s := U) (U := U.calling g mk a) rfl qK⟩
theorem xPre (C : xC p s m args meth c A D nL tys cc own) {av : List Value} {H : Heap} (hP : va_P D classes (wf st) H) : ∀ U : State, U.heap = H → s.WarmedH U.vm → xPc D tys wf av st H.size av.toArray U :=
  fun U hU hW => ⟨rfl, by rw [hU], by rw [hU]; exact hP, xK.moved hW ⟨C.K, C.nw⟩⟩
theorem xRecv (C : xC p s m args meth c A D nL tys cc own) {ws : va_W} {H : Heap} (hP : va_P D classes ws H) {a q0 ci : Nat} {fs : List Value} {Cn : String} (he : ws[q0]? = some (a, .inr (ci, fs))) (hc : (classes[ci]?).map (·.1) = some Cn) : ∃ cell : Cell, H[a]? = some cell ∧ cell.vm.isStatics = false ∧ s.vm.findClass Cn = some cell.cls := by
  obtain ⟨q, hq, rfl⟩ := Option.map_eq_some_iff.mp hc
  exact va_recv C.K hP hq he
theorem xFree (C : xC p s m args meth c A D nL tys cc own) {H : Heap} {locs : List Loc} (hS : va_S A s.heap H locs) (hA : ∀ q, q ∈ L → A q) : ∀ q, xA L H.size q → A q := fun q h => h.elim (hA q) (fun h => C.fA q (Nat.le_trans hS.1 h))
theorem xj_callVi (C : xC p s m args meth c A D nL tys cc own) {y : MethodName} {b : ByteArray} {n np index : Nat} {rt : Option FieldType} {rm : Room} {out : Int32 × S} {a : Nat} {As : List Value} (hM : xMi l y b n rt rm D tys wf L (.ref a :: As) st out) (hY : xY y b n rt np) (hI : xIV own index y) (q0 : Nat) {ci : Nat} {fs : List Value} (he : (wf st)[q0]? = some (a, .inr (ci, fs))) (hcl : (classes[ci]?).map (·.1) = some y.cls) (hR : rm.frames + 1 ≤ R.frames ∧ 8 + (n + 11) + rm.locals ≤ R.locals) (hrm : rm.cells = 0 ∧ rm.slots = 0) (hnp : As.length = np) (hs : st0 = As.reverse ++ .ref a :: rest) (hw : (rest.map fun v => v.category).sum ≤ 8) (hdg : decode cc pc = .ok (.invokevirtual index, 3)) (hA : ∀ q, q ∈ L → A q) (k : xJ p l e R s m args below meth c 0 0 Q A D nL (wf out.2) lv (pc + 3) (.int out.1 :: rest)) : xJ p l e R s m args below meth c 0 0 Q A D nL (wf st) lv pc st0 := by
  intro H locs ls hP hS hl
  have hAA := xFree C hS hA
  refine va_calli (va_runV (As := As) (rest := rest) C.1 (hM H.size) ⟨xB C hY hI.1 hrm.1 hrm.2 hR, C.ts _ hI.2.1, C.ts _ hI.2.2⟩ ⟨xBlind, xRecv C hP he hcl, xPre C hP⟩ rfl hnp hl.1 hs (lv_room hw) hdg ⟨Nat.zero_le _, Nat.zero_le _⟩) hS (fun q _ h => hAA q h) hAA (fun r u t H1 locs1 ht hvm hw2 hB hz1 hk1 hS1 => ?_)
  subst hw2
  rw [ht] at hB
  exact k H1 locs1 ls hB hS1 hl
theorem xj_callVv (C : xC p s m args meth c A D nL tys cc own) {y : MethodName} {b : ByteArray} {n np index : Nat} {rt : Option FieldType} {rm : Room} {out : S} {a : Nat} {As : List Value} (hM : xMv l y b n rt rm D tys wf L (.ref a :: As) st out) (hY : xY y b n rt np) (hI : xIV own index y) (q0 : Nat) {ci : Nat} {fs : List Value} (he : (wf st)[q0]? = some (a, .inr (ci, fs))) (hcl : (classes[ci]?).map (·.1) = some y.cls) (hR : rm.frames + 1 ≤ R.frames ∧ 8 + (n + 11) + rm.locals ≤ R.locals) (hrm : rm.cells = 0 ∧ rm.slots = 0) (hnp : As.length = np) (hs : st0 = As.reverse ++ .ref a :: rest) (hw : (rest.map fun v => v.category).sum ≤ 8) (hdg : decode cc pc = .ok (.invokevirtual index, 3)) (hA : ∀ q, q ∈ L → A q) (k : xJ p l e R s m args below meth c 0 0 Q A D nL (wf out) lv (pc + 3) rest) : xJ p l e R s m args below meth c 0 0 Q A D nL (wf st) lv pc st0 := by
  intro H locs ls hP hS hl
  have hAA := xFree C hS hA
  refine va_callv (va_runV (As := As) (rest := rest) C.1 (hM H.size) ⟨xB C hY hI.1 hrm.1 hrm.2 hR, C.ts _ hI.2.1, C.ts _ hI.2.2⟩ ⟨xBlind, xRecv C hP he hcl, xPre C hP⟩ rfl hnp hl.1 hs (lv_room hw) hdg ⟨Nat.zero_le _, Nat.zero_le _⟩) hS (fun q _ h => hAA q h) hAA (fun u t H1 locs1 ht hvm hw2 hB hz1 hk1 hS1 => ?_)
  subst hw2
  rw [ht] at hB
  exact k H1 locs1 ls hB hS1 hl
theorem xj_callSi (C : xC p s m args meth c A D nL tys cc own) {y : MethodName} {b : ByteArray} {n np index : Nat} {rt : Option FieldType} {rm : Room} {out : Int32 × S} {As : List Value} (hM : xMi l y b n rt rm D tys wf L As st out) (hY : xY y b n rt np) (hI : xIS own index y) (hR : rm.frames + 1 ≤ R.frames ∧ 8 + (n + 11) + rm.locals ≤ R.locals) (hrm : rm.cells = 0 ∧ rm.slots = 0) (hnp : As.length = np) (hs : st0 = As.reverse ++ rest) (hw : (rest.map fun v => v.category).sum ≤ 8) (hdg : decode cc pc = .ok (.invokestatic index, 3)) (hA : ∀ q, q ∈ L → A q) (k : xJ p l e R s m args below meth c 0 0 Q A D nL (wf out.2) lv (pc + 3) (.int out.1 :: rest)) : xJ p l e R s m args below meth c 0 0 Q A D nL (wf st) lv pc st0 := by
  intro H locs ls hP hS hl
  have hAA := xFree C hS hA
  refine va_calli (va_runS (As := As) (rest := rest) C.1 (hM H.size) ⟨xB C hY hI.1 hrm.1 hrm.2 hR, C.ts _ hI.2⟩ ⟨xBlind, xPre C hP⟩ rfl hnp hl.1 hs (lv_room hw) hdg ⟨Nat.zero_le _, Nat.zero_le _⟩) hS (fun q _ h => hAA q h) hAA (fun r u t H1 locs1 ht hvm hw2 hB hz1 hk1 hS1 => ?_)
  subst hw2
  rw [ht] at hB
  exact k H1 locs1 ls hB hS1 hl
theorem xj_callSv (C : xC p s m args meth c A D nL tys cc own) {y : MethodName} {b : ByteArray} {n np index : Nat} {rt : Option FieldType} {rm : Room} {out : S} {As : List Value} (hM : xMv l y b n rt rm D tys wf L As st out) (hY : xY y b n rt np) (hI : xIS own index y) (hR : rm.frames + 1 ≤ R.frames ∧ 8 + (n + 11) + rm.locals ≤ R.locals) (hrm : rm.cells = 0 ∧ rm.slots = 0) (hnp : As.length = np) (hs : st0 = As.reverse ++ rest) (hw : (rest.map fun v => v.category).sum ≤ 8) (hdg : decode cc pc = .ok (.invokestatic index, 3)) (hA : ∀ q, q ∈ L → A q) (k : xJ p l e R s m args below meth c 0 0 Q A D nL (wf out) lv (pc + 3) rest) : xJ p l e R s m args below meth c 0 0 Q A D nL (wf st) lv pc st0 := by
  intro H locs ls hP hS hl
  have hAA := xFree C hS hA
  refine va_callv (va_runS (As := As) (rest := rest) C.1 (hM H.size) ⟨xB C hY hI.1 hrm.1 hrm.2 hR, C.ts _ hI.2⟩ ⟨xBlind, xPre C hP⟩ rfl hnp hl.1 hs (lv_room hw) hdg ⟨Nat.zero_le _, Nat.zero_le _⟩) hS (fun q _ h => hAA q h) hAA (fun u t H1 locs1 ht hvm hw2 hB hz1 hk1 hS1 => ?_)
  subst hw2
  rw [ht] at hB
  exact k H1 locs1 ls hB hS1 hl
theorem xj_callVNi (C : xC p s m args meth c A D nL tys cc own) {y : MethodName} {b : ByteArray} {n np index : Nat} {rt : Option FieldType} {rm : Room} {out : Int32 × S} {a : Nat} {As : List Value} (hM : xMi l y b n rt rm D tys wf L (.ref a :: As) st out) (hY : xY y b n rt np) (hI : xIVN own index y) (q0 : Nat) {ci : Nat} {fs : List Value} (he : (wf st)[q0]? = some (a, .inr (ci, fs))) (hcl : (classes[ci]?).map (·.1) = some y.cls) (hR : rm.frames + 1 ≤ R.frames ∧ 8 + (n + 11) + rm.locals ≤ R.locals) (hrm : rm.cells = 0 ∧ rm.slots = 0) (hnp : As.length = np) (hs : st0 = As.reverse ++ .ref a :: rest) (hw : (rest.map fun v => v.category).sum ≤ 8) (hdg : decode cc pc = .ok (.invokevirtual index, 3)) (hA : ∀ q, q ∈ L → A q) (k : xJ p l e R s m args below meth c 0 0 Q A D nL (wf out.2) lv (pc + 3) (.int out.1 :: rest)) : xJ p l e R s m args below meth c 0 0 Q A D nL (wf st) lv pc st0 := by
  intro H locs ls hP hS hl
  have hAA := xFree C hS hA
  obtain ⟨host, hI1, hI2⟩ := hI
  refine va_calli (va_runVN (As := As) (rest := rest) C.1 (hM H.size) ⟨va_cnB (Ts := BIG) (ws' := BIG) np C.ts (xGood hY) rfl hrm.1 hrm.2 (C.nw _ hI1) (C.ts _ hY.2.1) hY.2.2 hR, C.ts _ hI2.1, C.ts _ hI2.2⟩ ⟨xBlind, xRecv C hP he hcl, xPre C hP⟩ rfl hnp hl.1 hs (lv_room hw) hdg ⟨Nat.zero_le _, Nat.zero_le _⟩) hS (fun q _ h => hAA q h) hAA (fun r u t H1 locs1 ht hvm hw2 hB hz1 hk1 hS1 => ?_)
  subst hw2
  rw [ht] at hB
  exact k H1 locs1 ls hB hS1 hl
theorem xj_callVNv (C : xC p s m args meth c A D nL tys cc own) {y : MethodName} {b : ByteArray} {n np index : Nat} {rt : Option FieldType} {rm : Room} {out : S} {a : Nat} {As : List Value} (hM : xMv l y b n rt rm D tys wf L (.ref a :: As) st out) (hY : xY y b n rt np) (hI : xIVN own index y) (q0 : Nat) {ci : Nat} {fs : List Value} (he : (wf st)[q0]? = some (a, .inr (ci, fs))) (hcl : (classes[ci]?).map (·.1) = some y.cls) (hR : rm.frames + 1 ≤ R.frames ∧ 8 + (n + 11) + rm.locals ≤ R.locals) (hrm : rm.cells = 0 ∧ rm.slots = 0) (hnp : As.length = np) (hs : st0 = As.reverse ++ .ref a :: rest) (hw : (rest.map fun v => v.category).sum ≤ 8) (hdg : decode cc pc = .ok (.invokevirtual index, 3)) (hA : ∀ q, q ∈ L → A q) (k : xJ p l e R s m args below meth c 0 0 Q A D nL (wf out) lv (pc + 3) rest) : xJ p l e R s m args below meth c 0 0 Q A D nL (wf st) lv pc st0 := by
  intro H locs ls hP hS hl
  have hAA := xFree C hS hA
  obtain ⟨host, hI1, hI2⟩ := hI
  refine va_callv (va_runVN (As := As) (rest := rest) C.1 (hM H.size) ⟨va_cnB (Ts := BIG) (ws' := BIG) np C.ts (xGood hY) rfl hrm.1 hrm.2 (C.nw _ hI1) (C.ts _ hY.2.1) hY.2.2 hR, C.ts _ hI2.1, C.ts _ hI2.2⟩ ⟨xBlind, xRecv C hP he hcl, xPre C hP⟩ rfl hnp hl.1 hs (lv_room hw) hdg ⟨Nat.zero_le _, Nat.zero_le _⟩) hS (fun q _ h => hAA q h) hAA (fun u t H1 locs1 ht hvm hw2 hB hz1 hk1 hS1 => ?_)
  subst hw2
  rw [ht] at hB
  exact k H1 locs1 ls hB hS1 hl
theorem xj_callSNi (C : xC p s m args meth c A D nL tys cc own) {y : MethodName} {b : ByteArray} {n np index : Nat} {rt : Option FieldType} {rm : Room} {out : Int32 × S} {As : List Value} (hM : xMi l y b n rt rm D tys wf L As st out) (hY : xY y b n rt np) (hI : xISN own index y) (hR : rm.frames + 1 ≤ R.frames ∧ 8 + (n + 11) + rm.locals ≤ R.locals) (hrm : rm.cells = 0 ∧ rm.slots = 0) (hnp : As.length = np) (hs : st0 = As.reverse ++ rest) (hw : (rest.map fun v => v.category).sum ≤ 8) (hdg : decode cc pc = .ok (.invokestatic index, 3)) (hA : ∀ q, q ∈ L → A q) (k : xJ p l e R s m args below meth c 0 0 Q A D nL (wf out.2) lv (pc + 3) (.int out.1 :: rest)) : xJ p l e R s m args below meth c 0 0 Q A D nL (wf st) lv pc st0 := by
  intro H locs ls hP hS hl
  have hAA := xFree C hS hA
  obtain ⟨host, hI1, hI2⟩ := hI
  refine va_calli (va_runSN (As := As) (rest := rest) C.1 (hM H.size) ⟨va_cnB (Ts := BIG) (ws' := BIG) np C.ts (xGood hY) rfl hrm.1 hrm.2 (C.nw _ hI1) (C.ts _ hY.2.1) hY.2.2 hR, C.ts _ hI2, trivial⟩ ⟨xBlind, xPre C hP⟩ rfl hnp hl.1 hs (lv_room hw) hdg ⟨Nat.zero_le _, Nat.zero_le _⟩) hS (fun q _ h => hAA q h) hAA (fun r u t H1 locs1 ht hvm hw2 hB hz1 hk1 hS1 => ?_)
  subst hw2
  rw [ht] at hB
  exact k H1 locs1 ls hB hS1 hl
theorem xj_callSNv (C : xC p s m args meth c A D nL tys cc own) {y : MethodName} {b : ByteArray} {n np index : Nat} {rt : Option FieldType} {rm : Room} {out : S} {As : List Value} (hM : xMv l y b n rt rm D tys wf L As st out) (hY : xY y b n rt np) (hI : xISN own index y) (hR : rm.frames + 1 ≤ R.frames ∧ 8 + (n + 11) + rm.locals ≤ R.locals) (hrm : rm.cells = 0 ∧ rm.slots = 0) (hnp : As.length = np) (hs : st0 = As.reverse ++ rest) (hw : (rest.map fun v => v.category).sum ≤ 8) (hdg : decode cc pc = .ok (.invokestatic index, 3)) (hA : ∀ q, q ∈ L → A q) (k : xJ p l e R s m args below meth c 0 0 Q A D nL (wf out) lv (pc + 3) rest) : xJ p l e R s m args below meth c 0 0 Q A D nL (wf st) lv pc st0 := by
  intro H locs ls hP hS hl
  have hAA := xFree C hS hA
  obtain ⟨host, hI1, hI2⟩ := hI
  refine va_callv (va_runSN (As := As) (rest := rest) C.1 (hM H.size) ⟨va_cnB (Ts := BIG) (ws' := BIG) np C.ts (xGood hY) rfl hrm.1 hrm.2 (C.nw _ hI1) (C.ts _ hY.2.1) hY.2.2 hR, C.ts _ hI2, trivial⟩ ⟨xBlind, xPre C hP⟩ rfl hnp hl.1 hs (lv_room hw) hdg ⟨Nat.zero_le _, Nat.zero_le _⟩) hS (fun q _ h => hAA q h) hAA (fun u t H1 locs1 ht hvm hw2 hB hz1 hk1 hS1 => ?_)
  subst hw2
  rw [ht] at hB
  exact k H1 locs1 ls hB hS1 hl
end XR
abbrev j_i {S : Type} (p : Program) (l : Launch) (e : Env) (R : Room) (s : State) (m : MethodId) (args : Array Value) (below : List Frame) (meth : Method) (c : Code) (sz : Nat) (D : va_G) (wf : S → va_W) (L : List Nat) (out : Int32 × S) (nL : Nat) (ws : va_W) (lv : List (Nat × Value)) (pc : Nat) (st : List Value) : Prop := xJ p l e R s m args below meth c 0 0 (MQ below (xQi D wf L out sz) args s 0 0 (xA L sz)) (xA L sz) D nL ws lv pc st
abbrev j_v {S : Type} (p : Program) (l : Launch) (e : Env) (R : Room) (s : State) (m : MethodId) (args : Array Value) (below : List Frame) (meth : Method) (c : Code) (sz : Nat) (D : va_G) (wf : S → va_W) (L : List Nat) (out : S) (nL : Nat) (ws : va_W) (lv : List (Nat × Value)) (pc : Nat) (st : List Value) : Prop := xJ p l e R s m args below meth c 0 0 (MQ below (xQv D wf L out sz) args s 0 0 (xA L sz)) (xA L sz) D nL ws lv pc st
end
section
/-! THROWING AND CATCHING, over the library's laws of a standing walk (stack traces are off). -/
section XT
variable {p : Program} {l : Launch} {e : Env} {R : Room} {s : State} {m : MethodId} {args : Array Value} {below : List Frame} {meth : Method} {c : Code} {H : Heap} {locs : List Loc} {cells slots : Nat} {Q : State → Prop}
/-- what an invocation has done to the heap and the tables, however it ended -/
def xFE (first t : State) (L : List Loc) (k n : Nat) : Prop := first.WarmedH t.vm ∧ first.sameButNew ({ t with vm := first.vm } : State) L k n
/-- a contract whose method may return or throw -/
def xMet (l : Launch) (y : MethodName) (ws : List Cond) (rm : Room) (Pc : Array Value → State → Prop) (Qc : Array Value → State → Outcome → State → Prop) (mc ms : Nat) (free : Addr → Prop) : Prop :=
  MetFree l y (headSpec ws rm) Pc (fun _ _ _ _ _ => True) (fun a st o t => Qc a st o t ∧ ∃ L, xFE st t L mc ms ∧ ∀ q ∈ L, free q.base)
def xMQ (below : List Frame) (Qc : Array Value → State → Outcome → State → Prop) (a : Array Value) (s : State) (mc ms : Nat) (free : Addr → Prop) : State → Prop := fun t =>
  ∃ o, t.status = .running ∧ Ended t below o ∧ Qc a s o t ∧ ∃ L, xFE s t L mc ms ∧ ∀ q ∈ L, free q.base
theorem xW_mono {Q' : State → Prop} {g : JFrame} (h : ∀ t, Q t → Q' t) (k : W p l e R s m args below meth c H locs cells slots Q g) : W p l e R s m args below meth c H locs cells slots Q' g := fun T hT X => by
  obtain ⟨t, a, b⟩ := k T hT X
  exact ⟨t, a, h t b⟩
theorem xMQ_of {Qc : Array Value → State → Outcome → State → Prop} {mc ms : Nat} {free : Addr → Prop} {t : State} (h : MQ below Qc args s mc ms free t) : xMQ below Qc args s mc ms free t := by
  obtain ⟨o, h1, h2, h3, L, h4, h5⟩ := h
  exact ⟨o, h1, h2, h3, L, h4.2, h5⟩
/-- the walk begun anew from where it stands: the same tables, the heap as it now is -/
theorem xre {T : State} (X : Stand p l e R s m args below meth c T locs cells slots) (k n : Nat) (hk : cells + k ≤ R.cells) (hn : slots + n ≤ R.slots) :
    ∃ s' : State, s'.vm = s.vm ∧ s'.heap = T.heap ∧ Stand p l e { frames := R.frames, cells := k, slots := n, locals := R.locals } s' m args below meth c T [] 0 0 ∧
      ∀ (t : State) (k' n' : Nat), s'.WarmedH t.vm → s'.sameButNew ({ t with vm := s'.vm } : State) [] k' n' → xFE s t locs (cells + k') (slots + n') := by
  have top := X.here.top
  have hcur : (T.setVm s.vm).cur < (T.setVm s.vm).threads.size := State.cur_lt_of_top (show (T.setVm s.vm).topJava?.isSome from top)
  have hfr : ((T.setVm s.vm).setFrames (.invoking m args :: below)).frames = .invoking m args :: below := State.frames_setFrames _ hcur
  refine ⟨(T.setVm s.vm).setFrames (.invoking m args :: below), rfl, rfl, ?_, ?_⟩
  · constructor
    · exact X.admits
    · exact X.cas
    · exact X.clock
    · exact hfr
    · have r := X.room
      have w1 : ((T.setVm s.vm).setFrames (.invoking m args :: below)).localsInUse = s.localsInUse :=
        (State.localsInUse_invoking hfr (meth := meth) (c := c) X.method X.code).trans (State.localsInUse_invoking X.frames X.method X.code).symm
      have w2 : e.platform.stackLimits ((T.setVm s.vm).setFrames (.invoking m args :: below)).me = e.platform.stackLimits s.me := (State.stackLimits_setFrames ..).trans X.limits
      have w3 : ((T.setVm s.vm).setFrames (.invoking m args :: below)).me.stackBytes = s.me.stackBytes := (State.stackBytes_setFrames ..).trans X.bytes
      have hz := X.heapSize
      have hu := X.used
      unfold State.hasRoom at r ⊢
      rw [w1, w2, w3, hfr]
      rw [X.frames] at r
      simp only [Bool.and_eq_true, decide_eq_true_eq] at r ⊢
      obtain ⟨⟨⟨r1, r2⟩, r3⟩, -⟩ := r
      exact ⟨⟨⟨r1, by show T.heap.size + k ≤ _; omega⟩, by show T.slotsUsed + n ≤ _; omega⟩, X.book⟩
    · exact X.hears
    · exact X.method
    · exact X.code
    · exact X.here
    · exact X.tail
    · exact X.warmed
    · exact X.limits.trans ((State.stackLimits_setFrames ..).trans X.limits).symm
    · exact X.bytes.trans ((State.stackBytes_setFrames ..).trans X.bytes).symm
    · obtain ⟨g₀, hg₀⟩ := Option.isSome_iff_exists.mp (show (T.setVm s.vm).topJava?.isSome from top)
      obtain ⟨r, hr⟩ := State.topJava?_eq_some.mp hg₀
      obtain ⟨th, hth, -⟩ := State.frames_cons hr
      refine ⟨?_, Nat.le_refl _, Nat.le_refl _, ?_, ?_, fun a c9 h9 => ⟨c9, h9, rfl, rfl, fun _ _ => rfl⟩⟩
      · show T.setVm s.vm = { ((T.setVm s.vm).setFrames (.invoking m args :: below)).setFrames (T.setVm s.vm).frames with heap := T.heap, slotsUsed := T.slotsUsed }
        rw [State.setFrames_setFrames, State.setFrames_self hth]
        rfl
      · have : (T.heap.toList.drop T.heap.size) = [] := List.drop_eq_nil_of_le (Nat.le_of_eq Array.length_toList)
        show T.slotsUsed = T.slotsUsed + ((T.heap.toList.drop T.heap.size).map (·.slots.size)).sum
        rw [this]; rfl
      · have : (T.heap.toList.drop T.heap.size) = [] := List.drop_eq_nil_of_le (Nat.le_of_eq Array.length_toList)
        show ((T.heap.toList.drop T.heap.size).map (·.slots.size)).sum ≤ 0
        rw [this]; exact Nat.le_refl _
  · intro t k' n' hW hs
    obtain ⟨q1, q2, q3, q4, q5, q6⟩ := hs
    have h2 : (T.setVm s.vm).sameButNew ({ t with vm := s.vm } : State) [] k' n' := ⟨q1.trans (by rw [State.setFrames_setFrames]; rfl), q2, q3, q4, q5, q6⟩
    have h3 := X.same.trans h2
    rw [List.append_nil] at h3
    exact ⟨hW, h3⟩
/-- nothing old was written -/
theorem xKept {first t : State} {k n : Nat} (h : first.sameButNew ({ t with vm := first.vm } : State) [] k n) : first.heap.size ≤ t.heap.size ∧ ∀ q : Nat, q < first.heap.size → t.heap[q]? = first.heap[q]? := by
  obtain ⟨-, h2, -, -, -, h6⟩ := h
  refine ⟨h2, fun q hq => ?_⟩
  obtain ⟨c', e1, e2, e3, e4⟩ := h6 q first.heap[q] (Array.getElem?_eq_getElem hq)
  have hs : c'.slots = (first.heap[q]).slots := Array.ext_getElem? (fun i => e4 i (by simp))
  have hc : c' = first.heap[q] := by rw [e2, hs]
  rw [Array.getElem?_eq_getElem hq, ← hc]
  exact e1
theorem xThrow {cc : ByteArray} {pc : Nat} {ls : Array Slot} {rest : List Value} (hexec : p.tables.exec = Jvm.exec) (hb : c.code = cc) (hlt : l.stackTraces = false) {own cls text : String} (names : List String) {ik is ic sa : Nat} {Qc : Array Value → State → Outcome → State → Prop} {free : Addr → Prop}
    (hown : s.vm.findClass own = some m.cls) (hlocks : meth.locks = false) (hml : ls.size = c.maxLocals) (hex : c.exceptionTable.toList = [])
    (hcls : Bundle.fit cls = true) (hnames : ∀ n ∈ names, Bundle.fit n = true) (hats : ∀ s' : State, s'.vm = s.vm → s'.heap = H → ∀ w ∈ Bundle.ownAtoms own ic cls names, w.before args s' = true)
    (hk : (Cond.classLink own ik cls).before args s = true) (hini : (Cond.initialized cls).before args s = true) (hstr : vk_R own is text sa s)
    (d0 : decode cc pc = .ok (.new ik, 3)) (d3 : decode cc (pc + 3) = .ok (.dup, 1)) (d4 : decode cc (pc + 4) = .ok (.ldc is, 2)) (d6 : decode cc (pc + 6) = .ok (.invokespecial ic, 3)) (d9 : decode cc (pc + 9) = .ok (.athrow, 1))
    (hRf : names.length + 3 < R.frames) (hRl : (rest.map fun v => v.category).sum + 1 + (13 * (names.length + 1) + 42) ≤ R.locals) (hRc : cells + 1 ≤ R.cells) (hRs : slots + 6 ≤ R.slots)
    (hq : ∀ (t : State) (a : Nat) (ce : Cell), s.WarmedH t.vm → H.size ≤ t.heap.size → (∀ q : Nat, q < H.size → t.heap[q]? = H[q]?) → t.heap[a]? = some ce → s.vm.findClass cls = some ce.cls → ce.vm = .none → Qc args s (.threw a) t)
    (hf : ∀ q ∈ locs, free q.base) :
    W p l e R s m args below meth c H locs cells slots (xMQ below Qc args s (cells + 1) (slots + 6) free) (F0 m pc ls rest) := by
  intro T hT X
  have htr : e.platform.stackTraces = false := (show e.platform.stackTraces = l.stackTraces by rw [X.admits.platform]).trans hlt
  obtain ⟨s', hv, hh, Y, hback⟩ := xre X 1 6 hRc hRs
  have hh : s'.heap = H := hh.trans hT
  have hat := hats s' hv hh
  have hins : (Cond.instantiable cls 6).before args s' = true := hat _ (by simp [Bundle.ownAtoms])
  have K : W p l e { frames := R.frames, cells := 1, slots := 6, locals := R.locals } s' m args below meth c H [] 0 0 (xMQ below Qc args s (cells + 1) (slots + 6) free) (F0 m pc ls rest) := by
    refine W.newc hexec hb (own := own) (C := cls) (by rw [hv]; exact hown) (va_tabs rfl hv.symm hk) hins (va_tabs rfl hv.symm hini) rfl d0 (Nat.le_refl _) (Nat.le_refl _) (fun cX kX hfX hkX hoX hnX => ?_)
    refine W.eq (g2 := F0 m (pc + 3) ls (.ref H.size :: rest)) rfl ?_
    refine lv_dup hexec hb d3 rfl ?_
    refine va_ldcS hexec hb (own := own) (tx := text) (q := sa) (by rw [hv]; exact hown) (vk_R.same hv hstr) d4 ?_
    intro T2 hT2 X2
    have hcell : T2.heap[H.size]? = some (freshCell cX kX) := by rw [hT2]; simp [freshCell]
    obtain ⟨U, hst, hrun, hend, hW, hsm, ce, hce, hO⟩ := X2.ctorThrowS hexec htr (own := own) (cls := cls) (names := names) (ic := ic) (by rw [hv]; exact hown) hcls hnames hat (fun x hx => by simp at hx) hfX hkX hcell (by rw [hh]; exact Nat.le_refl _)
      (msg := .ref sa) rfl (g := F0 m (pc + 6) ls (.ref sa :: .ref H.size :: .ref H.size :: rest)) rfl hml rfl rfl (rest := rest) rfl (by rw [hb]; exact d6) (by rw [hb]; exact d9) (by rw [hex]; simp) hRf (by
        show 2 * 0 + (1 + (rest.map fun v => v.category).sum) + (13 * (names.length + 1) + 42) ≤ R.locals
        omega) hlocks
    have hkp := xKept hsm
    rw [hh] at hkp
    exact ⟨U, hst, .threw H.size, hrun, hend, hq U H.size ce (hback U _ _ hW hsm).1 hkp.1 hkp.2 hce (by rw [← hv]; exact hO.cls) hO.vm, locs, hback U _ _ hW hsm, hf⟩
  exact K T hT Y
end XT
end
section
/-! CATCHING: the search through a method's table where the catch types may be unresolved yet; a call that may throw. -/
section XH
variable {p : Program} {l : Launch} {e : Env} {R : Room} {s : State} {m : MethodId} {args : Array Value} {below : List Frame} {meth : Method} {c : Code} {H : Heap} {locs : List Loc} {cells slots : Nat} {Q : State → Prop}
/-- one row of the table: its class links; the search ends there or goes on, with the class noted -/
theorem xGo1 {Q : Handler → Pre} {E : CtlPost} {d : Bool} {acts : List Action} {S : State} {f : JFrame} {a : Addr} {x : ExceptionTableEntry} {t : List ExceptionTableEntry} {k : ClassId} {cell : Cell} (hx : covers x f.pc = true) (h0 : x.catchType ≠ 0)
    (hl : S.vm.ClassLinks e.platform f.method.cls x.catchType k) (hcell : S.heap[a]? = some cell) (hobj : ∀ z, cell.vm ≠ .statics z) (hk : ∃ z, S.vm.classes[cell.cls]? = some z) (hc : ∃ z, S.vm.classes[k]? = some z) :
    wp (findHandler.go f a (x :: t)) Q E e d acts S ↔
      if S.vm.assignable cell.cls k = true then Q (.found x.handlerPc) d acts (S.setVm (S.vm.noted f.method.cls x.catchType (.cls k))) else wp (findHandler.go f a t) Q E e d acts (S.setVm (S.vm.noted f.method.cls x.catchType (.cls k))) := by
  have al : S.vm.Alike (S.vm.noted f.method.cls x.catchType (.cls k)) := (Vm.Alike.refl S.vm).noted _ _ _
  obtain ⟨u1, v1⟩ := hk
  obtain ⟨u2, v2⟩ := hc
  obtain ⟨w1, z1, -⟩ := al.2.2 _ _ v1
  obtain ⟨w2, z2, -⟩ := al.2.2 _ _ v2
  obtain ⟨o1, o2⟩ := (resolveClass_links e.toSetting hl).op (op := VmOp.resolveClass f.method.cls x.catchType) rfl
  have eq := al.assignable cell.cls k
  simp only [covers] at hx
  by_cases hfit : S.vm.assignable cell.cls k = true
  · rw [if_pos hfit]
    rw [hfit] at eq
    simp [findHandler.go, hx, h0, o1, o2, hcell, hobj, z1, z2, eq, VmOp.dirties, VmOp.acts]
  · rw [if_neg hfit]
    rw [Bool.eq_false_iff.mpr hfit] at eq
    simp [findHandler.go, hx, h0, o1, o2, hcell, hobj, z1, z2, eq, VmOp.dirties, VmOp.acts]
/-- the rows ahead are of other classes; this one takes it -/
theorem xSearch {f : JFrame} {a : Addr} {cell : Cell} (hobj : ∀ z, cell.vm ≠ .statics z) (hk0 : ∃ z, s.vm.classes[cell.cls]? = some z) (x : ExceptionTableEntry) (post : List ExceptionTableEntry)
    (hx : covers x f.pc = true ∧ x.catchType ≠ 0 ∧ ∃ k, s.vm.ClassLinks e.platform f.method.cls x.catchType k ∧ s.vm.assignable cell.cls k = true) :
    ∀ (pre : List ExceptionTableEntry) (S : State), s.WarmedH S.vm → S.heap[a]? = some cell → (∀ y ∈ pre, covers y f.pc = true ∧ y.catchType ≠ 0 ∧ ∃ k, s.vm.ClassLinks e.platform f.method.cls y.catchType k ∧ s.vm.assignable cell.cls k = false) →
      ∃ vm', s.WarmedH vm' ∧ ∀ (Q : Handler → Pre) (E : CtlPost) (d : Bool) (acts : List Action), wp (findHandler.go f a (pre ++ x :: post)) Q E e d acts S ↔ Q (.found x.handlerPc) d acts (S.setVm vm') := by
  obtain ⟨z0, hz0⟩ := hk0
  have step : ∀ (S : State) (y : ExceptionTableEntry) (k : ClassId), s.WarmedH S.vm → s.vm.ClassLinks e.platform f.method.cls y.catchType k →
      s.WarmedH (S.vm.noted f.method.cls y.catchType (.cls k)) ∧ S.vm.ClassLinks e.platform f.method.cls y.catchType k ∧ (∃ z, S.vm.classes[cell.cls]? = some z) ∧ (∃ z, S.vm.classes[k]? = some z) ∧ S.vm.assignable cell.cls k = s.vm.assignable cell.cls k := by
    intro S y k hW hl
    obtain ⟨dk, _, _, kt, hd, _, _, _, _, hkt, _, hopen⟩ := hl.here
    obtain ⟨w1, q1, -⟩ := hW.alike.2.2 _ _ hz0
    obtain ⟨w2, q2, -⟩ := hW.alike.2.2 _ _ hkt
    exact ⟨hW.noted hd hopen (State.rightAt_cls hl), hW.classLinks hl, ⟨w1, q1⟩, ⟨w2, q2⟩, hW.alike.assignable _ _⟩
  intro pre
  induction pre with
  | nil =>
    intro S hW hcell _
    obtain ⟨h1, h2, k, hl, hfit⟩ := hx
    obtain ⟨a1, a2, a3, a4, a5⟩ := step S x k hW hl
    exact ⟨_, a1, fun Q E d acts => by rw [List.nil_append, xGo1 h1 h2 a2 hcell hobj a3 a4, if_pos (a5.trans hfit)]⟩
  | cons y ys ih =>
    intro S hW hcell hpre
    obtain ⟨h1, h2, k, hl, hno⟩ := hpre y (List.mem_cons_self ..)
    obtain ⟨a1, a2, a3, a4, a5⟩ := step S y k hW hl
    obtain ⟨vm', b1, b2⟩ := ih (S.setVm (S.vm.noted f.method.cls y.catchType (.cls k))) a1 hcell (fun z hz => hpre z (List.mem_cons_of_mem _ hz))
    exact ⟨vm', b1, fun Q E d acts => by rw [List.cons_append, xGo1 h1 h2 a2 hcell hobj a3 a4, if_neg (by rw [a5, hno]; decide)]; exact b2 Q E d acts⟩
/-- the exception lies over the method's own frame: the walk goes on in the handler -/
theorem xCaught {T : State} (X : Stand p l e R s m args below meth c T locs cells slots) {g : JFrame} (hg : g.method = m) {a : Addr} {cell : Cell} (hcell : T.heap[a]? = some cell) (hobj : cell.vm = .none) (hk0 : ∃ z, s.vm.classes[cell.cls]? = some z)
    (pre : List ExceptionTableEntry) (x : ExceptionTableEntry) (post : List ExceptionTableEntry) (htab : c.exceptionTable.toList = pre ++ x :: post)
    (hpre : ∀ y ∈ pre, covers y g.pc = true ∧ y.catchType ≠ 0 ∧ ∃ k, s.vm.ClassLinks e.platform m.cls y.catchType k ∧ s.vm.assignable cell.cls k = false)
    (hx : covers x g.pc = true ∧ x.catchType ≠ 0 ∧ ∃ k, s.vm.ClassLinks e.platform m.cls x.catchType k ∧ s.vm.assignable cell.cls k = true) :
    ∃ vm', Stand p l e R s m args below meth c (T.setVm vm') locs cells slots ∧
      ∀ tg, Steps p.tables e below ((T.setVm vm').setTop { g with pc := x.handlerPc, stack := [.ref a] }) tg → Steps p.tables e below ((T.setTop g).pushFrame (.throwing a)) tg := by
  subst hg
  obtain ⟨vm', hW, hfind⟩ := xSearch (e := e) (s := s) (f := g) (a := a) (cell := cell) (by rw [hobj]; simp) hk0 x post hx pre ((T.setTop g).pushFrame (.throwing a)) (by rw [Stand.throwing_vm]; exact X.warmed) (by rw [Stand.throwing_heap]; exact hcell) hpre
  refine ⟨vm', X.noted hW, fun tg h => ?_⟩
  have hall : ∀ (Q : Handler → Pre) (E : CtlPost) (d : Bool) (acts : List Action), wp (findHandler g a) Q E e d acts ((T.setTop g).pushFrame (.throwing a)) ↔ Q (.found x.handlerPc) d acts (((T.setTop g).pushFrame (.throwing a)).setVm vm') := by
    intro Q E d acts
    rw [Jvm.W.findHandler_eq (meth := meth) (code := c) (by rw [Stand.throwing_vm]; exact X.method') X.code, htab]
    exact hfind Q E d acts
  obtain ⟨hgo, hw⟩ := X.here.throwing a
  refine Steps.head hgo hw ?_
  obtain ⟨g₀, hg₀⟩ := Option.isSome_iff_exists.mp X.here.top
  obtain ⟨r, hr⟩ := State.topJava?_eq_some.mp hg₀
  have hstep : (stepThrowing e ((T.setTop g).pushFrame (.throwing a)) a (.java g :: T.frames.tail)).Is ((((T.setTop g).pushFrame (.throwing a)).setVm vm').setFrames (.java { g with pc := x.handlerPc, stack := [.ref a] } :: T.frames.tail)) [] := by
    simp only [stepThrowing, searchFrame, vmDo]
    generalize hq : Sem.go _ e false [] _ = res
    obtain ⟨as, rfl, ha⟩ := Sem.eq_ok_of hq (a := Handler.found x.handlerPc) (s' := ((T.setTop g).pushFrame (.throwing a)).setVm vm') (acts' := []) (by simp [hall])
    exact ⟨rfl, ha⟩
  rw [stepThread_throwing (frames_entered X.here.top _), hstep.1]
  have hv : (T.setVm vm').frames = .java g₀ :: r := hr
  rw [State.setTop_of_frames _ hv] at h
  have he : (((T.setTop g).pushFrame (.throwing a)).setVm vm').setFrames (.java { g with pc := x.handlerPc, stack := [.ref a] } :: T.frames.tail) = (T.setVm vm').setFrames (.java { g with pc := x.handlerPc, stack := [.ref a] } :: r) := by
    rw [State.pushFrame, State.setTop_of_frames _ hr]
    show (((T.setVm vm').setFrames _).setFrames _).setFrames _ = _
    rw [State.setFrames_setFrames, State.setFrames_setFrames, hr]
    rfl
  rw [he]
  exact h
/-- a callee that may throw runs to its end -/
theorem xRuns {T : State} (X : Stand p l e R s m args below meth c T locs cells slots) {g : JFrame} (hg : g.method = m) (hsize : g.locals.size = c.maxLocals) {ig : Instr} {len : Nat} (hdg : decode c.code g.pc = .ok (ig, len))
    {y : MethodName} {ws : List Cond} {rm : Room} {Pc : Array Value → State → Prop} {Qc : Array Value → State → Outcome → State → Prop} {mc ms : Nat} {free : Addr → Prop} (hM : xMet l y ws rm Pc Qc mc ms free) {mk : MethodId} {a : Array Value} (hn : T.methodNamed? y = some mk)
    {methY : Method} {cY : Code} (hmY : T.vm.method? mk = some methY) (hcY : methY.code = some cY) (hws : ∀ w ∈ ws, w.before a T = true) (hini : (Cond.initialized y.cls).before a T = true)
    (hfr : rm.frames + 1 ≤ R.frames) (hlo : 2 * g.monitorRoom + (g.stack.map fun v => v.category).sum + (cY.maxLocals + 11) + rm.locals ≤ R.locals) (hc : cells + rm.cells ≤ R.cells) (hs : slots + rm.slots ≤ R.slots) (hP : Pc a (T.calling g mk a)) :
    ∃ (o : Outcome) (t : State) (L : List Loc), Steps p.tables e below (doInvoke e (T.setTop g) [] mk a).1 t ∧ Ended t (.java g :: below) o ∧ Qc a (T.calling g mk a) o t ∧ xFE (T.calling g mk a) t L mc ms ∧ ∀ q ∈ L, free q.base := by
  have h : At T g.method c below := by rw [hg]; exact X.here
  obtain ⟨kY, hkY, -⟩ := className_of_methodNamed hn
  have hiY : kY.init = .initialized := Cond.initialized_spec (findClass_of_methodNamed hn) hkY hini
  have happ : (headSpec ws rm).appliesLoose y e.platform (T.calling g mk a) = true :=
    Spec.appliesLoose_calling (g := g) h hdg hn hkY hiY (X.room_calling (g := g) (R' := rm) hsize hmY hcY hfr hlo hc hs) (atoms_intro hws)
  obtain ⟨mid, hmid⟩ := h.above
  have hF : (T.setTop g).frames = (.java g :: mid) ++ below := by rw [State.frames_setTop' g h.top, hmid]; rfl
  obtain ⟨o, t, hst, -, hend, hq, L, hfe, hL⟩ := Steps.callFree hM p X.admits X.cas X.clock (acts := []) hF happ hP trivial
  rw [State.frames_setTop' g h.top, X.tail] at hend
  exact ⟨o, t, L, hst, hend, hq, hfe, hL⟩
/-- a virtual call that may throw, in a method with handlers: two roads -/
theorem xCallVX {cc : ByteArray} {pc nL n index maxL mc ms : Nat} {ls : Array Slot} {Ts ws : List Cond} {own C : String} {y : MethodName} {bytes : ByteArray} {ret : Option FieldType} {rm : Room} {Pc : Array Value → State → Prop} {Qc : Array Value → State → Outcome → State → Prop} {free : Addr → Prop} {b : Addr} {As rest st0 : List Value}
    (S : CallFix p m c cc nL s args Ts own) (hM : xMet l y ws rm Pc Qc mc ms free) (cw : CallW R s args own C index y bytes maxL ret ws rm mc ms n) (hp : PreV s H C b Pc As) (hn : As.length = n) (hsize : ls.size = nL) (hst0 : st0 = As.reverse ++ .ref b :: rest)
    (hW : (rest.map fun v => v.category).sum ≤ 8) (hdg : decode cc pc = .ok (.invokevirtual index, 3)) (hf : cells + mc ≤ R.cells ∧ slots + ms ≤ R.slots)
    (kr : ∀ (v : Option Value) (u t : State) (H1 : Heap) (L : List Loc), u.heap = H → t.heap = H1 → s.vm.Alike t.vm → Qc (Value.ref b :: As).toArray u (.returned v) t → (∀ q ∈ L, free q.base) → W p l e R s m args below meth c H1 (locs ++ L) (cells + mc) (slots + ms) Q (F0 m (pc + 3) ls (v.toList ++ rest)))
    (kt : ∀ (a : Addr) (u t : State) (H1 : Heap) (L : List Loc), u.heap = H → t.heap = H1 → s.vm.Alike t.vm → s.vm.Alike u.vm → Qc (Value.ref b :: As).toArray u (.threw a) t → (∀ q ∈ L, free q.base) → (e.platform.magicAccessors = ({} : Platform).magicAccessors) →
      ∃ (cell : Cell) (pre : List ExceptionTableEntry) (x : ExceptionTableEntry) (post : List ExceptionTableEntry), H1[a]? = some cell ∧ cell.vm = .none ∧ (∃ z, s.vm.classes[cell.cls]? = some z) ∧ c.exceptionTable.toList = pre ++ x :: post ∧
        (∀ y ∈ pre, covers y pc = true ∧ y.catchType ≠ 0 ∧ ∃ k, s.vm.ClassLinks e.platform m.cls y.catchType k ∧ s.vm.assignable cell.cls k = false) ∧
        (covers x pc = true ∧ x.catchType ≠ 0 ∧ ∃ k, s.vm.ClassLinks e.platform m.cls x.catchType k ∧ s.vm.assignable cell.cls k = true) ∧
        W p l e R s m args below meth c H1 (locs ++ L) (cells + mc) (slots + ms) Q (F0 m x.handlerPc ls [.ref a])) :
    W p l e R s m args below meth c H locs cells slots Q (F0 m pc ls st0) := by
  obtain ⟨hx, hb, hml, hown, -⟩ := S
  obtain ⟨⟨hrc, hrs, hfr, hlo, hws, hcw, hcode, hini, hy, hlen, hlink⟩, hinst, hsel⟩ := cw
  obtain ⟨hblind, ⟨cellB, hcB, hoB, hclB⟩, hPc⟩ := hp
  intro T hT X
  obtain ⟨mk, methM, hnamed, hmethM, hstM, habM⟩ := Cond.instanceMethod_spec hinst
  obtain ⟨methM', cM, hmethM', hcM, -, hmlM, -, -, -, hsigM⟩ := Cond.code_spec hnamed hcode
  cases hmethM.symm.trans hmethM'
  obtain ⟨c2, r2, m2, q1, q2, q3, q4, kP, hkP, hkPi⟩ := Cond.selects_spec hsel
  cases hclB.symm.trans q1
  cases (State.methodFound?_of_named hnamed hy).symm.trans q2
  cases hnamed.symm.trans q3
  have hselP : selectMethod e.platform s.vm cellB.cls mk = .method mk := by rw [Launch.admits_selectMethod X.admits]; exact q4
  have hsig : As.length = methM.sig.parameters.length := hn.trans (hlen _ hsigM)
  obtain ⟨vm₁, X₁, hstep⟩ := X.invokevirtual hx hown hlink hnamed hmethM hstM hkP hkPi hy (a := b) (cell := cellB) (by rw [hT]; exact hcB) (fun z h => by rw [h] at hoB; cases hoB) hselP hmethM habM hkP hkPi
    (g := F0 m pc ls st0) rfl (argsL := As) (rest := rest) hsig hst0 (by rw [hb]; exact hdg)
  have hW1 := X₁.warmed
  obtain ⟨o, t, L, hst, hend, hq, hfe, hL⟩ := xRuns X₁ (g := F0 m pc ls rest) rfl (hsize.trans hml.symm) (by rw [hb]; exact hdg) hM (mk := mk) (a := (Value.ref b :: As).toArray) (X₁.named hnamed) (methY := methM) (cY := cM)
    (by rw [hW1.alike.method?]; exact hmethM) hcM (fun w hw => hws w hw _ _ hW1) (word_at hW1 (Or.inl rfl) hini) hfr (by show 2 * 0 + (rest.map fun v => v.category).sum + (cM.maxLocals + 11) + rm.locals ≤ R.locals; rw [hmlM]; omega) (by rw [hrc]; exact hf.1) (by rw [hrs]; exact hf.2)
    (hblind _ _ _ _ (hPc _ hT hW1))
  have hback : ∀ tg, Steps p.tables e below t tg → Steps p.tables e below (T.setTop (F0 m pc ls st0)) tg := fun tg h => hstep _ fun acts => by rw [doInvoke_state]; exact hst.trans h
  cases o with
  | returned v =>
    obtain ⟨T', X', hw', hs', ht⟩ := X₁.outOf (g := F0 m pc ls rest) rfl (by rw [hb]; exact hdg) hend hfe.1 hfe.2
    have hh : T'.heap = t.heap := by rw [ht]; rfl
    have hv : T'.vm = t.vm := by rw [ht]; rfl
    obtain ⟨tg, a1, a2⟩ := kr v _ t _ L (show ((T.setVm vm₁).calling (F0 m pc ls rest) mk _).heap = H from hT) rfl (by rw [← hv]; exact X'.warmed.alike) hq hL T' hh X'
    exact ⟨tg, hback tg (by rw [ht]; exact a1), a2⟩
  | threw a =>
    obtain ⟨T', X', hw', hs', ht⟩ := X₁.outOfThrown (g := F0 m pc ls rest) rfl hend hfe.1 hfe.2
    have hh : T'.heap = t.heap := by rw [ht, Stand.throwing_heap]
    have hv : T'.vm = t.vm := by rw [ht, Stand.throwing_vm]
    obtain ⟨cell, pre, x, post, h1, h2, h3, h4, h5, h6, h7⟩ := kt a _ t _ L (show ((T.setVm vm₁).calling (F0 m pc ls rest) mk _).heap = H from hT) rfl (by rw [← hv]; exact X'.warmed.alike) hW1.alike hq hL (by rw [X.admits.platform])
    obtain ⟨vm', X2, st2⟩ := xCaught X' (g := F0 m pc ls rest) rfl (by rw [hh]; exact h1) h2 h3 pre x post h4 h5 h6
    obtain ⟨tg, a1, a2⟩ := h7 (T'.setVm vm') hh X2
    exact ⟨tg, hback tg (by rw [ht]; exact st2 tg a1), a2⟩
end XH
end
section
/-! THE START THAT ALL IS MEASURED FROM, and the words that a throw wants of it. -/
def xF0 (s0 : State) : Prop := ∃ a0 : Array Value, (∀ w ∈ lw_tbl, w.before a0 s0 = true) ∧ (Jvm.Cond.and given_1 narrow_1).before a0 s0 = true
/-- U comes from the law's start s0: its tables are warmer, the cells of s0 are as they were -/
def xS (s0 U : State) : Prop := s0.WarmedH U.vm ∧ (∀ q : Nat, q < s0.heap.size → U.heap[q]? = s0.heap[q]?) ∧ xF0 s0
theorem xS.to {s0 s U : State} (h : xS s0 s) (hW : s.WarmedH U.vm) (hh : ∀ q : Nat, q < s0.heap.size → U.heap[q]? = s.heap[q]?) : xS s0 U := ⟨State.WarmedH.trans h.1 hW, fun q hq => (hh q hq).trans (h.2.1 q hq), h.2.2⟩
theorem xS.same {s0 s U : State} (h : xS s0 s) (hv : U.vm = s.vm) (hh : ∀ q : Nat, q < s0.heap.size → U.heap[q]? = s.heap[q]?) : xS s0 U := ⟨by rw [hv]; exact h.1, fun q hq => (hh q hq).trans (h.2.1 q hq), h.2.2⟩
theorem xStat {s0 U : State} {a0 args : Array Value} {C n d : String} (Z : xS s0 U) (hl : (Cond.laysStatic C n d).before a0 s0 = true) (hr : (Cond.isRef (.static C n d)).before a0 s0 = true) :
    (Cond.laysStatic C n d).before args U = true ∧ (Cond.isRef (.static C n d)).before args U = true := by
  obtain ⟨c, k, i, f, a, cell, hc, hi, hst, ha, hcell, hs, hcls, hlt, hty⟩ := Cond.laysStatic_spec hl
  obtain ⟨k', hi', hek⟩ := State.fieldFound?_setVm Z.1.alike hi
  have hi' : U.fieldFound? C n d = some (c, k', i, f) := hi'
  have hc' : U.vm.findClass C = some c := by rw [Z.1.alike.findClass]; exact hc
  have ha' : k'.statics = some a := by rw [hek]; exact ha
  have hcell' : U.heap[a]? = some cell := by rw [Z.2.1 a (Array.getElem?_eq_some_iff.mp hcell).1]; exact hcell
  refine ⟨Cond.laysStatic_of (s := U) hc' hi' hst ha' hcell' hs hcls hlt (by rw [hek]; exact hty), ?_⟩
  cases hv : (Term.static C n d).eval a0 s0 none [] s0 with
  | none => simp [Cond.before, Cond.holds, Cond.value, hv] at hr
  | some v =>
    obtain ⟨-, a2, cell2, e1, e2, -, hslot⟩ := Term.static_spec hi hv
    cases ha.symm.trans e1
    cases hcell.symm.trans e2
    have hU : (Term.static C n d).eval args U none [] U = some v := Term.static_eval (s := U) hi' hst ha' hcell' hs hslot
    simp only [Cond.before, Cond.holds, Cond.value, hv] at hr
    simp only [Cond.before, Cond.holds, Cond.value, hU]
    exact hr
abbrev eIA : String := "java/lang/IllegalArgumentException"
abbrev eIS : String := "java/lang/IllegalStateException"
abbrev eIO : String := "java/lang/IndexOutOfBoundsException"
abbrev eAR : String := "java/lang/ArithmeticException"
abbrev eNames : List String := ["java/lang/RuntimeException", "java/lang/Exception"]
def EXT : List Cond := [.castable eIA eIA, .castable eIS eIS, .castable eIO eIO, .castable eAR eAR, .declares ⟨"java/lang/RuntimeException", "<init>", "(Ljava/lang/String;)V"⟩, .declares ⟨"java/lang/Exception", "<init>", "(Ljava/lang/String;)V"⟩, .declares ⟨"java/lang/Throwable", "<init>", "(Ljava/lang/String;)V"⟩]
def EXS : List (String × String × String) := [(Bundle.tN, "UNASSIGNED_STACK", Bundle.steD), (Bundle.tN, "SUPPRESSED_SENTINEL", Bundle.listD)]
theorem EXT_in : ∀ w ∈ EXT, w ∈ tables_1 := by
  intro w hw
  simp only [EXT, List.mem_cons, List.not_mem_nil, or_false] at hw
  rcases hw with rfl | rfl | rfl | rfl | rfl | rfl | rfl
  · exact List.mem_of_getElem? (i := 397) (by decide +kernel)
  · exact List.mem_of_getElem? (i := 470) (by decide +kernel)
  · exact List.mem_of_getElem? (i := 519) (by decide +kernel)
  · exact List.mem_of_getElem? (i := 621) (by decide +kernel)
  · exact List.mem_of_getElem? (i := 399) (by decide +kernel)
  · exact List.mem_of_getElem? (i := 401) (by decide +kernel)
  · exact List.mem_of_getElem? (i := 403) (by decide +kernel)
theorem EXT_at {s0 U : State} {args : Array Value} (Z : xS s0 U) : ∀ w ∈ EXT, w.before args U = true := by
  intro w hw
  obtain ⟨a0, h0, -⟩ := Z.2.2
  have h1 := h0 w (List.mem_append_right _ (EXT_in w hw))
  simp only [EXT, List.mem_cons, List.not_mem_nil, or_false] at hw
  rcases hw with rfl | rfl | rfl | rfl | rfl | rfl | rfl
  all_goals first
    | exact va_Nw.use rfl (va_Nw.warmC Z.1 (va_Nw.of rfl h1))
    | exact va_Nw.use rfl (va_Nw.warmD Z.1 (va_Nw.of rfl h1))
theorem EXS_at {s0 U : State} {args : Array Value} (Z : xS s0 U) : ∀ z ∈ EXS, (Cond.laysStatic z.1 z.2.1 z.2.2).before args U = true ∧ (Cond.isRef (.static z.1 z.2.1 z.2.2)).before args U = true := by
  intro z hz
  obtain ⟨a0, h0, hg⟩ := Z.2.2
  have hfl := flat_of_before _ hg
  simp only [EXS, List.mem_cons, List.not_mem_nil, or_false] at hz
  rcases hz with rfl | rfl
  · exact xStat Z (h0 _ (List.mem_append_right _ (List.mem_of_getElem? (i := 422) (by decide +kernel)))) (hfl _ (by decide +kernel))
  · exact xStat Z (h0 _ (List.mem_append_right _ (List.mem_of_getElem? (i := 424) (by decide +kernel)))) (hfl _ (by decide +kernel))
/-- what a throw of X wants, but the link from its own class -/
def xRest (X : String) : List Cond := Bundle.throwableAtoms ++ Bundle.throwableSAtoms ++ Bundle.chainSAtoms X eNames ++
  [.instantiable X 6, .castable X X, .selects X Bundle.tFill0 Bundle.tFill0, .selects X Bundle.tFill Bundle.tFill,
   .lays X Bundle.tN "cause" "Ljava/lang/Throwable;", .lays X Bundle.tN "stackTrace" Bundle.steD, .lays X Bundle.tN "suppressedExceptions" Bundle.listD, .lays X Bundle.tN "detailMessage" "Ljava/lang/String;",
   .fieldLink Bundle.tN 198 Bundle.tN "backtrace" "Ljava/lang/Object;", .lays Bundle.tN Bundle.tN "backtrace" "Ljava/lang/Object;", .lays X Bundle.tN "backtrace" "Ljava/lang/Object;"]
def xRok (w : Cond) : Bool := (decide (w ∈ lw_tbl) && goodWord w) || decide (w ∈ EXT) || EXS.any (fun z => decide (w = .laysStatic z.1 z.2.1 z.2.2))
theorem xRest_at {s0 U : State} {args : Array Value} (Z : xS s0 U) (hB : ∀ w ∈ BIG, w.before args U = true) {X : String} (h : (xRest X).all xRok = true) : ∀ w ∈ xRest X, w.before args U = true := by
  intro w hw
  have h1 := List.all_eq_true.mp h w hw
  simp only [xRok, Bool.or_eq_true, Bool.and_eq_true, decide_eq_true_eq, List.any_eq_true] at h1
  rcases h1 with (h1 | h1) | ⟨z, hz, rfl⟩
  · exact hB w (List.mem_filter.mpr h1)
  · exact EXT_at Z w h1
  · exact (EXS_at Z z hz).1
theorem xOwn_at {s0 U : State} {args : Array Value} (Z : xS s0 U) (hB : ∀ w ∈ BIG, w.before args U = true) {X own : String} {ic : Nat} (h : (xRest X).all xRok = true) (hl : Cond.methodLink own ic (Bundle.initS X) ∈ BIG) : ∀ w ∈ Bundle.ownAtoms own ic X eNames, w.before args U = true := by
  intro w hw
  have h0 := xRest_at Z hB h
  have h1 := EXS_at (args := args) Z
  simp only [Bundle.ownAtoms, List.mem_append, List.mem_cons, List.not_mem_nil, or_false] at hw
  rcases hw with ((hw | hw) | hw) | hw
  · exact h0 w (by simp [xRest, hw])
  · exact h0 w (by simp [xRest, hw])
  · exact h0 w (by simp [xRest, hw])
  · rcases hw with rfl | rfl | rfl | rfl | rfl | rfl | rfl | rfl | rfl | rfl | rfl | rfl | rfl | rfl
    · exact hB _ hl
    all_goals first
      | exact (h1 (Bundle.tN, "UNASSIGNED_STACK", Bundle.steD) (by simp [EXS])).2
      | exact (h1 (Bundle.tN, "SUPPRESSED_SENTINEL", Bundle.listD) (by simp [EXS])).2
      | exact h0 _ (by simp [xRest])
set_option maxRecDepth 100000 in
theorem xR_IA : (xRest eIA).all xRok = true := by decide +kernel
set_option maxRecDepth 100000 in
theorem xR_IS : (xRest eIS).all xRok = true := by decide +kernel
set_option maxRecDepth 100000 in
theorem xR_IO : (xRest eIO).all xRok = true := by decide +kernel
set_option maxRecDepth 100000 in
theorem xR_AR : (xRest eAR).all xRok = true := by decide +kernel
end
section
/-! CONTRACTS OF METHODS THAT MAY THROW: out = ((0, r), u): it returns r; ((k + 1, 0), u): it throws the exception number k; the world behind it is u's. -/
def xExc (k : Nat) : String := match k with
  | 0 => eIA
  | 1 => eIS
  | 2 => eIO
  | _ => eAR
theorem xR_at (k : Nat) : (xRest (xExc k)).all xRok = true := by
  match k with
  | 0 => exact xR_IA
  | 1 => exact xR_IS
  | 2 => exact xR_IO
  | _ + 3 => exact xR_AR
theorem xE_fit (k : Nat) : Bundle.fit (xExc k) = true := by
  match k with
  | 0 => decide
  | 1 => decide
  | 2 => decide
  | _ + 3 => show Bundle.fit eAR = true; decide
abbrev xPx {S : Type} (s0 : State) (D : va_G) (tys : List (ClassId × FieldType)) (wf : S → va_W) (av : List Value) (st : S) (sz : Nat) : Array Value → State → Prop := va_Pc av (fun U => U.heap.size = sz ∧ va_P D classes (wf st) U.heap ∧ xK D tys U ∧ xS s0 U)
def xQx {S : Type} (D : va_G) (wf : S → va_W) (L : List Nat) (out : (Nat × Int32) × S) (sz : Nat) : Array Value → State → Outcome → State → Prop := fun _ u oc t =>
  ((∃ r : Int32, oc = .returned (some (.int r)) ∧ out.1 = (0, r)) ∨ (∃ (a k : Nat) (ce : Cell), oc = .threw a ∧ out.1 = (k + 1, 0) ∧ t.heap[a]? = some ce ∧ u.vm.findClass (xExc k) = some ce.cls ∧ ce.vm = .none)) ∧ va_P D classes (wf out.2) t.heap ∧ va_F (xA L sz) u t
def xMx {S : Type} (s0 : State) (l : Launch) (y : MethodName) (b : ByteArray) (n : Nat) (rt : Option FieldType) (rm : Room) (D : va_G) (tys : List (ClassId × FieldType)) (wf : S → va_W) (L : List Nat) (av : List Value) (st : S) (out : (Nat × Int32) × S) : Prop :=
  ∀ sz : Nat, xMet l y (.code y b n rt :: BIG) rm (xPx s0 D tys wf av st sz) (xQx D wf L out sz) 1 6 (xA L sz)
section XX
variable {l : Launch} {y : MethodName} {b : ByteArray} {n : Nat} {rt : Option FieldType} {rm : Room} {D : va_G} {tys : List (ClassId × FieldType)} {S : Type} {wf : S → va_W} {L : List Nat} {av : List Value} {st : S} {s0 : State}
theorem xMx_of {Qc : Array Value → State → Outcome → State → Prop} {mc ms sz : Nat} {free : Addr → Prop} (hy : plainName y.cls = true) (hn : (lg_sl av).length ≤ n)
    (body : ∀ (p : Program) (e : Env) (s : State) (m : MethodId) (below : List Frame) (meth : Method) (c : Code), s.heap.size = sz → meth.sig.returnType = rt → c.exceptionTable.toList = [] → xS s0 s → xC p s m av.toArray meth c (xA L sz) D n tys b y.cls → xJ p l e rm s m av.toArray below meth c 0 0 (xMQ below Qc av.toArray s mc ms free) (xA L sz) D n (wf st) (lv_args 0 av) 0 []) :
    xMet l y (.code y b n rt :: BIG) rm (xPx s0 D tys wf av st sz) Qc mc ms free := by
  refine MetFree.of_bodyS (code := b) (maxLocals := n) (ret := rt) hy ?_ ?_
  · intro args s m h hn9
    obtain ⟨meth, c, h1, h2, h3, h4, h5, h6, -, -⟩ := Cond.code_spec hn9 (atoms_spec (ws := .code y b n rt :: BIG) h _ List.mem_cons_self)
    exact ⟨meth, c, h1, h2, h3, h4, h5, h6⟩
  · intro p e s m args below meth c s₁ B hml hv _
    obtain ⟨rfl, hsz, hP, ⟨hK, hNw⟩, hZ⟩ := hv
    have hts : ∀ w ∈ Cond.code y b n rt :: BIG, w.before av.toArray s = true := atoms_spec (ws := .code y b n rt :: BIG) B.pre
    have hex : c.exceptionTable.toList = [] := by
      have h9 := BodyLoose.noHandlers B (hts _ List.mem_cons_self)
      simpa using h9
    have hh0 : s₁.heap = s.heap := by rw [B.state]; rfl
    have hl := lv_entry av (n := n) hn
    have K := body p e s m below meth c hsz B.returns hex hZ ⟨⟨B.exec, B.bytes, hml, findClass_of_methodNamed B.named, fun w h => hts w (List.mem_cons_of_mem _ h)⟩, hK, fun q h => Or.inr (by rw [← hsz]; exact h), B.notSynchronized, hNw⟩ s.heap [] _ hP va_S.rf hl
    rw [← lg_entry_eq] at K
    obtain ⟨t, a1, o, b1, b2, b3⟩ := K s₁ hh0 (Stand.of_body B)
    exact ⟨t, o, a1, b1, b2, b3⟩
end XX
section XY
variable {p : Program} {l : Launch} {e : Env} {R : Room} {s : State} {m : MethodId} {args : Array Value} {below : List Frame} {meth : Method} {c : Code} {s0 : State}
variable {D : va_G} {tys : List (ClassId × FieldType)} {nL : Nat} {lv : List (Nat × Value)} {pc : Nat} {rest : List Value} {cc : ByteArray} {own : String} {S : Type} {wf : S → va_W} {L : List Nat} {sz : Nat} {st : S}
abbrev j_x {S : Type} (p : Program) (l : Launch) (e : Env) (R : Room) (s : State) (m : MethodId) (args : Array Value) (below : List Frame) (meth : Method) (c : Code) (sz : Nat) (D : va_G) (wf : S → va_W) (L : List Nat) (out : (Nat × Int32) × S) (nL : Nat) (ws : va_W) (lv : List (Nat × Value)) (pc : Nat) (st : List Value) : Prop := xJ p l e R s m args below meth c 0 0 (xMQ below (xQx D wf L out sz) args s 1 6 (xA L sz)) (xA L sz) D nL ws lv pc st
theorem xj_xret (C : xC p s m args meth c (xA L sz) D nL tys cc own) {ty : FieldType} (hr : meth.sig.returnType = some ty) {out : (Nat × Int32) × S} {v : Int32} (hn : narrow ty (.int v) = .int v) (ho : some ((0, v), st) = some out) (hdg : decode cc pc = .ok (.ireturn, 1)) : j_x p l e R s m args below meth c sz D wf L out nL (wf st) lv pc [.int v] := by
  intro H locs ls hP hS hl
  refine xW_mono (fun t ht => xMQ_of ht) (W.widen (k := 1) (n := 6) (Nat.zero_le _) (Nat.zero_le _) (W.zret (v := v) C.ex C.by hr hn (fun t ht hW => ?_) hS.2.2 hdg C.lk))
  cases ho
  exact ⟨Or.inl ⟨v, rfl, rfl⟩, by show va_P D classes (wf st) t.heap; rw [ht]; exact hP, hS.F ht⟩
/-- the words of a throw at one place of the class: new, ldc, invokespecial -/
def xE (own : String) (ik is ic : Nat) (text : String) (k : Nat) : Prop := Cond.classLink own ik (xExc k) ∈ BIG ∧ Cond.initialized (xExc k) ∈ BIG ∧ Cond.methodLink own ic (Bundle.initS (xExc k)) ∈ BIG ∧ Cond.stringRef own is text ∈ tables_1
theorem xj_throw (C : xC p s m args meth c (xA L sz) D nL tys cc own) (hlt : l.stackTraces = false) (hex : c.exceptionTable.toList = []) (Z : xS s0 s) (hL : ∀ q ∈ L, s0.heap.size ≤ q) (hsz : s.heap.size = sz) {ik is ic k : Nat} {text : String} (E : xE own ik is ic text k) {out : (Nat × Int32) × S} (ho : some ((k + 1, (0 : Int32)), st) = some out)
    (hRf : 5 < R.frames) (hRl : (rest.map fun v => v.category).sum + 82 ≤ R.locals) (hRc : 1 ≤ R.cells) (hRs : 6 ≤ R.slots)
    (d0 : decode cc pc = .ok (.new ik, 3)) (d3 : decode cc (pc + 3) = .ok (.dup, 1)) (d4 : decode cc (pc + 4) = .ok (.ldc is, 2)) (d6 : decode cc (pc + 6) = .ok (.invokespecial ic, 3)) (d9 : decode cc (pc + 9) = .ok (.athrow, 1)) :
    j_x p l e R s m args below meth c sz D wf L out nL (wf st) lv pc rest := by
  intro H locs ls hP hS hl
  cases ho
  obtain ⟨a0, h0, -⟩ := Z.2.2
  have hle : s0.heap.size ≤ s.heap.size := by
    rcases Nat.lt_or_ge s.heap.size s0.heap.size with h | h
    · exfalso
      have h1 := Z.2.1 s.heap.size h
      rw [Array.getElem?_eq_none (Nat.le_refl _), Array.getElem?_eq_getElem h] at h1
      cases h1
    · exact h
  have hkeep : ∀ q : Nat, q < s0.heap.size → H[q]? = s.heap[q]? := fun q hq => hS.2.1 q (by omega) (fun h9 => by
    rcases h9 with h9 | h9
    · exact absurd (hL q h9) (by omega)
    · omega)
  obtain ⟨sa, hstr⟩ : ∃ sa, vk_R own is text sa s := by
    have h1 := h0 _ (List.mem_append_right _ E.2.2.2)
    have hf0 : s0.vm.findClass own = some m.cls := by rw [← Z.1.alike.findClass]; exact C.ow
    obtain ⟨_, _, _, a, _, _, _, _, _, he⟩ := Cond.stringRef_spec hf0 h1
    exact ⟨a, vk_R.warm Z.1 (vk_R.of h1 he)⟩
  refine xThrow C.ex C.by hlt eNames (own := own) (cls := xExc k) (text := text) (sa := sa) C.ow C.lk (by rw [hl.1]; exact C.1.2.2.1.symm) hex (xE_fit k) (by decide) (fun s' hv hh => ?_) (C.ts _ E.1) (C.ts _ E.2.1) hstr d0 d3 d4 d6 d9 hRf (by show _ + 1 + (13 * (2 + 1) + 42) ≤ _; omega) hRc hRs (fun t a ce hW h1 h2 h3 h4 h5 => ?_) hS.2.2
  · refine xOwn_at (s0 := s0) (Z.same hv (fun q hq => by rw [hh]; exact hkeep q hq)) (fun w hw => ?_) (xR_at k) E.2.2.1
    exact word_at (by rw [hv]; exact State.WarmedH.refl s) (BIG_good w hw).2 (C.ts w hw)
  · refine ⟨Or.inr ⟨a, k, ce, rfl, rfl, h3, h4, h5⟩, hP.kept (fun j q hq => h2 q.1 (va_at.lt (hP j q hq))), ?_, ?_⟩
    · exact Nat.le_trans hS.1 h1
    · intro q hq hA
      rw [h2 q (Nat.lt_of_lt_of_le hq hS.1)]
      exact hS.2.1 q hq hA
end XY
end
section
/-! ROWS OF THE LAW'S OWN METHODS: a world in two pieces, calls over one of them, catches by the tables' words. -/
theorem va_P_left {D : va_G} {a b : va_W} {H : Heap} (h : va_P D classes (a ++ b) H) : va_P D classes a H := fun k q hq => h k q (by rw [List.getElem?_append_left (List.getElem?_eq_some_iff.mp hq).1]; exact hq)
theorem va_P_right {D : va_G} {a b : va_W} {H : Heap} (h : va_P D classes (a ++ b) H) : va_P D classes b H := fun k q hq => h (a.length + k) q (by rw [List.getElem?_append_right (Nat.le_add_right _ _), Nat.add_sub_cancel_left]; exact hq)
/-- two exceptions of different kinds: no cast -/
def eNo : List (Nat × Nat) := [(0, 1), (0, 2), (0, 3), (1, 0), (1, 2), (1, 3), (2, 0), (2, 1), (2, 3), (3, 0), (3, 1), (3, 2)]
theorem eNo_at {s0 U : State} (Z : xS s0 U) : ∀ z ∈ eNo, va_Nc (xExc z.1) (xExc z.2) U := by
  intro z hz
  obtain ⟨a0, -, hg⟩ := Z.2.2
  have hfl := flat_of_before _ hg
  simp only [eNo, List.mem_cons, List.not_mem_nil, or_false] at hz
  rcases hz with rfl | rfl | rfl | rfl | rfl | rfl | rfl | rfl | rfl | rfl | rfl | rfl
  all_goals exact va_Nc.moved Z.1.alike (va_Nc.of (hfl _ (by decide +kernel)))
theorem eYes_at {s0 U : State} (Z : xS s0 U) (k : Nat) {ck : ClassId} (h : U.vm.findClass (xExc k) = some ck) : U.vm.assignable ck ck = true := by
  have h1 : (Cond.castable (xExc k) (xExc k)).before #[] U = true := by
    match k with
    | 0 => exact EXT_at Z _ (by simp [EXT, xExc])
    | 1 => exact EXT_at Z _ (by simp [EXT, xExc])
    | 2 => exact EXT_at Z _ (by simp [EXT, xExc])
    | _ + 3 => exact EXT_at Z _ (by simp [EXT, xExc])
  obtain ⟨c, t, e1, e2, e3⟩ := Cond.castable_spec h1
  cases h.symm.trans e1
  cases h.symm.trans e2
  exact e3
/-- a row of a handler table, as the tables tell it -/
abbrev xRow : Type := Nat × Nat × Nat × Nat
def xEnt (r : xRow) : ExceptionTableEntry := ⟨r.1, r.2.1, r.2.2.1, r.2.2.2⟩
theorem xTab {c : Code} {hh : List xRow} (h : c.exceptionTable.toList.map (fun h => (h.startPc, h.endPc, h.handlerPc, h.catchType)) = hh) : c.exceptionTable.toList = hh.map xEnt := by
  rw [← h, List.map_map]
  exact (List.map_id' _).symm
section XL
variable {p : Program} {l : Launch} {e : Env} {R : Room} {s : State} {m : MethodId} {args : Array Value} {below : List Frame} {meth : Method} {c : Code} {Q : State → Prop} {cells slots : Nat} {s0 : State}
variable {A : Nat → Prop} {D : va_G} {tys tysC : List (ClassId × FieldType)} {nL : Nat} {lv : List (Nat × Value)} {pc : Nat} {rest st0 : List Value} {cc : ByteArray} {own : String} {S : Type} {wf : S → va_W} {L : List Nat} {st : S} {wr ws : va_W}
theorem xj_swap {a b : va_W} (k : xJ p l e R s m args below meth c cells slots Q A D nL (b ++ a) lv pc rest) : xJ p l e R s m args below meth c cells slots Q A D nL (a ++ b) lv pc rest := fun H locs ls hP hS hl => k H locs ls ((va_P_right hP).app (va_P_left hP)) hS hl
theorem xj_last (C : xC p s m args meth c A D nL tys cc own) (hD : va_D A ws) (q0 t0 : Nat) {a n : Nat} {cA : ClassId} {f : Nat → Int64} {i : Int32} {x : Int64} {ws' : va_W} (ha : ws[q0]? = some (a, .inl (cA, n, .inr (.inl f)))) (ht : tys[t0]? = some (cA, .long)) (hin : vp_in i n) (hdg : decode cc pc = .ok (.lastore, 1)) (hws : ws.set q0 (a, .inl (cA, n, .inr (.inl (vp_updL f i.toNatClampNeg x)))) = ws') (kk : xJ p l e R s m args below meth c cells slots Q A D nL ws' lv (pc + 1) rest) : xJ p l e R s m args below meth c cells slots Q A D nL ws lv pc (.long x :: .int i :: .ref a :: rest) := by
  intro H locs ls hP hS hl
  refine va_last C.ex C.by C.K hP hD hS q0 t0 ha ht hin hdg (fun H1 locs1 hP1 _ hS1 => ?_)
  rw [hws] at hP1
  exact kk H1 locs1 ls hP1 hS1 hl
theorem xj_lald (C : xC p s m args meth c A D nL tys cc own) (q0 t0 : Nat) {a n : Nat} {cA : ClassId} {f : Nat → Int64} {i : Int32} (ha : ws[q0]? = some (a, .inl (cA, n, .inr (.inl f)))) (ht : tys[t0]? = some (cA, .long)) (hin : vp_in i n) (hdg : decode cc pc = .ok (.laload, 1)) (kk : xJ p l e R s m args below meth c cells slots Q A D nL ws lv (pc + 1) (.long (f i.toNatClampNeg) :: rest)) : xJ p l e R s m args below meth c cells slots Q A D nL ws lv pc (.int i :: .ref a :: rest) := fun H locs ls hP hS hl => va_lald C.ex C.by C.K hP q0 t0 ha ht hin hdg (kk H locs ls hP hS hl)
/-- behind a callee that wrote in its piece alone: the rest stands, and so does the frame -/
theorem xAfter {H H1 : Heap} {locs L9 : List Loc} (hS : va_S A s.heap H locs) (hAA : ∀ q, xA L H.size q → A q) (hz : H.size ≤ H1.size) (hk : ∀ q : Nat, q < H.size → ¬ xA L H.size q → H1[q]? = H[q]?) (hL9 : ∀ q ∈ L9, xA L H.size q.base) (hPr : va_P D classes wr H) (hdis : ∀ a ∈ wr.map (·.1), a ∉ L) :
    va_P D classes wr H1 ∧ va_S A s.heap H1 (locs ++ L9) := by
  refine ⟨hPr.kept (fun j q hq => hk q.1 (va_at.lt (hPr j q hq)) (fun h => ?_)), Nat.le_trans hS.1 hz, fun q hq hA => ?_, fun z hz9 => ?_⟩
  · rcases h with h | h
    · exact hdis q.1 (List.mem_map.mpr ⟨q, List.mem_of_getElem? hq, rfl⟩) h
    · exact absurd (va_at.lt (hPr j q hq)) (Nat.not_lt.mpr h)
  · rw [hk q (Nat.lt_of_lt_of_le hq hS.1) (fun h => hA (hAA q h))]
    exact hS.2.1 q hq hA
  · rcases List.mem_append.mp hz9 with h | h
    · exact hS.2.2 z h
    · exact hAA _ (hL9 z h)
theorem xKsub {U : State} (C : xC p s m args meth c A D nL tys cc own) (hsub : ∃ is : List Nat, is.filterMap (fun i => tys[i]?) = tysC) (hW : s.WarmedH U.vm) : xK D tysC U := by
  obtain ⟨is, his⟩ := hsub
  exact xK.moved hW ⟨C.K.sub is his, C.nw⟩
/-- a virtual call of a method that may throw, over the first piece of the world, in a method with handlers -/
theorem xj_callX (C : xC p s m args meth c A D nL tys cc own) (Z : xS s0 s) (hA0 : ∀ q, A q → s0.heap.size ≤ q) {y : MethodName} {b : ByteArray} {n np index : Nat} {rt : Option FieldType} {rm : Room} {out : (Nat × Int32) × S} {a : Nat} {As : List Value} {hh : List xRow} (htab : c.exceptionTable.toList.map (fun h => (h.startPc, h.endPc, h.handlerPc, h.catchType)) = hh)
    (hM : xMx s0 l y b n rt rm D tysC wf L (.ref a :: As) st out) (hsub : ∃ is : List Nat, is.filterMap (fun i => tys[i]?) = tysC) (hY : xY y b n rt np) (hI : xIV own index y) (q0 : Nat) {ci : Nat} {fs : List Value} (he : (wf st)[q0]? = some (a, .inr (ci, fs))) (hcl : (classes[ci]?).map (·.1) = some y.cls)
    (hR : rm.frames + 1 ≤ R.frames ∧ 8 + (n + 11) + rm.locals ≤ R.locals) (hrm : rm.cells = 1 ∧ rm.slots = 6) (hnp : As.length = np) (hs : st0 = As.reverse ++ .ref a :: rest) (hw : (rest.map fun v => v.category).sum ≤ 8) (hdg : decode cc pc = .ok (.invokevirtual index, 3)) (hRc : cells + 1 ≤ R.cells) (hRs : slots + 6 ≤ R.slots)
    (hA : ∀ q, q ∈ L → A q) (hdis : ∀ a ∈ wr.map (·.1), a ∉ L)
    (k0 : out.1.1 = 0 → xJ p l e R s m args below meth c (cells + 1) (slots + 6) Q A D nL (wf out.2 ++ wr) lv (pc + 3) (.int out.1.2 :: rest))
    (kx : ∀ k : Nat, out.1.1 = k + 1 → ∃ (pre : List xRow) (x : xRow) (post : List xRow), hh = pre ++ x :: post ∧ (∀ z ∈ pre, (z.1 ≤ pc ∧ pc < z.2.1 ∧ z.2.2.2 ≠ 0) ∧ ∃ j, (k, j) ∈ eNo ∧ Cond.classLink own z.2.2.2 (xExc j) ∈ BIG) ∧ (x.1 ≤ pc ∧ pc < x.2.1 ∧ x.2.2.2 ≠ 0) ∧ Cond.classLink own x.2.2.2 (xExc k) ∈ BIG ∧
      ∀ qa : Nat, xJ p l e R s m args below meth c (cells + 1) (slots + 6) Q A D nL (wf out.2 ++ wr) lv x.2.2.1 [.ref qa]) :
    xJ p l e R s m args below meth c cells slots Q A D nL (wf st ++ wr) lv pc st0 := by
  intro H locs ls hP hS hl
  have hAA := xFree C hS hA
  have hkeep : ∀ q : Nat, q < s0.heap.size → H[q]? = s.heap[q]? := fun q hq => by
    rcases Nat.lt_or_ge q s.heap.size with h | h
    · exact hS.2.1 q h (fun h9 => absurd (hA0 q h9) (by omega))
    · have h1 := Z.2.1 q hq
      rw [Array.getElem?_eq_none h, Array.getElem?_eq_getElem hq] at h1
      cases h1
  have hblind : FrameBlind (xPx s0 D tysC wf (.ref a :: As) st H.size) := fun v U g mk q => by
    obtain ⟨q0, q1, qP, qK, qZ⟩ := q
    exact ⟨q0, q1, qP, xK.blind (s := U) (U := U.calling g mk v) rfl qK, qZ.1, qZ.2.1, qZ.2.2⟩
  have hcb : ∀ {cell : Cell} {ck : ClassId}, ∀ z : xRow, (z.1 ≤ pc ∧ pc < z.2.1 ∧ z.2.2.2 ≠ 0) → covers (xEnt z) pc = true ∧ (xEnt z).catchType ≠ 0 := fun z hz => ⟨by simp [covers, xEnt, hz.1, hz.2.1], hz.2.2⟩
  refine xCallVX (rest := rest) C.1 (hM H.size) ⟨xB C hY hI.1 hrm.1 hrm.2 hR, C.ts _ hI.2.1, C.ts _ hI.2.2⟩
    ⟨hblind, xRecv C (va_P_left hP) he hcl, fun U hU hW => ⟨rfl, by rw [hU], by rw [hU]; exact va_P_left hP, xKsub C hsub hW, Z.to hW (fun q hq => by rw [hU]; exact hkeep q hq)⟩⟩ hnp hl.1 hs hw hdg ⟨hRc, hRs⟩ (fun v u t H1 L9 hu ht hal hq hL9 => ?_) (fun ea u t H1 L9 hu ht hal hal2 hq hL9 hpl => ?_)
  · obtain ⟨hq1, hq2, hq3⟩ := hq
    rw [ht] at hq2
    have hz : H.size ≤ H1.size := by rw [← hu, ← ht]; exact hq3.1
    have hk : ∀ q : Nat, q < H.size → ¬ xA L H.size q → H1[q]? = H[q]? := fun q h1 h2 => by rw [← hu, ← ht]; exact hq3.2 q (by rw [hu]; exact h1) h2
    obtain ⟨hPr, hS1⟩ := xAfter hS hAA hz hk hL9 (va_P_right hP) hdis
    rcases hq1 with ⟨r, e1, e2⟩ | ⟨a9, k, ce, e1, -⟩
    · cases e1
      have e3 : out.1.2 = r := by rw [e2]
      have := k0 (by rw [e2]) H1 _ ls (hq2.app hPr) hS1 hl
      rw [e3] at this
      exact this
    · cases e1
  · obtain ⟨hq1, hq2, hq3⟩ := hq
    rw [ht] at hq2
    have hz : H.size ≤ H1.size := by rw [← hu, ← ht]; exact hq3.1
    have hk : ∀ q : Nat, q < H.size → ¬ xA L H.size q → H1[q]? = H[q]? := fun q h1 h2 => by rw [← hu, ← ht]; exact hq3.2 q (by rw [hu]; exact h1) h2
    obtain ⟨hPr, hS1⟩ := xAfter hS hAA hz hk hL9 (va_P_right hP) hdis
    rcases hq1 with ⟨r, e1, -⟩ | ⟨a9, k, ce, e1, e2, e3, e4, e5⟩
    · cases e1
    · cases e1
      have hcls : s.vm.findClass (xExc k) = some ce.cls := by rw [← hal2.findClass]; exact e4
      obtain ⟨pre, x, post, h1, h2, h3, h4, h5⟩ := kx k (by rw [e2])
      obtain ⟨z9, hz9, -⟩ := Vm.findClass_spec hcls
      refine ⟨ce, pre.map xEnt, xEnt x, post.map xEnt, by rw [← ht]; exact e3, e5, ⟨z9, hz9⟩, by rw [xTab htab, h1]; simp, ?_, ?_, h5 ea H1 _ ls (hq2.app hPr) hS1 hl⟩
      · intro w hw
        obtain ⟨z, hz1, rfl⟩ := List.mem_map.mp hw
        obtain ⟨g1, j, g2, g3⟩ := h2 z hz1
        obtain ⟨k9, n1, n2⟩ := Cond.classLink_spec C.ow (C.ts _ g3) e.platform hpl
        obtain ⟨c1, c2, m1, m2, m3⟩ := eNo_at Z (k, j) g2
        cases hcls.symm.trans m1
        cases n1.symm.trans m2
        exact ⟨(hcb (cell := ce) (ck := k9) z g1).1, (hcb (cell := ce) (ck := k9) z g1).2, k9, n2, m3⟩
      · obtain ⟨k9, n1, n2⟩ := Cond.classLink_spec C.ow (C.ts _ h4) e.platform hpl
        cases hcls.symm.trans n1
        exact ⟨(hcb (cell := ce) (ck := ce.cls) x h3).1, (hcb (cell := ce) (ck := ce.cls) x h3).2, _, n2, eYes_at Z k hcls⟩
end XL
end
section
/-! CONSTRUCTORS: a world that grows at its end. -/
theorem va_D_left {A : Nat → Prop} {a b : va_W} (h : va_D A (a ++ b)) : va_D A a := by
  refine ⟨fun i j p q hi hj e => h.1 i j p q ?_ ?_ e, fun k q hq => h.2 k q ?_⟩
  · rw [List.getElem?_append_left (List.getElem?_eq_some_iff.mp hi).1]; exact hi
  · rw [List.getElem?_append_left (List.getElem?_eq_some_iff.mp hj).1]; exact hj
  · rw [List.getElem?_append_left (List.getElem?_eq_some_iff.mp hq).1]; exact hq
theorem va_D_right {A : Nat → Prop} {a b : va_W} (h : va_D A (a ++ b)) : va_D A b := by
  have sh : ∀ (k : Nat) (q : Nat × va_E), b[k]? = some q → (a ++ b)[a.length + k]? = some q := fun k q hq => by
    rw [List.getElem?_append_right (Nat.le_add_right _ _), Nat.add_sub_cancel_left]; exact hq
  refine ⟨fun i j p q hi hj e => ?_, fun k q hq => h.2 _ q (sh k q hq)⟩
  have := h.1 _ _ p q (sh i p hi) (sh j q hj) e
  omega
theorem va_D_cross {A : Nat → Prop} {a b : va_W} (h : va_D A (a ++ b)) {i j : Nat} {p q : Nat × va_E} (hi : a[i]? = some p) (hj : b[j]? = some q) : p.1 ≠ q.1 := fun e => by
  have h1 : (a ++ b)[i]? = some p := by rw [List.getElem?_append_left (List.getElem?_eq_some_iff.mp hi).1]; exact hi
  have h2 : (a ++ b)[a.length + j]? = some q := by rw [List.getElem?_append_right (Nat.le_add_right _ _), Nat.add_sub_cancel_left]; exact hj
  have := h.1 _ _ p q h1 h2 e
  have := (List.getElem?_eq_some_iff.mp hi).1
  omega
/-- a constructor's contract: it makes its own cells, their addresses qa are new -/
def xMc (l : Launch) (y : MethodName) (b : ByteArray) (n : Nat) (rm : Room) (D : va_G) (tys : List (ClassId × FieldType)) (av : List Value) (w0 : va_W) (wf : (Nat → Nat) → va_W) (mc ms : Nat) : Prop :=
  ∀ sz : Nat, Met l y (.code y b n none :: BIG) rm (va_Pc av (fun U => U.heap.size = sz ∧ va_P D classes w0 U.heap ∧ va_D (fun _ => True) w0 ∧ xK D tys U)) (va_Qv (fun _ : Nat → Nat => True) (fun qa t => va_P D classes (wf qa) t.heap ∧ va_D (xA (w0.map (·.1)) sz) (wf qa)) (xA (w0.map (·.1)) sz)) mc ms (xA (w0.map (·.1)) sz)
section XN
variable {p : Program} {l : Launch} {e : Env} {R : Room} {s : State} {m : MethodId} {args : Array Value} {below : List Frame} {meth : Method} {c : Code} {Q : State → Prop} {cells slots : Nat}
variable {A : Nat → Prop} {D : va_G} {tys : List (ClassId × FieldType)} {nL : Nat} {lv : List (Nat × Value)} {pc : Nat} {rest st0 : List Value} {cc : ByteArray} {own : String} {ws wr : va_W}
theorem xMc_of {y : MethodName} {b : ByteArray} {n : Nat} {rm : Room} {av : List Value} {w0 : va_W} {Qc : Array Value → State → Outcome → State → Prop} {mc ms sz : Nat} {free : Addr → Prop} (hy : plainName y.cls = true) (hn : (lg_sl av).length ≤ n)
    (body : ∀ (p : Program) (e : Env) (s : State) (m : MethodId) (below : List Frame) (meth : Method) (c : Code), s.heap.size = sz → meth.sig.returnType = none → meth.name = y.name → va_D (xA (w0.map (·.1)) sz) w0 → xC p s m av.toArray meth c (xA (w0.map (·.1)) sz) D n tys b y.cls → xJ p l e rm s m av.toArray below meth c 0 0 (MQ below Qc av.toArray s mc ms free) (xA (w0.map (·.1)) sz) D n w0 (lv_args 0 av) 0 []) :
    Met l y (.code y b n none :: BIG) rm (va_Pc av (fun U => U.heap.size = sz ∧ va_P D classes w0 U.heap ∧ va_D (fun _ => True) w0 ∧ xK D tys U)) Qc mc ms free := by
  refine Met.ofW (cc := b) (maxL := n) (ret := none) hy rfl ?_
  intro p e s m args below meth c s₁ B hml hv
  obtain ⟨rfl, hsz, hP, hD, hK, hNw⟩ := hv
  have hts := atoms_spec (ws := .code y b n none :: BIG) B.pre
  have hl := lv_entry av (n := n) hn
  rw [lg_entry_eq]
  exact body p e s m below meth c hsz B.returns (name_of_methodNamed B.named B.method).1 ⟨hD.1, fun k q hq => Or.inl (List.mem_map.mpr ⟨q, List.mem_of_getElem? hq, rfl⟩)⟩ ⟨⟨B.exec, B.bytes, hml, findClass_of_methodNamed B.named, fun w h => hts w (List.mem_cons_of_mem _ h)⟩, hK, fun q h => Or.inr (by rw [← hsz]; exact h), B.notSynchronized, hNw⟩ s.heap [] _ hP va_S.rf hl
/-- Object's constructor -/
def xOI (own : String) (idx : Nat) : Prop := Cond.methodLink own idx objectInit ∈ BIG ∧ Cond.instanceMethod objectInit ∈ BIG ∧ Cond.code objectInit ⟨#[0xb1]⟩ 1 none ∈ BIG
theorem xj_objInit (C : xC p s m args meth c A D nL tys cc own) {idx a : Nat} (h : xOI own idx) (hdg : decode cc pc = .ok (.invokespecial idx, 3)) (hf : 1 ≤ R.frames) (hlo : (rest.map fun v => v.category).sum + 12 ≤ R.locals) (k : xJ p l e R s m args below meth c cells slots Q A D nL ws lv (pc + 3) rest) : xJ p l e R s m args below meth c cells slots Q A D nL ws lv pc (.ref a :: rest) := fun H locs ls hP hS hl =>
  W.objInit C.ex C.by C.ow (C.ts _ h.1) (C.ts _ h.2.1) (C.ts _ h.2.2) (g := F0 m pc ls (.ref a :: rest)) rfl (by rw [C.1.2.2.1]; exact hl.1) rfl hdg hf (by show 2 * 0 + _ + 12 ≤ _; omega) (k H locs ls hP hS hl)
theorem xj_newi (C : xC p s m args meth c A D nL tys cc own) (hD : va_D A ws) (t0 : Nat) {cI : ClassId} (ht : tys[t0]? = some (cI, .int)) (harr : Cond.arrayClass .int ∈ BIG) {n : Int32} {N : Nat} (hn : ¬ n < 0) (hN : n.toNatClampNeg = N) (hb : N * componentBytes .int ≤ 536870912) (hc : cells + 1 ≤ R.cells) (hs : slots + N ≤ R.slots) (hdg : decode cc pc = .ok (.newarray .int, 2))
    (k : ∀ q : Nat, va_D A (ws ++ [(q, .inl (cI, N, .inl (fun _ => 0)))]) → xJ p l e R s m args below meth c (cells + 1) (slots + N) Q A D nL (ws ++ [(q, .inl (cI, N, .inl (fun _ => 0)))]) lv (pc + 2) (.ref q :: rest)) : xJ p l e R s m args below meth c cells slots Q A D nL ws lv pc (.int n :: rest) := by
  intro H locs ls hP hS hl
  refine va_newa (atype := .int) (ty := .int) (a0 := (N, .inl (fun _ => 0))) C.ex C.by (C.ts _ harr) rfl C.K hP hD hS C.fA (fun _ => rfl) hn hN hb hc hs hdg (fun q cA H1 hK1 hP1 hD1 hS1 => ?_)
  have h1 : s.vm.findClass ("[" ++ FieldType.int.toString) = some cI := (C.K.2 t0 _ ht).2
  have h2 : s.vm.findClass ("[" ++ FieldType.int.toString) = some cA := (hK1.2 tys.length (cA, .int) (by simp)).2
  cases h1.symm.trans h2
  exact k q hD1 H1 locs ls hP1 hS1 hl
theorem xj_newz (C : xC p s m args meth c A D nL tys cc own) (hD : va_D A ws) (t0 : Nat) {cI : ClassId} (ht : tys[t0]? = some (cI, .boolean)) (harr : Cond.arrayClass .boolean ∈ BIG) {n : Int32} {N : Nat} (hn : ¬ n < 0) (hN : n.toNatClampNeg = N) (hb : N * componentBytes .boolean ≤ 536870912) (hc : cells + 1 ≤ R.cells) (hs : slots + N ≤ R.slots) (hdg : decode cc pc = .ok (.newarray .boolean, 2))
    (k : ∀ q : Nat, va_D A (ws ++ [(q, .inl (cI, N, .inl (fun _ => 0)))]) → xJ p l e R s m args below meth c (cells + 1) (slots + N) Q A D nL (ws ++ [(q, .inl (cI, N, .inl (fun _ => 0)))]) lv (pc + 2) (.ref q :: rest)) : xJ p l e R s m args below meth c cells slots Q A D nL ws lv pc (.int n :: rest) := by
  intro H locs ls hP hS hl
  refine va_newa (atype := .boolean) (ty := .boolean) (a0 := (N, .inl (fun _ => 0))) C.ex C.by (C.ts _ harr) rfl C.K hP hD hS C.fA (fun _ => rfl) hn hN hb hc hs hdg (fun q cA H1 hK1 hP1 hD1 hS1 => ?_)
  have h1 : s.vm.findClass ("[" ++ FieldType.boolean.toString) = some cI := (C.K.2 t0 _ ht).2
  have h2 : s.vm.findClass ("[" ++ FieldType.boolean.toString) = some cA := (hK1.2 tys.length (cA, .boolean) (by simp)).2
  cases h1.symm.trans h2
  exact k q hD1 H1 locs ls hP1 hS1 hl
theorem xj_newl (C : xC p s m args meth c A D nL tys cc own) (hD : va_D A ws) (t0 : Nat) {cI : ClassId} (ht : tys[t0]? = some (cI, .long)) (harr : Cond.arrayClass .long ∈ BIG) {n : Int32} {N : Nat} (hn : ¬ n < 0) (hN : n.toNatClampNeg = N) (hb : N * componentBytes .long ≤ 536870912) (hc : cells + 1 ≤ R.cells) (hs : slots + N ≤ R.slots) (hdg : decode cc pc = .ok (.newarray .long, 2))
    (k : ∀ q : Nat, va_D A (ws ++ [(q, .inl (cI, N, .inr (.inl (fun _ => 0))))]) → xJ p l e R s m args below meth c (cells + 1) (slots + N) Q A D nL (ws ++ [(q, .inl (cI, N, .inr (.inl (fun _ => 0))))]) lv (pc + 2) (.ref q :: rest)) : xJ p l e R s m args below meth c cells slots Q A D nL ws lv pc (.int n :: rest) := by
  intro H locs ls hP hS hl
  refine va_newa (atype := .long) (ty := .long) (a0 := (N, .inr (.inl (fun _ => 0)))) C.ex C.by (C.ts _ harr) rfl C.K hP hD hS C.fA (fun _ => rfl) hn hN hb hc hs hdg (fun q cA H1 hK1 hP1 hD1 hS1 => ?_)
  have h1 : s.vm.findClass ("[" ++ FieldType.long.toString) = some cI := (C.K.2 t0 _ ht).2
  have h2 : s.vm.findClass ("[" ++ FieldType.long.toString) = some cA := (hK1.2 tys.length (cA, .long) (by simp)).2
  cases h1.symm.trans h2
  exact k q hD1 H1 locs ls hP1 hS1 hl
/-- a final field is laid in its own class's constructor -/
def xFF (own : String) (ci k : Nat) (ty : FieldType) : Prop := ∃ (C : String) (T : u_T) (N : Nat) (t0 : Nat → FieldType), classes[ci]? = some (C, T, N) ∧ (∀ k, k < N → parseFieldDescriptor (T k).2.2.1 = some (t0 k)) ∧ (∀ a, a < N → ∀ b, b < N → a ≠ b → (T a).2.1 ≠ (T b).2.1) ∧ (T k).2.2.2 = true ∧ parseFieldDescriptor (T k).2.2.1 = some ty ∧ (T k).1 = own
theorem xj_putF (C : xC p s m args meth c A D nL tys cc own) {index ci k a : Nat} {ty : FieldType} (F : xF own index ci k) (G : xFF own ci k ty) (hin : meth.name = "<init>") (hD : va_D A ws) (q0 : Nat) {fs : List Value} {v : Value} {ws' : va_W} (he : ws[q0]? = some (a, .inr (ci, fs))) (hn : narrow ty v = v) (hfit : fits ty v = true) (hl9 : k < fs.length) (hdg : decode cc pc = .ok (.putfield index, 3)) (hws : ws.set q0 (a, .inr (ci, fs.set k v)) = ws') (kk : va_D A ws' → xJ p l e R s m args below meth c cells slots Q A D nL ws' lv (pc + 3) rest) : xJ p l e R s m args below meth c cells slots Q A D nL ws lv pc (v :: .ref a :: rest) := by
  intro H locs ls hP hS hl
  obtain ⟨C9, T9, N9, hc, hin9, hk, hlk⟩ := F
  obtain ⟨C8, T8, N8, t0, hc8, ht8, hn8, hf8, hp8, hd8⟩ := G
  rw [hc] at hc8
  cases hc8
  refine va_putF (D := D) (ci := ci) (C := C9) (T := T9) (N := N9) C.ex C.by C.ts hin9 t0 ht8 hn8 C.ow C.K hP hD hS q0 he hc k hk (C.ts _ hlk) (fun _ h9 => h9) hf8 hin hd8 hp8 hn hfit hl9 hdg (fun H1 locs1 hP1 hD1 hS1 => ?_)
  rw [hws] at hP1 hD1
  exact kk hD1 H1 locs1 ls hP1 hS1 hl
theorem xj_putD (C : xC p s m args meth c A D nL tys cc own) {index ci k a : Nat} {ty : FieldType} (F : xF own index ci k) (G : xFW ci k ty) (hD : va_D A ws) (q0 : Nat) {fs : List Value} {v : Value} {ws' : va_W} (he : ws[q0]? = some (a, .inr (ci, fs))) (hn : narrow ty v = v) (hfit : fits ty v = true) (hl9 : k < fs.length) (hdg : decode cc pc = .ok (.putfield index, 3)) (hws : ws.set q0 (a, .inr (ci, fs.set k v)) = ws') (kk : va_D A ws' → xJ p l e R s m args below meth c cells slots Q A D nL ws' lv (pc + 3) rest) : xJ p l e R s m args below meth c cells slots Q A D nL ws lv pc (v :: .ref a :: rest) :=
  xj_put C F G hD q0 he hn hfit hl9 hdg hws (kk (by rw [← hws]; exact hD.set he))
/-- what the tables say of a class that is made -/
def xNC (own : String) (index ci N : Nat) (ty : Nat → FieldType) : Prop := ∃ (C : String) (T : u_T), classes[ci]? = some (C, T, N) ∧ (∀ w ∈ u_ws C T N, w ∈ BIG) ∧ (∀ k, k < N → parseFieldDescriptor (T k).2.2.1 = some (ty k)) ∧ Cond.classLink own index C ∈ BIG ∧ Cond.instantiable C N ∈ BIG ∧ Cond.initialized C ∈ BIG
theorem xj_new (C : xC p s m args meth c A D nL tys cc own) (hD : va_D A ws) {index ci N : Nat} {ty : Nat → FieldType} (F : xNC own index ci N ty) {fs : List Value} (hfs : ∀ j, j < N → defaultValue (ty j) = vp_V fs j) (hc : cells + 1 ≤ R.cells) (hs : slots + N ≤ R.slots) (hdg : decode cc pc = .ok (.new index, 3))
    (k : ∀ q : Nat, va_D A (ws ++ [(q, .inr (ci, fs))]) → xJ p l e R s m args below meth c (cells + 1) (slots + N) Q A D nL (ws ++ [(q, .inr (ci, fs))]) lv (pc + 3) (.ref q :: rest)) : xJ p l e R s m args below meth c cells slots Q A D nL ws lv pc rest := by
  intro H locs ls hP hS hl
  obtain ⟨C9, T9, hc9, hin, hty, h1, h2, h3⟩ := F
  exact va_new (ci := ci) (fs := fs) (C := C9) (T := T9) (N := N) C.ex C.by C.ts hin ty hty C.ow (C.ts _ h1) (C.ts _ h2) (C.ts _ h3) C.K hP hD hS C.fA hc9 hfs hc hs hdg (fun q H1 hP1 hD1 hS1 => k q hD1 H1 locs ls hP1 hS1 hl)
/-- the end of a constructor -/
theorem xj_cret {L0 : List Nat} {sz : Nat} {wf : (Nat → Nat) → va_W} (C : xC p s m args meth c (xA L0 sz) D nL tys cc own) (hr : meth.sig.returnType = none) (qa : Nat → Nat) (hw : ws = wf qa) (hD : va_D (xA L0 sz) ws) (hdg : decode cc pc = .ok (.return_, 1)) : xJ p l e R s m args below meth c cells slots (MQ below (va_Qv (fun _ : Nat → Nat => True) (fun qa t => va_P D classes (wf qa) t.heap ∧ va_D (xA L0 sz) (wf qa)) (xA L0 sz)) args s cells slots (xA L0 sz)) (xA L0 sz) D nL ws lv pc [] := by
  subst hw
  exact fun H locs ls hP hS hl => W.vret C.ex C.by hr (fun t ht hW => ⟨⟨qa, rfl, trivial, (show va_P D classes (wf qa) t.heap by rw [ht]; exact hP), hD⟩, hS.F ht⟩) hS.2.2 hdg C.lk
def xII (own : String) (index : Nat) (y : MethodName) : Prop := y.name = "<init>" ∧ Cond.instanceMethod y ∈ BIG ∧ Cond.methodLink own index y ∈ BIG
def xIIN (own : String) (index : Nat) (y : MethodName) : Prop := y.name = "<init>" ∧ Cond.instanceMethod y ∈ BIG ∧ ∃ host : String, Cond.methodLinkNest own index y host ∈ NESTW
theorem xj_callC {tysC : List (ClassId × FieldType)} (C : xC p s m args meth c A D nL tys cc own) {w0 : va_W} {wf : (Nat → Nat) → va_W} (hD : va_D A (wr ++ w0)) {y : MethodName} {b : ByteArray} {n np index mc ms : Nat} {rm : Room} {a : Nat} {As : List Value} (hM : xMc l y b n rm D tysC (.ref a :: As) w0 wf mc ms) (hsub : ∃ is : List Nat, is.filterMap (fun i => tys[i]?) = tysC) (hY : xY y b n none np) (hI : xII own index y) (hR : rm.frames + 1 ≤ R.frames ∧ 8 + (n + 11) + rm.locals ≤ R.locals) (hrm : rm.cells = mc ∧ rm.slots = ms) (hnp : As.length = np) (hs : st0 = As.reverse ++ .ref a :: rest) (hw : (rest.map fun v => v.category).sum ≤ 8) (hdg : decode cc pc = .ok (.invokespecial index, 3)) (hRc : cells + mc ≤ R.cells) (hRs : slots + ms ≤ R.slots)
    (k : ∀ qa : Nat → Nat, va_D A (wr ++ wf qa) → xJ p l e R s m args below meth c (cells + mc) (slots + ms) Q A D nL (wr ++ wf qa) lv (pc + 3) rest) : xJ p l e R s m args below meth c cells slots Q A D nL (wr ++ w0) lv pc st0 := by
  intro H locs ls hP hS hl
  have hA : ∀ q, q ∈ w0.map (·.1) → A q := fun q hq => by
    obtain ⟨z, hz, rfl⟩ := List.mem_map.mp hq
    obtain ⟨i, hi⟩ := List.getElem?_of_mem hz
    exact (va_D_right hD).2 i z hi
  have hAA := xFree C hS hA
  refine va_callv (va_runI (As := As) (rest := rest) C.1 (hM H.size) ⟨xB C hY hI.2.2 hrm.1 hrm.2 hR, hI.1, C.ts _ hI.2.1⟩ ⟨fun v U g mk q => ?_, fun U hU hW => ⟨rfl, by rw [hU], by rw [hU]; exact va_P_right hP, ⟨(va_D_right hD).1, fun _ _ _ => trivial⟩, by obtain ⟨is, his⟩ := hsub; exact xK.moved hW ⟨C.K.sub is his, C.nw⟩⟩⟩ rfl hnp hl.1 hs (lv_room hw) hdg ⟨hRc, hRs⟩) hS (fun q _ h => hAA q h) hAA (fun qa t H1 locs1 ht hvm hw2 hB hz1 hk1 hS1 => ?_)
  · obtain ⟨q0, q1, qP, qD, qK⟩ := q
    exact ⟨q0, q1, qP, qD, xK.blind (s := U) (U := U.calling g mk v) rfl qK⟩
  · obtain ⟨hP1, hD1⟩ := hB
    rw [ht] at hP1
    have hlt : ∀ (i : Nat) (z : Nat × va_E), wr[i]? = some z → z.1 < H.size := fun i z hz => va_at.lt (va_P_left hP i z hz)
    have hout : ∀ (i : Nat) (z : Nat × va_E), wr[i]? = some z → ¬ xA (w0.map (·.1)) H.size z.1 := fun i z hz h => by
      rcases h with h | h
      · obtain ⟨w, hw9, e9⟩ := List.mem_map.mp h
        obtain ⟨j, hj⟩ := List.getElem?_of_mem hw9
        exact va_D_cross hD hz hj e9.symm
      · exact absurd (hlt i z hz) (Nat.not_lt.mpr h)
    have hPr : va_P D classes wr H1 := (va_P_left hP).kept (fun i z hz => hk1 z.1 (hlt i z hz) (hout i z hz))
    refine k qa ((va_D_left hD).app (hD1.weaken (fun _ _ _ h => hAA _ h)) (fun i j u v hi hj e9 => hout i u hi (by rw [e9]; exact hD1.2 j v hj))) H1 locs1 ls (hPr.app hP1) hS1 hl
theorem xj_callCN {tysC : List (ClassId × FieldType)} (C : xC p s m args meth c A D nL tys cc own) {w0 : va_W} {wf : (Nat → Nat) → va_W} (hD : va_D A (wr ++ w0)) {y : MethodName} {b : ByteArray} {n np index mc ms : Nat} {rm : Room} {a : Nat} {As : List Value} (hM : xMc l y b n rm D tysC (.ref a :: As) w0 wf mc ms) (hsub : ∃ is : List Nat, is.filterMap (fun i => tys[i]?) = tysC) (hY : xY y b n none np) (hI : xIIN own index y) (hR : rm.frames + 1 ≤ R.frames ∧ 8 + (n + 11) + rm.locals ≤ R.locals) (hrm : rm.cells = mc ∧ rm.slots = ms) (hnp : As.length = np) (hs : st0 = As.reverse ++ .ref a :: rest) (hw : (rest.map fun v => v.category).sum ≤ 8) (hdg : decode cc pc = .ok (.invokespecial index, 3)) (hRc : cells + mc ≤ R.cells) (hRs : slots + ms ≤ R.slots)
    (k : ∀ qa : Nat → Nat, va_D A (wr ++ wf qa) → xJ p l e R s m args below meth c (cells + mc) (slots + ms) Q A D nL (wr ++ wf qa) lv (pc + 3) rest) : xJ p l e R s m args below meth c cells slots Q A D nL (wr ++ w0) lv pc st0 := by
  obtain ⟨hI1, hI2, host, hI3⟩ := hI
  intro H locs ls hP hS hl
  have hA : ∀ q, q ∈ w0.map (·.1) → A q := fun q hq => by
    obtain ⟨z, hz, rfl⟩ := List.mem_map.mp hq
    obtain ⟨i, hi⟩ := List.getElem?_of_mem hz
    exact (va_D_right hD).2 i z hi
  have hAA := xFree C hS hA
  refine va_callv (va_runIN (As := As) (rest := rest) C.1 (hM H.size) ⟨va_cnB (Ts := BIG) (ws' := BIG) np C.ts (xGood hY) rfl hrm.1 hrm.2 (C.nw _ hI3) (C.ts _ hY.2.1) hY.2.2 hR, hI1, C.ts _ hI2⟩ ⟨fun v U g mk q => ?_, fun U hU hW => ⟨rfl, by rw [hU], by rw [hU]; exact va_P_right hP, ⟨(va_D_right hD).1, fun _ _ _ => trivial⟩, by obtain ⟨is, his⟩ := hsub; exact xK.moved hW ⟨C.K.sub is his, C.nw⟩⟩⟩ rfl hnp hl.1 hs (lv_room hw) hdg ⟨hRc, hRs⟩) hS (fun q _ h => hAA q h) hAA (fun qa t H1 locs1 ht hvm hw2 hB hz1 hk1 hS1 => ?_)
  · obtain ⟨q0, q1, qP, qD, qK⟩ := q
    exact ⟨q0, q1, qP, qD, xK.blind (s := U) (U := U.calling g mk v) rfl qK⟩
  · obtain ⟨hP1, hD1⟩ := hB
    rw [ht] at hP1
    have hlt : ∀ (i : Nat) (z : Nat × va_E), wr[i]? = some z → z.1 < H.size := fun i z hz => va_at.lt (va_P_left hP i z hz)
    have hout : ∀ (i : Nat) (z : Nat × va_E), wr[i]? = some z → ¬ xA (w0.map (·.1)) H.size z.1 := fun i z hz h => by
      rcases h with h | h
      · obtain ⟨w, hw9, e9⟩ := List.mem_map.mp h
        obtain ⟨j, hj⟩ := List.getElem?_of_mem hw9
        exact va_D_cross hD hz hj e9.symm
      · exact absurd (hlt i z hz) (Nat.not_lt.mpr h)
    have hPr : va_P D classes wr H1 := (va_P_left hP).kept (fun i z hz => hk1 z.1 (hlt i z hz) (hout i z hz))
    refine k qa ((va_D_left hD).app (hD1.weaken (fun _ _ _ h => hAA _ h)) (fun i j u v hi hj e9 => hout i u hi (by rw [e9]; exact hD1.2 j v hj))) H1 locs1 ls (hPr.app hP1) hS1 hl
end XN
end
