section
-- ===== PART A: goes FIRST, ahead of the names: the tables' words, and 'selects' of the private methods out of them =====
/-- a private method of a class that the tables say can be made, by its rows of tables_1 -/
def lw_okq (q : MethodName × Nat) : Prop := (q.1.cls ≠ "java/lang/invoke/MethodHandle" ∧ q.1.cls ≠ "java/lang/invoke/VarHandle") ∧ Cond.instantiable q.1.cls q.2 ∈ tables_1 ∧ Cond.privateMethod q.1 ∈ tables_1 ∧ Cond.instanceMethod q.1 ∈ tables_1
theorem lw_p0 : lw_okq (⟨"LockRuns$Planner", "tryRuns", "(IIIIII)V"⟩, 8) := ⟨⟨by decide +kernel, by decide +kernel⟩, List.mem_of_getElem? (i := 107) (by decide +kernel), List.mem_of_getElem? (i := 213) (by decide +kernel), List.mem_of_getElem? (i := 214) (by decide +kernel)⟩
theorem lw_p1 : lw_okq (⟨"LockRuns$Planner", "offerTrial", "(I)V"⟩, 8) := ⟨⟨by decide +kernel, by decide +kernel⟩, List.mem_of_getElem? (i := 107) (by decide +kernel), List.mem_of_getElem? (i := 221) (by decide +kernel), List.mem_of_getElem? (i := 222) (by decide +kernel)⟩
theorem lw_p2 : lw_okq (⟨"LockRuns$Planner", "overtaken", "(LLockRuns$Timetable;I)I"⟩, 8) := ⟨⟨by decide +kernel, by decide +kernel⟩, List.mem_of_getElem? (i := 107) (by decide +kernel), List.mem_of_getElem? (i := 229) (by decide +kernel), List.mem_of_getElem? (i := 230) (by decide +kernel)⟩
theorem lw_p3 : lw_okq (⟨"LockRuns$Timetable", "differs", "(LLockRuns$Timetable;I)Z"⟩, 4) := ⟨⟨by decide +kernel, by decide +kernel⟩, List.mem_of_getElem? (i := 113) (by decide +kernel), List.mem_of_getElem? (i := 256) (by decide +kernel), List.mem_of_getElem? (i := 257) (by decide +kernel)⟩
theorem lw_p4 : lw_okq (⟨"LockRuns$Planner", "canRun", "(II)Z"⟩, 8) := ⟨⟨by decide +kernel, by decide +kernel⟩, List.mem_of_getElem? (i := 107) (by decide +kernel), List.mem_of_getElem? (i := 275) (by decide +kernel), List.mem_of_getElem? (i := 276) (by decide +kernel)⟩
theorem lw_p5 : lw_okq (⟨"LockRuns$Berths", "layFrom", "(IIII)Z"⟩, 6) := ⟨⟨by decide +kernel, by decide +kernel⟩, List.mem_of_getElem? (i := 82) (by decide +kernel), List.mem_of_getElem? (i := 288) (by decide +kernel), List.mem_of_getElem? (i := 289) (by decide +kernel)⟩
theorem lw_p6 : lw_okq (⟨"LockRuns$Chambers", "pastSpans", "(II)I"⟩, 8) := ⟨⟨by decide +kernel, by decide +kernel⟩, List.mem_of_getElem? (i := 25) (by decide +kernel), List.mem_of_getElem? (i := 329) (by decide +kernel), List.mem_of_getElem? (i := 330) (by decide +kernel)⟩
theorem lw_p7 : lw_okq (⟨"LockRuns", "runsOf", "(I)I"⟩, 4) := ⟨⟨by decide +kernel, by decide +kernel⟩, List.mem_of_getElem? (i := 17) (by decide +kernel), List.mem_of_getElem? (i := 371) (by decide +kernel), List.mem_of_getElem? (i := 372) (by decide +kernel)⟩
theorem lw_p8 : lw_okq (⟨"java/lang/Throwable", "fillInStackTrace", "(I)Ljava/lang/Throwable;"⟩, 6) := ⟨⟨by decide +kernel, by decide +kernel⟩, List.mem_of_getElem? (i := 435) (by decide +kernel), List.mem_of_getElem? (i := 433) (by decide +kernel), List.mem_of_getElem? (i := 434) (by decide +kernel)⟩
theorem lw_p9 : lw_okq (⟨"LockRuns$Planner", "layRunOf", "(I)Z"⟩, 8) := ⟨⟨by decide +kernel, by decide +kernel⟩, List.mem_of_getElem? (i := 107) (by decide +kernel), List.mem_of_getElem? (i := 539) (by decide +kernel), List.mem_of_getElem? (i := 540) (by decide +kernel)⟩
theorem lw_p10 : lw_okq (⟨"LockRunsModel", "isChamber", "(I)Z"⟩, 25) := ⟨⟨by decide +kernel, by decide +kernel⟩, List.mem_of_getElem? (i := 636) (by decide +kernel), List.mem_of_getElem? (i := 738) (by decide +kernel), List.mem_of_getElem? (i := 739) (by decide +kernel)⟩
theorem lw_p11 : lw_okq (⟨"LockRunsModel", "lay", "(II)Z"⟩, 25) := ⟨⟨by decide +kernel, by decide +kernel⟩, List.mem_of_getElem? (i := 636) (by decide +kernel), List.mem_of_getElem? (i := 750) (by decide +kernel), List.mem_of_getElem? (i := 751) (by decide +kernel)⟩
theorem lw_p12 : lw_okq (⟨"LockRunsModel", "mayLie", "(IIII)Z"⟩, 25) := ⟨⟨by decide +kernel, by decide +kernel⟩, List.mem_of_getElem? (i := 636) (by decide +kernel), List.mem_of_getElem? (i := 754) (by decide +kernel), List.mem_of_getElem? (i := 755) (by decide +kernel)⟩
theorem lw_p13 : lw_okq (⟨"LockRunsModel", "search", "()I"⟩, 25) := ⟨⟨by decide +kernel, by decide +kernel⟩, List.mem_of_getElem? (i := 636) (by decide +kernel), List.mem_of_getElem? (i := 762) (by decide +kernel), List.mem_of_getElem? (i := 763) (by decide +kernel)⟩
theorem lw_p14 : lw_okq (⟨"LockRunsModel", "weighed", "()I"⟩, 25) := ⟨⟨by decide +kernel, by decide +kernel⟩, List.mem_of_getElem? (i := 636) (by decide +kernel), List.mem_of_getElem? (i := 767) (by decide +kernel), List.mem_of_getElem? (i := 768) (by decide +kernel)⟩
theorem lw_p15 : lw_okq (⟨"LockRunsModel", "times", "(I)Z"⟩, 25) := ⟨⟨by decide +kernel, by decide +kernel⟩, List.mem_of_getElem? (i := 636) (by decide +kernel), List.mem_of_getElem? (i := 771) (by decide +kernel), List.mem_of_getElem? (i := 772) (by decide +kernel)⟩
def lw_privs_1 : List (MethodName × Nat) := [(⟨"LockRuns$Planner", "tryRuns", "(IIIIII)V"⟩, 8), (⟨"LockRuns$Planner", "offerTrial", "(I)V"⟩, 8), (⟨"LockRuns$Planner", "overtaken", "(LLockRuns$Timetable;I)I"⟩, 8), (⟨"LockRuns$Timetable", "differs", "(LLockRuns$Timetable;I)Z"⟩, 4), (⟨"LockRuns$Planner", "canRun", "(II)Z"⟩, 8), (⟨"LockRuns$Berths", "layFrom", "(IIII)Z"⟩, 6), (⟨"LockRuns$Chambers", "pastSpans", "(II)I"⟩, 8), (⟨"LockRuns", "runsOf", "(I)I"⟩, 4), (⟨"java/lang/Throwable", "fillInStackTrace", "(I)Ljava/lang/Throwable;"⟩, 6), (⟨"LockRuns$Planner", "layRunOf", "(I)Z"⟩, 8), (⟨"LockRunsModel", "isChamber", "(I)Z"⟩, 25), (⟨"LockRunsModel", "lay", "(II)Z"⟩, 25), (⟨"LockRunsModel", "mayLie", "(IIII)Z"⟩, 25), (⟨"LockRunsModel", "search", "()I"⟩, 25), (⟨"LockRunsModel", "weighed", "()I"⟩, 25), (⟨"LockRunsModel", "times", "(I)Z"⟩, 25)]
theorem lw_r1 : ∀ q ∈ lw_privs_1, lw_okq q := List.forall_mem_cons.mpr ⟨lw_p0, List.forall_mem_cons.mpr ⟨lw_p1, List.forall_mem_cons.mpr ⟨lw_p2, List.forall_mem_cons.mpr ⟨lw_p3, List.forall_mem_cons.mpr ⟨lw_p4, List.forall_mem_cons.mpr ⟨lw_p5, List.forall_mem_cons.mpr ⟨lw_p6, List.forall_mem_cons.mpr ⟨lw_p7, List.forall_mem_cons.mpr ⟨lw_p8, List.forall_mem_cons.mpr ⟨lw_p9, List.forall_mem_cons.mpr ⟨lw_p10, List.forall_mem_cons.mpr ⟨lw_p11, List.forall_mem_cons.mpr ⟨lw_p12, List.forall_mem_cons.mpr ⟨lw_p13, List.forall_mem_cons.mpr ⟨lw_p14, List.forall_mem_cons.mpr ⟨lw_p15, fun _ h => absurd h List.not_mem_nil⟩⟩⟩⟩⟩⟩⟩⟩⟩⟩⟩⟩⟩⟩⟩⟩
theorem lw_p16 : lw_okq (⟨"LockRunsModel", "setOf", "(I)I"⟩, 25) := ⟨⟨by decide +kernel, by decide +kernel⟩, List.mem_of_getElem? (i := 636) (by decide +kernel), List.mem_of_getElem? (i := 775) (by decide +kernel), List.mem_of_getElem? (i := 776) (by decide +kernel)⟩
theorem lw_p17 : lw_okq (⟨"LockRunsModel", "isOneWay", "(I)Z"⟩, 25) := ⟨⟨by decide +kernel, by decide +kernel⟩, List.mem_of_getElem? (i := 636) (by decide +kernel), List.mem_of_getElem? (i := 779) (by decide +kernel), List.mem_of_getElem? (i := 780) (by decide +kernel)⟩
theorem lw_p18 : lw_okq (⟨"LockRunsModel", "open", "(II)I"⟩, 25) := ⟨⟨by decide +kernel, by decide +kernel⟩, List.mem_of_getElem? (i := 636) (by decide +kernel), List.mem_of_getElem? (i := 786) (by decide +kernel), List.mem_of_getElem? (i := 787) (by decide +kernel)⟩
theorem lw_p19 : lw_okq (⟨"LockRunsModel", "overtaken", "(IZ)I"⟩, 25) := ⟨⟨by decide +kernel, by decide +kernel⟩, List.mem_of_getElem? (i := 636) (by decide +kernel), List.mem_of_getElem? (i := 790) (by decide +kernel), List.mem_of_getElem? (i := 791) (by decide +kernel)⟩
theorem lw_p20 : lw_okq (⟨"LockRunsModel", "isAhead", "()Z"⟩, 25) := ⟨⟨by decide +kernel, by decide +kernel⟩, List.mem_of_getElem? (i := 636) (by decide +kernel), List.mem_of_getElem? (i := 794) (by decide +kernel), List.mem_of_getElem? (i := 795) (by decide +kernel)⟩
theorem lw_p21 : lw_okq (⟨"LockRunsModel", "isShip", "(I)Z"⟩, 25) := ⟨⟨by decide +kernel, by decide +kernel⟩, List.mem_of_getElem? (i := 636) (by decide +kernel), List.mem_of_getElem? (i := 802) (by decide +kernel), List.mem_of_getElem? (i := 803) (by decide +kernel)⟩
theorem lw_p22 : lw_okq (⟨"LockRunsModel", "shipsOf", "(I)I"⟩, 25) := ⟨⟨by decide +kernel, by decide +kernel⟩, List.mem_of_getElem? (i := 636) (by decide +kernel), List.mem_of_getElem? (i := 806) (by decide +kernel), List.mem_of_getElem? (i := 807) (by decide +kernel)⟩
def lw_privs_2 : List (MethodName × Nat) := [(⟨"LockRunsModel", "setOf", "(I)I"⟩, 25), (⟨"LockRunsModel", "isOneWay", "(I)Z"⟩, 25), (⟨"LockRunsModel", "open", "(II)I"⟩, 25), (⟨"LockRunsModel", "overtaken", "(IZ)I"⟩, 25), (⟨"LockRunsModel", "isAhead", "()Z"⟩, 25), (⟨"LockRunsModel", "isShip", "(I)Z"⟩, 25), (⟨"LockRunsModel", "shipsOf", "(I)I"⟩, 25)]
theorem lw_r2 : ∀ q ∈ lw_privs_2, lw_okq q := List.forall_mem_cons.mpr ⟨lw_p16, List.forall_mem_cons.mpr ⟨lw_p17, List.forall_mem_cons.mpr ⟨lw_p18, List.forall_mem_cons.mpr ⟨lw_p19, List.forall_mem_cons.mpr ⟨lw_p20, List.forall_mem_cons.mpr ⟨lw_p21, List.forall_mem_cons.mpr ⟨lw_p22, fun _ h => absurd h List.not_mem_nil⟩⟩⟩⟩⟩⟩⟩
def lw_privs : List (MethodName × Nat) := lw_privs_1 ++ (lw_privs_2)
def lw_tbl : List Cond := k2_sels lw_privs ++ tables_1
theorem lw_privs_ok : ∀ q ∈ lw_privs, lw_okq q := by
  show ∀ q ∈ lw_privs_1 ++ (lw_privs_2), lw_okq q
  exact List.forall_mem_append.mpr ⟨lw_r1, lw_r2⟩

/-- the words that every contract of mine takes: those of the tables that stay true as the tables warm -/
def BIG : List Cond := lw_tbl.filter goodWord
theorem BIG_good : GoodIn BIG BIG := fun w hw => ⟨hw, by
  have h := (List.mem_filter.mp hw).2
  cases w <;> first | exact Or.inl h | exact Or.inr ⟨_, rfl⟩⟩
theorem BIG_at {w : Cond} (i : Nat) (h : tables_1[i]? = some w) (hg : goodWord w = true) : w ∈ BIG := List.mem_filter.mpr ⟨List.mem_append_right _ (List.mem_of_getElem? h), hg⟩
theorem BIG_sel {q : MethodName × Nat} (i : Nat) (h : lw_privs[i]? = some q) (hg : goodWord (Cond.selects q.1.cls q.1 q.1) = true) : Cond.selects q.1.cls q.1 q.1 ∈ BIG := List.mem_filter.mpr ⟨List.mem_append_left _ (List.mem_map.mpr ⟨q, List.mem_of_getElem? h, rfl⟩), hg⟩
def NESTW : List Cond := [.methodLinkNest "LockRuns" 11 ⟨"LockRuns$Chambers", "<init>", "()V"⟩ "LockRuns", .methodLinkNest "LockRuns" 18 ⟨"LockRuns$Fleet", "<init>", "()V"⟩ "LockRuns", .methodLinkNest "LockRuns$Planner" 11 ⟨"LockRuns$Timetable", "<init>", "()V"⟩ "LockRuns", .methodLinkNest "LockRuns$Timetable" 25 ⟨"LockRuns", "holds", "(II)Z"⟩ "LockRuns", .methodLinkNest "LockRuns$Fleet" 35 ⟨"LockRuns", "holds", "(II)Z"⟩ "LockRuns", .methodLinkNest "LockRuns$Berths" 37 ⟨"LockRuns", "holds", "(II)Z"⟩ "LockRuns"]
theorem NESTW_tab : ∀ w ∈ NESTW, w.onTables = true := by decide +kernel
theorem NESTW_is : ∀ w ∈ NESTW, ∃ (a : String) (i : Nat) (x : MethodName) (h : String), w = .methodLinkNest a i x h := by
  intro w hw
  simp only [NESTW, List.mem_cons, List.not_mem_nil, or_false] at hw
  rcases hw with rfl | rfl | rfl | rfl | rfl | rfl <;> exact ⟨_, _, _, _, rfl⟩
theorem NESTW_warm (w : Cond) (hw : w ∈ NESTW) {s U : State} (hW : s.WarmedH U.vm) (h : va_Nw w s) : va_Nw w U := by
  obtain ⟨a, i, x, h9, rfl⟩ := NESTW_is w hw
  exact va_Nw.warmM hW h
def R_LR : String := "LockRuns"
def F_LR : u_T := fun k => match k with
  | 0 => ("LockRuns", "chambers", "LLockRuns$Chambers;", true)
  | 1 => ("LockRuns", "fleet", "LLockRuns$Fleet;", true)
  | 2 => ("LockRuns", "berths", "LLockRuns$Berths;", true)
  | _ => ("LockRuns", "planner", "LLockRuns$Planner;", true)
def t_LR : Nat → FieldType := fun k => match k with
  | 0 => (.object "LockRuns$Chambers")
  | 1 => (.object "LockRuns$Fleet")
  | 2 => (.object "LockRuns$Berths")
  | _ => (.object "LockRuns$Planner")
theorem n_LR : ∀ a, a < 4 → ∀ b, b < 4 → a ≠ b → (F_LR a).2.1 ≠ (F_LR b).2.1 := by decide +kernel
theorem t_LR_ok : ∀ k, k < 4 → parseFieldDescriptor (F_LR k).2.2.1 = some (t_LR k) := by decide +kernel
theorem i_LR : ∀ w ∈ u_ws R_LR F_LR 4, w ∈ BIG := by
  intro w hw
  obtain ⟨j, hj, rfl⟩ := List.mem_map.mp hw
  have hj := List.mem_range.mp hj
  match j, hj with
  | 0, _ => exact BIG_at 160 (by decide +kernel) (by decide +kernel)
  | 1, _ => exact BIG_at 162 (by decide +kernel) (by decide +kernel)
  | 2, _ => exact BIG_at 164 (by decide +kernel) (by decide +kernel)
  | 3, _ => exact BIG_at 166 (by decide +kernel) (by decide +kernel)
  | j + 4, h => exact absurd h (by omega)
def R_Ch : String := "LockRuns$Chambers"
def F_Ch : u_T := fun k => match k with
  | 0 => ("LockRuns$Chambers", "lengths", "[I", true)
  | 1 => ("LockRuns$Chambers", "widths", "[I", true)
  | 2 => ("LockRuns$Chambers", "fills", "[I", true)
  | 3 => ("LockRuns$Chambers", "size", "I", false)
  | 4 => ("LockRuns$Chambers", "spanChambers", "[I", true)
  | 5 => ("LockRuns$Chambers", "spanBegins", "[I", true)
  | 6 => ("LockRuns$Chambers", "spanEnds", "[I", true)
  | _ => ("LockRuns$Chambers", "spans", "I", false)
def t_Ch : Nat → FieldType := fun k => match k with
  | 0 => (.array .int)
  | 1 => (.array .int)
  | 2 => (.array .int)
  | 3 => .int
  | 4 => (.array .int)
  | 5 => (.array .int)
  | 6 => (.array .int)
  | _ => .int
theorem n_Ch : ∀ a, a < 8 → ∀ b, b < 8 → a ≠ b → (F_Ch a).2.1 ≠ (F_Ch b).2.1 := by decide +kernel
theorem t_Ch_ok : ∀ k, k < 8 → parseFieldDescriptor (F_Ch k).2.2.1 = some (t_Ch k) := by decide +kernel
theorem i_Ch : ∀ w ∈ u_ws R_Ch F_Ch 8, w ∈ BIG := by
  intro w hw
  obtain ⟨j, hj, rfl⟩ := List.mem_map.mp hw
  have hj := List.mem_range.mp hj
  match j, hj with
  | 0, _ => exact BIG_at 38 (by decide +kernel) (by decide +kernel)
  | 1, _ => exact BIG_at 40 (by decide +kernel) (by decide +kernel)
  | 2, _ => exact BIG_at 42 (by decide +kernel) (by decide +kernel)
  | 3, _ => exact BIG_at 44 (by decide +kernel) (by decide +kernel)
  | 4, _ => exact BIG_at 46 (by decide +kernel) (by decide +kernel)
  | 5, _ => exact BIG_at 48 (by decide +kernel) (by decide +kernel)
  | 6, _ => exact BIG_at 50 (by decide +kernel) (by decide +kernel)
  | 7, _ => exact BIG_at 52 (by decide +kernel) (by decide +kernel)
  | j + 8, h => exact absurd h (by omega)
def R_Fl : String := "LockRuns$Fleet"
def F_Fl : u_T := fun k => match k with
  | 0 => ("LockRuns$Fleet", "lengths", "[I", true)
  | 1 => ("LockRuns$Fleet", "widths", "[I", true)
  | 2 => ("LockRuns$Fleet", "arrivals", "[I", true)
  | 3 => ("LockRuns$Fleet", "directions", "[I", true)
  | 4 => ("LockRuns$Fleet", "sides", "[I", true)
  | _ => ("LockRuns$Fleet", "size", "I", false)
def t_Fl : Nat → FieldType := fun k => match k with
  | 0 => (.array .int)
  | 1 => (.array .int)
  | 2 => (.array .int)
  | 3 => (.array .int)
  | 4 => (.array .int)
  | _ => .int
theorem n_Fl : ∀ a, a < 6 → ∀ b, b < 6 → a ≠ b → (F_Fl a).2.1 ≠ (F_Fl b).2.1 := by decide +kernel
theorem t_Fl_ok : ∀ k, k < 6 → parseFieldDescriptor (F_Fl k).2.2.1 = some (t_Fl k) := by decide +kernel
theorem i_Fl : ∀ w ∈ u_ws R_Fl F_Fl 6, w ∈ BIG := by
  intro w hw
  obtain ⟨j, hj, rfl⟩ := List.mem_map.mp hw
  have hj := List.mem_range.mp hj
  match j, hj with
  | 0, _ => exact BIG_at 68 (by decide +kernel) (by decide +kernel)
  | 1, _ => exact BIG_at 70 (by decide +kernel) (by decide +kernel)
  | 2, _ => exact BIG_at 72 (by decide +kernel) (by decide +kernel)
  | 3, _ => exact BIG_at 74 (by decide +kernel) (by decide +kernel)
  | 4, _ => exact BIG_at 76 (by decide +kernel) (by decide +kernel)
  | 5, _ => exact BIG_at 78 (by decide +kernel) (by decide +kernel)
  | j + 6, h => exact absurd h (by omega)
def R_Be : String := "LockRuns$Berths"
def F_Be : u_T := fun k => match k with
  | 0 => ("LockRuns$Berths", "chambers", "LLockRuns$Chambers;", true)
  | 1 => ("LockRuns$Berths", "fleet", "LLockRuns$Fleet;", true)
  | 2 => ("LockRuns$Berths", "xs", "[I", true)
  | 3 => ("LockRuns$Berths", "ys", "[I", true)
  | 4 => ("LockRuns$Berths", "found", "[I", true)
  | _ => ("LockRuns$Berths", "gap", "I", false)
def t_Be : Nat → FieldType := fun k => match k with
  | 0 => (.object "LockRuns$Chambers")
  | 1 => (.object "LockRuns$Fleet")
  | 2 => (.array .int)
  | 3 => (.array .int)
  | 4 => (.array .int)
  | _ => .int
theorem n_Be : ∀ a, a < 6 → ∀ b, b < 6 → a ≠ b → (F_Be a).2.1 ≠ (F_Be b).2.1 := by decide +kernel
theorem t_Be_ok : ∀ k, k < 6 → parseFieldDescriptor (F_Be k).2.2.1 = some (t_Be k) := by decide +kernel
theorem i_Be : ∀ w ∈ u_ws R_Be F_Be 6, w ∈ BIG := by
  intro w hw
  obtain ⟨j, hj, rfl⟩ := List.mem_map.mp hw
  have hj := List.mem_range.mp hj
  match j, hj with
  | 0, _ => exact BIG_at 93 (by decide +kernel) (by decide +kernel)
  | 1, _ => exact BIG_at 95 (by decide +kernel) (by decide +kernel)
  | 2, _ => exact BIG_at 97 (by decide +kernel) (by decide +kernel)
  | 3, _ => exact BIG_at 99 (by decide +kernel) (by decide +kernel)
  | 4, _ => exact BIG_at 101 (by decide +kernel) (by decide +kernel)
  | 5, _ => exact BIG_at 103 (by decide +kernel) (by decide +kernel)
  | j + 6, h => exact absurd h (by omega)
def R_Tt : String := "LockRuns$Timetable"
def F_Tt : u_T := fun k => match k with
  | 0 => ("LockRuns$Timetable", "begins", "[I", true)
  | 1 => ("LockRuns$Timetable", "chambers", "[I", true)
  | 2 => ("LockRuns$Timetable", "runs", "[I", true)
  | _ => ("LockRuns$Timetable", "waiting", "I", false)
def t_Tt : Nat → FieldType := fun k => match k with
  | 0 => (.array .int)
  | 1 => (.array .int)
  | 2 => (.array .int)
  | _ => .int
theorem n_Tt : ∀ a, a < 4 → ∀ b, b < 4 → a ≠ b → (F_Tt a).2.1 ≠ (F_Tt b).2.1 := by decide +kernel
theorem t_Tt_ok : ∀ k, k < 4 → parseFieldDescriptor (F_Tt k).2.2.1 = some (t_Tt k) := by decide +kernel
theorem i_Tt : ∀ w ∈ u_ws R_Tt F_Tt 4, w ∈ BIG := by
  intro w hw
  obtain ⟨j, hj, rfl⟩ := List.mem_map.mp hw
  have hj := List.mem_range.mp hj
  match j, hj with
  | 0, _ => exact BIG_at 122 (by decide +kernel) (by decide +kernel)
  | 1, _ => exact BIG_at 124 (by decide +kernel) (by decide +kernel)
  | 2, _ => exact BIG_at 126 (by decide +kernel) (by decide +kernel)
  | 3, _ => exact BIG_at 128 (by decide +kernel) (by decide +kernel)
  | j + 4, h => exact absurd h (by omega)
def R_Pl : String := "LockRuns$Planner"
def F_Pl : u_T := fun k => match k with
  | 0 => ("LockRuns$Planner", "chambers", "LLockRuns$Chambers;", true)
  | 1 => ("LockRuns$Planner", "fleet", "LLockRuns$Fleet;", true)
  | 2 => ("LockRuns$Planner", "berths", "LLockRuns$Berths;", true)
  | 3 => ("LockRuns$Planner", "trial", "LLockRuns$Timetable;", true)
  | 4 => ("LockRuns$Planner", "best", "LLockRuns$Timetable;", true)
  | 5 => ("LockRuns$Planner", "previous", "LLockRuns$Timetable;", true)
  | 6 => ("LockRuns$Planner", "planned", "Z", false)
  | _ => ("LockRuns$Planner", "over", "I", false)
def t_Pl : Nat → FieldType := fun k => match k with
  | 0 => (.object "LockRuns$Chambers")
  | 1 => (.object "LockRuns$Fleet")
  | 2 => (.object "LockRuns$Berths")
  | 3 => (.object "LockRuns$Timetable")
  | 4 => (.object "LockRuns$Timetable")
  | 5 => (.object "LockRuns$Timetable")
  | 6 => .boolean
  | _ => .int
theorem n_Pl : ∀ a, a < 8 → ∀ b, b < 8 → a ≠ b → (F_Pl a).2.1 ≠ (F_Pl b).2.1 := by decide +kernel
theorem t_Pl_ok : ∀ k, k < 8 → parseFieldDescriptor (F_Pl k).2.2.1 = some (t_Pl k) := by decide +kernel
theorem i_Pl : ∀ w ∈ u_ws R_Pl F_Pl 8, w ∈ BIG := by
  intro w hw
  obtain ⟨j, hj, rfl⟩ := List.mem_map.mp hw
  have hj := List.mem_range.mp hj
  match j, hj with
  | 0, _ => exact BIG_at 139 (by decide +kernel) (by decide +kernel)
  | 1, _ => exact BIG_at 141 (by decide +kernel) (by decide +kernel)
  | 2, _ => exact BIG_at 143 (by decide +kernel) (by decide +kernel)
  | 3, _ => exact BIG_at 145 (by decide +kernel) (by decide +kernel)
  | 4, _ => exact BIG_at 147 (by decide +kernel) (by decide +kernel)
  | 5, _ => exact BIG_at 149 (by decide +kernel) (by decide +kernel)
  | 6, _ => exact BIG_at 151 (by decide +kernel) (by decide +kernel)
  | 7, _ => exact BIG_at 153 (by decide +kernel) (by decide +kernel)
  | j + 8, h => exact absurd h (by omega)
def R_Mo : String := "LockRunsModel"
def F_Mo : u_T := fun k => match k with
  | 0 => ("LockRunsModel", "thrown", "I", false)
  | 1 => ("LockRunsModel", "chambers", "I", false)
  | 2 => ("LockRunsModel", "ships", "I", false)
  | 3 => ("LockRunsModel", "spans", "I", false)
  | 4 => ("LockRunsModel", "gap", "I", false)
  | 5 => ("LockRunsModel", "over", "I", false)
  | 6 => ("LockRunsModel", "isPlan", "Z", false)
  | 7 => ("LockRunsModel", "lengthOf", "[I", true)
  | 8 => ("LockRunsModel", "widthOf", "[I", true)
  | 9 => ("LockRunsModel", "fillOf", "[I", true)
  | 10 => ("LockRunsModel", "spanChamber", "[I", true)
  | 11 => ("LockRunsModel", "spanFrom", "[I", true)
  | 12 => ("LockRunsModel", "spanTo", "[I", true)
  | 13 => ("LockRunsModel", "shipLength", "[I", true)
  | 14 => ("LockRunsModel", "shipWidth", "[I", true)
  | 15 => ("LockRunsModel", "arrives", "[I", true)
  | 16 => ("LockRunsModel", "way", "[I", true)
  | 17 => ("LockRunsModel", "side", "[I", true)
  | 18 => ("LockRunsModel", "laid", "[I", true)
  | 19 => ("LockRunsModel", "isFit", "[Z", true)
  | 20 => ("LockRunsModel", "tried", "[I", true)
  | 21 => ("LockRunsModel", "triedBegin", "[I", true)
  | 22 => ("LockRunsModel", "best", "[I", true)
  | 23 => ("LockRunsModel", "bestBegin", "[I", true)
  | _ => ("LockRunsModel", "runBegin", "[I", true)
def t_Mo : Nat → FieldType := fun k => match k with
  | 0 => .int
  | 1 => .int
  | 2 => .int
  | 3 => .int
  | 4 => .int
  | 5 => .int
  | 6 => .boolean
  | 7 => (.array .int)
  | 8 => (.array .int)
  | 9 => (.array .int)
  | 10 => (.array .int)
  | 11 => (.array .int)
  | 12 => (.array .int)
  | 13 => (.array .int)
  | 14 => (.array .int)
  | 15 => (.array .int)
  | 16 => (.array .int)
  | 17 => (.array .int)
  | 18 => (.array .int)
  | 19 => (.array .boolean)
  | 20 => (.array .int)
  | 21 => (.array .int)
  | 22 => (.array .int)
  | 23 => (.array .int)
  | _ => (.array .int)
theorem n_Mo : ∀ a, a < 25 → ∀ b, b < 25 → a ≠ b → (F_Mo a).2.1 ≠ (F_Mo b).2.1 := by decide +kernel
theorem t_Mo_ok : ∀ k, k < 25 → parseFieldDescriptor (F_Mo k).2.2.1 = some (t_Mo k) := by decide +kernel
theorem i_Mo : ∀ w ∈ u_ws R_Mo F_Mo 25, w ∈ BIG := by
  intro w hw
  obtain ⟨j, hj, rfl⟩ := List.mem_map.mp hw
  have hj := List.mem_range.mp hj
  match j, hj with
  | 0, _ => exact BIG_at 666 (by decide +kernel) (by decide +kernel)
  | 1, _ => exact BIG_at 668 (by decide +kernel) (by decide +kernel)
  | 2, _ => exact BIG_at 670 (by decide +kernel) (by decide +kernel)
  | 3, _ => exact BIG_at 672 (by decide +kernel) (by decide +kernel)
  | 4, _ => exact BIG_at 674 (by decide +kernel) (by decide +kernel)
  | 5, _ => exact BIG_at 676 (by decide +kernel) (by decide +kernel)
  | 6, _ => exact BIG_at 678 (by decide +kernel) (by decide +kernel)
  | 7, _ => exact BIG_at 680 (by decide +kernel) (by decide +kernel)
  | 8, _ => exact BIG_at 682 (by decide +kernel) (by decide +kernel)
  | 9, _ => exact BIG_at 684 (by decide +kernel) (by decide +kernel)
  | 10, _ => exact BIG_at 686 (by decide +kernel) (by decide +kernel)
  | 11, _ => exact BIG_at 688 (by decide +kernel) (by decide +kernel)
  | 12, _ => exact BIG_at 690 (by decide +kernel) (by decide +kernel)
  | 13, _ => exact BIG_at 692 (by decide +kernel) (by decide +kernel)
  | 14, _ => exact BIG_at 694 (by decide +kernel) (by decide +kernel)
  | 15, _ => exact BIG_at 696 (by decide +kernel) (by decide +kernel)
  | 16, _ => exact BIG_at 698 (by decide +kernel) (by decide +kernel)
  | 17, _ => exact BIG_at 700 (by decide +kernel) (by decide +kernel)
  | 18, _ => exact BIG_at 702 (by decide +kernel) (by decide +kernel)
  | 19, _ => exact BIG_at 704 (by decide +kernel) (by decide +kernel)
  | 20, _ => exact BIG_at 706 (by decide +kernel) (by decide +kernel)
  | 21, _ => exact BIG_at 708 (by decide +kernel) (by decide +kernel)
  | 22, _ => exact BIG_at 710 (by decide +kernel) (by decide +kernel)
  | 23, _ => exact BIG_at 712 (by decide +kernel) (by decide +kernel)
  | 24, _ => exact BIG_at 714 (by decide +kernel) (by decide +kernel)
  | j + 25, h => exact absurd h (by omega)
def R_Lw : String := "LockRunsLaw"
abbrev classes : List vw_C := [(R_LR, F_LR, 4), (R_Ch, F_Ch, 8), (R_Fl, F_Fl, 6), (R_Be, F_Be, 6), (R_Tt, F_Tt, 4), (R_Pl, F_Pl, 8), (R_Mo, F_Mo, 25)]
abbrev b_LR_init : ByteArray := prog_1_method_1_code
def y_LR_init : MethodName := ⟨R_LR, "<init>", "()V"⟩
abbrev b_LR_chamber : ByteArray := prog_1_method_2_code
def y_LR_chamber : MethodName := ⟨R_LR, "chamber", "(III)I"⟩
abbrev b_LR_ship : ByteArray := prog_1_method_3_code
def y_LR_ship : MethodName := ⟨R_LR, "ship", "(IIIII)I"⟩
abbrev b_LR_closed : ByteArray := prog_1_method_4_code
def y_LR_closed : MethodName := ⟨R_LR, "closed", "(III)Z"⟩
abbrev b_LR_rule : ByteArray := prog_1_method_5_code
def y_LR_rule : MethodName := ⟨R_LR, "rule", "(II)Z"⟩
abbrev b_LR_plan : ByteArray := prog_1_method_6_code
def y_LR_plan : MethodName := ⟨R_LR, "plan", "()I"⟩
abbrev b_LR_fits : ByteArray := prog_1_method_7_code
def y_LR_fits : MethodName := ⟨R_LR, "fits", "(II)Z"⟩
abbrev b_LR_of : ByteArray := prog_1_method_8_code
def y_LR_of : MethodName := ⟨R_LR, "of", "(II)I"⟩
abbrev b_LR_run : ByteArray := prog_1_method_9_code
def y_LR_run : MethodName := ⟨R_LR, "run", "(III)I"⟩
abbrev b_LR_late : ByteArray := prog_1_method_10_code
def y_LR_late : MethodName := ⟨R_LR, "late", "(II)I"⟩
abbrev b_LR_home : ByteArray := prog_1_method_11_code
def y_LR_home : MethodName := ⟨R_LR, "home", "(I)I"⟩
abbrev b_LR_rate : ByteArray := prog_1_method_12_code
def y_LR_rate : MethodName := ⟨R_LR, "rate", "(II)I"⟩
abbrev b_LR_count : ByteArray := prog_1_method_13_code
def y_LR_count : MethodName := ⟨R_LR, "count", "(I)I"⟩
abbrev b_LR_runsOf : ByteArray := prog_1_method_14_code
def y_LR_runsOf : MethodName := ⟨R_LR, "runsOf", "(I)I"⟩
abbrev b_LR_canMeasure : ByteArray := prog_1_method_15_code
def y_LR_canMeasure : MethodName := ⟨R_LR, "canMeasure", "(II)Z"⟩
abbrev b_LR_within : ByteArray := prog_1_method_16_code
def y_LR_within : MethodName := ⟨R_LR, "within", "(III)Z"⟩
abbrev b_LR_holds : ByteArray := prog_1_method_17_code
def y_LR_holds : MethodName := ⟨R_LR, "holds", "(II)Z"⟩
abbrev b_Ch_init : ByteArray := prog_3_method_1_code
def y_Ch_init : MethodName := ⟨R_Ch, "<init>", "()V"⟩
abbrev b_Ch_size : ByteArray := prog_3_method_2_code
def y_Ch_size : MethodName := ⟨R_Ch, "size", "()I"⟩
abbrev b_Ch_spans : ByteArray := prog_3_method_3_code
def y_Ch_spans : MethodName := ⟨R_Ch, "spans", "()I"⟩
abbrev b_Ch_has : ByteArray := prog_3_method_4_code
def y_Ch_has : MethodName := ⟨R_Ch, "has", "(I)Z"⟩
abbrev b_Ch_add : ByteArray := prog_3_method_5_code
def y_Ch_add : MethodName := ⟨R_Ch, "add", "(III)I"⟩
abbrev b_Ch_addSpan : ByteArray := prog_3_method_6_code
def y_Ch_addSpan : MethodName := ⟨R_Ch, "addSpan", "(III)Z"⟩
abbrev b_Ch_length : ByteArray := prog_3_method_7_code
def y_Ch_length : MethodName := ⟨R_Ch, "length", "(I)I"⟩
abbrev b_Ch_width : ByteArray := prog_3_method_8_code
def y_Ch_width : MethodName := ⟨R_Ch, "width", "(I)I"⟩
abbrev b_Ch_fill : ByteArray := prog_3_method_9_code
def y_Ch_fill : MethodName := ⟨R_Ch, "fill", "(I)I"⟩
abbrev b_Ch_firstOpen : ByteArray := prog_3_method_10_code
def y_Ch_firstOpen : MethodName := ⟨R_Ch, "firstOpen", "(II)I"⟩
abbrev b_Ch_pastSpans : ByteArray := prog_3_method_11_code
def y_Ch_pastSpans : MethodName := ⟨R_Ch, "pastSpans", "(II)I"⟩
abbrev b_Fl_init : ByteArray := prog_4_method_1_code
def y_Fl_init : MethodName := ⟨R_Fl, "<init>", "()V"⟩
abbrev b_Fl_size : ByteArray := prog_4_method_2_code
def y_Fl_size : MethodName := ⟨R_Fl, "size", "()I"⟩
abbrev b_Fl_has : ByteArray := prog_4_method_3_code
def y_Fl_has : MethodName := ⟨R_Fl, "has", "(I)Z"⟩
abbrev b_Fl_all : ByteArray := prog_4_method_4_code
def y_Fl_all : MethodName := ⟨R_Fl, "all", "()I"⟩
abbrev b_Fl_add : ByteArray := prog_4_method_5_code
def y_Fl_add : MethodName := ⟨R_Fl, "add", "(IIIII)I"⟩
abbrev b_Fl_length : ByteArray := prog_4_method_6_code
def y_Fl_length : MethodName := ⟨R_Fl, "length", "(I)I"⟩
abbrev b_Fl_width : ByteArray := prog_4_method_7_code
def y_Fl_width : MethodName := ⟨R_Fl, "width", "(I)I"⟩
abbrev b_Fl_side : ByteArray := prog_4_method_8_code
def y_Fl_side : MethodName := ⟨R_Fl, "side", "(I)I"⟩
abbrev b_Fl_arrival : ByteArray := prog_4_method_9_code
def y_Fl_arrival : MethodName := ⟨R_Fl, "arrival", "(I)I"⟩
abbrev b_Fl_setArrival : ByteArray := prog_4_method_10_code
def y_Fl_setArrival : MethodName := ⟨R_Fl, "setArrival", "(II)V"⟩
abbrev b_Fl_commonDirection : ByteArray := prog_4_method_11_code
def y_Fl_commonDirection : MethodName := ⟨R_Fl, "commonDirection", "(I)I"⟩
abbrev b_Fl_lastArrival : ByteArray := prog_4_method_12_code
def y_Fl_lastArrival : MethodName := ⟨R_Fl, "lastArrival", "(I)I"⟩
abbrev b_Fl_waiting : ByteArray := prog_4_method_13_code
def y_Fl_waiting : MethodName := ⟨R_Fl, "waiting", "(II)I"⟩
abbrev b_Fl_comesBehind : ByteArray := prog_4_method_14_code
def y_Fl_comesBehind : MethodName := ⟨R_Fl, "comesBehind", "(II)Z"⟩
abbrev b_Be_init : ByteArray := prog_2_method_1_code
def y_Be_init : MethodName := ⟨R_Be, "<init>", "(LLockRuns$Chambers;LLockRuns$Fleet;)V"⟩
abbrev b_Be_gap : ByteArray := prog_2_method_2_code
def y_Be_gap : MethodName := ⟨R_Be, "gap", "()I"⟩
abbrev b_Be_setGap : ByteArray := prog_2_method_3_code
def y_Be_setGap : MethodName := ⟨R_Be, "setGap", "(I)V"⟩
abbrev b_Be_x : ByteArray := prog_2_method_4_code
def y_Be_x : MethodName := ⟨R_Be, "x", "(I)I"⟩
abbrev b_Be_y : ByteArray := prog_2_method_5_code
def y_Be_y : MethodName := ⟨R_Be, "y", "(I)I"⟩
abbrev b_Be_canLay : ByteArray := prog_2_method_6_code
def y_Be_canLay : MethodName := ⟨R_Be, "canLay", "(II)Z"⟩
abbrev b_Be_lay : ByteArray := prog_2_method_7_code
def y_Be_lay : MethodName := ⟨R_Be, "lay", "(II)Z"⟩
abbrev b_Be_layFrom : ByteArray := prog_2_method_8_code
def y_Be_layFrom : MethodName := ⟨R_Be, "layFrom", "(IIII)Z"⟩
abbrev b_Be_cells : ByteArray := prog_2_method_9_code
def y_Be_cells : MethodName := ⟨R_Be, "cells", "(IIII)I"⟩
abbrev b_Tt_init : ByteArray := prog_6_method_1_code
def y_Tt_init : MethodName := ⟨R_Tt, "<init>", "()V"⟩
abbrev b_Tt_waiting : ByteArray := prog_6_method_2_code
def y_Tt_waiting : MethodName := ⟨R_Tt, "waiting", "()I"⟩
abbrev b_Tt_setWaiting : ByteArray := prog_6_method_3_code
def y_Tt_setWaiting : MethodName := ⟨R_Tt, "setWaiting", "(I)V"⟩
abbrev b_Tt_begin : ByteArray := prog_6_method_4_code
def y_Tt_begin : MethodName := ⟨R_Tt, "begin", "(I)I"⟩
abbrev b_Tt_beginOfAll : ByteArray := prog_6_method_5_code
def y_Tt_beginOfAll : MethodName := ⟨R_Tt, "beginOfAll", "(I)I"⟩
abbrev b_Tt_chamberOf : ByteArray := prog_6_method_6_code
def y_Tt_chamberOf : MethodName := ⟨R_Tt, "chamberOf", "(I)I"⟩
abbrev b_Tt_runOf : ByteArray := prog_6_method_7_code
def y_Tt_runOf : MethodName := ⟨R_Tt, "runOf", "(I)I"⟩
abbrev b_Tt_put : ByteArray := prog_6_method_8_code
def y_Tt_put : MethodName := ⟨R_Tt, "put", "(IIII)V"⟩
abbrev b_Tt_copyFrom : ByteArray := prog_6_method_9_code
def y_Tt_copyFrom : MethodName := ⟨R_Tt, "copyFrom", "(LLockRuns$Timetable;)V"⟩
abbrev b_Tt_isAheadOf : ByteArray := prog_6_method_10_code
def y_Tt_isAheadOf : MethodName := ⟨R_Tt, "isAheadOf", "(LLockRuns$Timetable;I)Z"⟩
abbrev b_Tt_differences : ByteArray := prog_6_method_11_code
def y_Tt_differences : MethodName := ⟨R_Tt, "differences", "(LLockRuns$Timetable;I)I"⟩
abbrev b_Tt_differs : ByteArray := prog_6_method_12_code
def y_Tt_differs : MethodName := ⟨R_Tt, "differs", "(LLockRuns$Timetable;I)Z"⟩
abbrev b_Tt_aboard : ByteArray := prog_6_method_13_code
def y_Tt_aboard : MethodName := ⟨R_Tt, "aboard", "(III)I"⟩
abbrev b_Pl_init : ByteArray := prog_5_method_1_code
def y_Pl_init : MethodName := ⟨R_Pl, "<init>", "(LLockRuns$Chambers;LLockRuns$Fleet;LLockRuns$Berths;)V"⟩
abbrev b_Pl_over : ByteArray := prog_5_method_2_code
def y_Pl_over : MethodName := ⟨R_Pl, "over", "()I"⟩
abbrev b_Pl_setOver : ByteArray := prog_5_method_3_code
def y_Pl_setOver : MethodName := ⟨R_Pl, "setOver", "(I)V"⟩
abbrev b_Pl_hasPlan : ByteArray := prog_5_method_4_code
def y_Pl_hasPlan : MethodName := ⟨R_Pl, "hasPlan", "()Z"⟩
abbrev b_Pl_forget : ByteArray := prog_5_method_5_code
def y_Pl_forget : MethodName := ⟨R_Pl, "forget", "()V"⟩
abbrev b_Pl_waiting : ByteArray := prog_5_method_6_code
def y_Pl_waiting : MethodName := ⟨R_Pl, "waiting", "()I"⟩
abbrev b_Pl_search : ByteArray := prog_5_method_7_code
def y_Pl_search : MethodName := ⟨R_Pl, "search", "()Z"⟩
abbrev b_Pl_keepForComparison : ByteArray := prog_5_method_8_code
def y_Pl_keepForComparison : MethodName := ⟨R_Pl, "keepForComparison", "()V"⟩
abbrev b_Pl_moved : ByteArray := prog_5_method_9_code
def y_Pl_moved : MethodName := ⟨R_Pl, "moved", "()I"⟩
abbrev b_Pl_tryRuns : ByteArray := prog_5_method_10_code
def y_Pl_tryRuns : MethodName := ⟨R_Pl, "tryRuns", "(IIIIII)V"⟩
abbrev b_Pl_canRun : ByteArray := prog_5_method_11_code
def y_Pl_canRun : MethodName := ⟨R_Pl, "canRun", "(II)Z"⟩
abbrev b_Pl_offerTrial : ByteArray := prog_5_method_12_code
def y_Pl_offerTrial : MethodName := ⟨R_Pl, "offerTrial", "(I)V"⟩
abbrev b_Pl_overtaken : ByteArray := prog_5_method_13_code
def y_Pl_overtaken : MethodName := ⟨R_Pl, "overtaken", "(LLockRuns$Timetable;I)I"⟩
abbrev b_Pl_tellShip : ByteArray := prog_5_method_14_code
def y_Pl_tellShip : MethodName := ⟨R_Pl, "tellShip", "(II)I"⟩
abbrev b_Pl_layRunOf : ByteArray := prog_5_method_15_code
def y_Pl_layRunOf : MethodName := ⟨R_Pl, "layRunOf", "(I)Z"⟩
abbrev b_Pl_tellRun : ByteArray := prog_5_method_16_code
def y_Pl_tellRun : MethodName := ⟨R_Pl, "tellRun", "(III)I"⟩
abbrev b_Pl_runs : ByteArray := prog_5_method_17_code
def y_Pl_runs : MethodName := ⟨R_Pl, "runs", "(I)I"⟩
abbrev b_Mo_init : ByteArray := prog_8_method_1_code
def y_Mo_init : MethodName := ⟨R_Mo, "<init>", "()V"⟩
abbrev b_Mo_thrown : ByteArray := prog_8_method_2_code
def y_Mo_thrown : MethodName := ⟨R_Mo, "thrown", "()I"⟩
abbrev b_Mo_in : ByteArray := prog_8_method_3_code
def y_Mo_in : MethodName := ⟨R_Mo, "in", "(III)Z"⟩
abbrev b_Mo_isChamber : ByteArray := prog_8_method_4_code
def y_Mo_isChamber : MethodName := ⟨R_Mo, "isChamber", "(I)Z"⟩
abbrev b_Mo_isShip : ByteArray := prog_8_method_5_code
def y_Mo_isShip : MethodName := ⟨R_Mo, "isShip", "(I)Z"⟩
abbrev b_Mo_chamber : ByteArray := prog_8_method_6_code
def y_Mo_chamber : MethodName := ⟨R_Mo, "chamber", "(III)I"⟩
abbrev b_Mo_ship : ByteArray := prog_8_method_7_code
def y_Mo_ship : MethodName := ⟨R_Mo, "ship", "(IIIII)I"⟩
abbrev b_Mo_closed : ByteArray := prog_8_method_8_code
def y_Mo_closed : MethodName := ⟨R_Mo, "closed", "(III)Z"⟩
abbrev b_Mo_rule : ByteArray := prog_8_method_9_code
def y_Mo_rule : MethodName := ⟨R_Mo, "rule", "(II)Z"⟩
abbrev b_Mo_mayLie : ByteArray := prog_8_method_10_code
def y_Mo_mayLie : MethodName := ⟨R_Mo, "mayLie", "(IIII)Z"⟩
abbrev b_Mo_lay : ByteArray := prog_8_method_11_code
def y_Mo_lay : MethodName := ⟨R_Mo, "lay", "(II)Z"⟩
abbrev b_Mo_fits : ByteArray := prog_8_method_12_code
def y_Mo_fits : MethodName := ⟨R_Mo, "fits", "(II)Z"⟩
abbrev b_Mo_setOf : ByteArray := prog_8_method_13_code
def y_Mo_setOf : MethodName := ⟨R_Mo, "setOf", "(I)I"⟩
abbrev b_Mo_first : ByteArray := prog_8_method_14_code
def y_Mo_first : MethodName := ⟨R_Mo, "first", "(I)I"⟩
abbrev b_Mo_isOneWay : ByteArray := prog_8_method_15_code
def y_Mo_isOneWay : MethodName := ⟨R_Mo, "isOneWay", "(I)Z"⟩
abbrev b_Mo_open : ByteArray := prog_8_method_16_code
def y_Mo_open : MethodName := ⟨R_Mo, "open", "(II)I"⟩
abbrev b_Mo_times : ByteArray := prog_8_method_17_code
def y_Mo_times : MethodName := ⟨R_Mo, "times", "(I)Z"⟩
abbrev b_Mo_overtaken : ByteArray := prog_8_method_18_code
def y_Mo_overtaken : MethodName := ⟨R_Mo, "overtaken", "(IZ)I"⟩
abbrev b_Mo_weighed : ByteArray := prog_8_method_19_code
def y_Mo_weighed : MethodName := ⟨R_Mo, "weighed", "()I"⟩
abbrev b_Mo_isAhead : ByteArray := prog_8_method_20_code
def y_Mo_isAhead : MethodName := ⟨R_Mo, "isAhead", "()Z"⟩
abbrev b_Mo_search : ByteArray := prog_8_method_21_code
def y_Mo_search : MethodName := ⟨R_Mo, "search", "()I"⟩
abbrev b_Mo_plan : ByteArray := prog_8_method_22_code
def y_Mo_plan : MethodName := ⟨R_Mo, "plan", "()I"⟩
abbrev b_Mo_shipsOf : ByteArray := prog_8_method_23_code
def y_Mo_shipsOf : MethodName := ⟨R_Mo, "shipsOf", "(I)I"⟩
abbrev b_Mo_of : ByteArray := prog_8_method_24_code
def y_Mo_of : MethodName := ⟨R_Mo, "of", "(II)I"⟩
abbrev b_Mo_run : ByteArray := prog_8_method_25_code
def y_Mo_run : MethodName := ⟨R_Mo, "run", "(III)I"⟩
abbrev b_Mo_late : ByteArray := prog_8_method_26_code
def y_Mo_late : MethodName := ⟨R_Mo, "late", "(II)I"⟩
abbrev b_Mo_home : ByteArray := prog_8_method_27_code
def y_Mo_home : MethodName := ⟨R_Mo, "home", "(I)I"⟩
abbrev b_Mo_rate : ByteArray := prog_8_method_28_code
def y_Mo_rate : MethodName := ⟨R_Mo, "rate", "(II)I"⟩
abbrev b_Mo_count : ByteArray := prog_8_method_29_code
def y_Mo_count : MethodName := ⟨R_Mo, "count", "(I)I"⟩
abbrev b_Lw_chamber : ByteArray := method_3_code
def y_Lw_chamber : MethodName := ⟨R_Lw, "chamber", "(LLockRuns;III[J)I"⟩
abbrev b_Lw_ship : ByteArray := method_4_code
def y_Lw_ship : MethodName := ⟨R_Lw, "ship", "(LLockRuns;IIIII[J)I"⟩
abbrev b_Lw_fits : ByteArray := method_5_code
def y_Lw_fits : MethodName := ⟨R_Lw, "fits", "(LLockRuns;II[J)I"⟩
abbrev b_Lw_of : ByteArray := method_6_code
def y_Lw_of : MethodName := ⟨R_Lw, "of", "(LLockRuns;II[J)I"⟩
abbrev b_Lw_run : ByteArray := method_7_code
def y_Lw_run : MethodName := ⟨R_Lw, "run", "(LLockRuns;III[J)I"⟩
abbrev b_Lw_late : ByteArray := method_8_code
def y_Lw_late : MethodName := ⟨R_Lw, "late", "(LLockRuns;II[J)I"⟩
abbrev b_Lw_home : ByteArray := method_9_code
def y_Lw_home : MethodName := ⟨R_Lw, "home", "(LLockRuns;I[J)I"⟩
abbrev b_Lw_rate : ByteArray := method_10_code
def y_Lw_rate : MethodName := ⟨R_Lw, "rate", "(LLockRuns;II[J)I"⟩
end
section
/-! what the pure functions are made of -/
def xlet {α β : Type} (v : α) (f : α → β) : β := f v
theorem xlet_at {α β : Type} {v z : α} {f : α → β} {o : β} (h : z = v) (hf : xlet v f = o) : f z = o := by rw [h]; exact hf
theorem xi_pos {c : Prop} [Decidable c] {α : Type} {a b o : α} (h : c) (hf : (if c then a else b) = o) : a = o := by rw [if_pos h] at hf; exact hf
theorem xi_neg {c : Prop} [Decidable c] {α : Type} {a b o : α} (h : ¬ c) (hf : (if c then a else b) = o) : b = o := by rw [if_neg h] at hf; exact hf
theorem xb_some {α β : Type} {o : Option α} {f : α → Option β} {r : β} (h : o.bind f = some r) : ∃ a, o = some a ∧ f a = some r := Option.bind_eq_some_iff.mp h
theorem xb_guard {c : Prop} [Decidable c] {α : Type} {a : Option α} {o : α} (hf : (if c then a else none) = some o) : c ∧ a = some o := by
  by_cases h : c
  · rw [if_pos h] at hf; exact ⟨h, hf⟩
  · rw [if_neg h] at hf; cases hf
abbrev xin (i : Int32) (n : Nat) : Prop := ¬ (i < 0 ∨ n ≤ i.toNatClampNeg)
theorem xb_narrow {v : Int32} (h : v = 0 ∨ v = 1) : narrow .boolean (.int v) = .int v := by rcases h with rfl | rfl <;> rfl
theorem xb_fits {v : Int32} (h : v = 0 ∨ v = 1) : fits .boolean (.int v) = true := by rcases h with rfl | rfl <;> rfl
/-- a switch goes to its default -/
theorem xsw_out {x : Int32} (n : Nat) (hn : n < 2 ^ 31) (h : ∀ k : Nat, k < n → ¬ x = Int32.ofNat k) : x.toInt < 0 ∨ ((n : Nat) : Int) - 1 < x.toInt := by
  by_cases h0 : x.toInt < 0
  · exact Or.inl h0
  · right
    by_cases h1 : (n : Int) - 1 < x.toInt
    · exact h1
    · exfalso
      have h2 : ¬ x < 0 := fun h9 => h0 (by simpa using Int32.lt_iff_toInt_lt.mp h9)
      obtain ⟨j, hj, e⟩ := nI_of h2
      refine h j ?_ e
      have h3 : x.toInt = (j : Int) := by rw [e]; exact nI_toInt hj
      omega
/-! THE WALK OVER A PURE STATE. xJ: at pc, with locals lv and stack st, over every heap that holds the world ws, the method comes to Q. xC: what is fixed in a walk. -/
section XJ
variable {p : Program} {l : Launch} {e : Env} {R : Room} {s : State} {m : MethodId} {args : Array Value} {below : List Frame} {meth : Method} {c : Code} {cells slots : Nat} {Q : State → Prop}
variable {A : Nat → Prop} {D : va_G} {tys : List (ClassId × FieldType)} {ws : va_W} {nL : Nat} {lv : List (Nat × Value)} {pc : Nat} {rest : List Value} {cc : ByteArray} {own : String}
def xJ (p : Program) (l : Launch) (e : Env) (R : Room) (s : State) (m : MethodId) (args : Array Value) (below : List Frame) (meth : Method) (c : Code) (cells slots : Nat) (Q : State → Prop) (A : Nat → Prop) (D : va_G) (nL : Nat) (ws : va_W) (lv : List (Nat × Value)) (pc : Nat) (st : List Value) : Prop :=
  ∀ (H : Heap) (locs : List Loc) (ls : Array Slot), va_P D classes ws H → va_S A s.heap H locs → lv_has ls nL lv → W p l e R s m args below meth c H locs cells slots Q (F0 m pc ls st)
def xC (p : Program) (s : State) (m : MethodId) (args : Array Value) (meth : Method) (c : Code) (A : Nat → Prop) (D : va_G) (nL : Nat) (tys : List (ClassId × FieldType)) (cc : ByteArray) (own : String) : Prop :=
  (p.tables.exec = Jvm.exec ∧ c.code = cc ∧ c.maxLocals = nL ∧ s.vm.findClass own = some m.cls ∧ ∀ w ∈ BIG, w.before args s = true) ∧ va_K D classes tys s ∧ (∀ q : Nat, s.heap.size ≤ q → A q) ∧ meth.locks = false ∧ ∀ w ∈ NESTW, va_Nw w s
theorem xC.ex (C : xC p s m args meth c A D nL tys cc own) : p.tables.exec = Jvm.exec := C.1.1
theorem xC.by (C : xC p s m args meth c A D nL tys cc own) : c.code = cc := C.1.2.1
theorem xC.ow (C : xC p s m args meth c A D nL tys cc own) : s.vm.findClass own = some m.cls := C.1.2.2.2.1
theorem xC.ts (C : xC p s m args meth c A D nL tys cc own) : ∀ w ∈ BIG, w.before args s = true := C.1.2.2.2.2
theorem xC.K (C : xC p s m args meth c A D nL tys cc own) : va_K D classes tys s := C.2.1
theorem xC.fA (C : xC p s m args meth c A D nL tys cc own) : ∀ q : Nat, s.heap.size ≤ q → A q := C.2.2.1
theorem xC.lk (C : xC p s m args meth c A D nL tys cc own) : meth.locks = false := C.2.2.2.1
theorem xC.nw (C : xC p s m args meth c A D nL tys cc own) : ∀ w ∈ NESTW, va_Nw w s := C.2.2.2.2
theorem xj_iconst (C : xC p s m args meth c A D nL tys cc own) {n : Int} {v : Int32} (hdg : decode cc pc = .ok (.iconst n, 1)) (hv : Int32.ofInt n = v) (k : xJ p l e R s m args below meth c cells slots Q A D nL ws lv (pc + 1) (.int v :: rest)) : xJ p l e R s m args below meth c cells slots Q A D nL ws lv pc rest := fun H locs ls hP hS hl => lv_iconst C.ex C.by hdg hv (k H locs ls hP hS hl)
theorem xj_bipush (C : xC p s m args meth c A D nL tys cc own) {n : Int} {v : Int32} (hdg : decode cc pc = .ok (.bipush n, 2)) (hv : (Int8.ofInt n).toInt32 = v) (k : xJ p l e R s m args below meth c cells slots Q A D nL ws lv (pc + 2) (.int v :: rest)) : xJ p l e R s m args below meth c cells slots Q A D nL ws lv pc rest := fun H locs ls hP hS hl => lv_bipush C.ex C.by hdg hv (k H locs ls hP hS hl)
theorem xj_sipush (C : xC p s m args meth c A D nL tys cc own) {n : Int} {v : Int32} (hdg : decode cc pc = .ok (.sipush n, 3)) (hv : (Int16.ofInt n).toInt32 = v) (k : xJ p l e R s m args below meth c cells slots Q A D nL ws lv (pc + 3) (.int v :: rest)) : xJ p l e R s m args below meth c cells slots Q A D nL ws lv pc rest := fun H locs ls hP hS hl => lv_sipush C.ex C.by hdg hv (k H locs ls hP hS hl)
theorem xj_iload_n (C : xC p s m args meth c A D nL tys cc own) {k : Fin 4} {i : Nat} {x : Int32} (hdg : decode cc pc = .ok (.iload_n k, 1)) (hi : (k : Nat) = i) (j : Nat) (hj : lv[j]? = some (i, .int x)) (k : xJ p l e R s m args below meth c cells slots Q A D nL ws lv (pc + 1) (.int x :: rest)) : xJ p l e R s m args below meth c cells slots Q A D nL ws lv pc rest := fun H locs ls hP hS hl => lv_iload_n C.ex C.by hdg hi (lv_at hl j hj) (k H locs ls hP hS hl)
theorem xj_iload (C : xC p s m args meth c A D nL tys cc own) {i : Nat} {x : Int32} (hdg : decode cc pc = .ok (.iload i, 2)) (j : Nat) (hj : lv[j]? = some (i, .int x)) (k : xJ p l e R s m args below meth c cells slots Q A D nL ws lv (pc + 2) (.int x :: rest)) : xJ p l e R s m args below meth c cells slots Q A D nL ws lv pc rest := fun H locs ls hP hS hl => lv_iload C.ex C.by hdg (lv_at hl j hj) (k H locs ls hP hS hl)
theorem xj_aload_n (C : xC p s m args meth c A D nL tys cc own) {k : Fin 4} {i : Nat} {x : Nat} (hdg : decode cc pc = .ok (.aload_n k, 1)) (hi : (k : Nat) = i) (j : Nat) (hj : lv[j]? = some (i, .ref x)) (k : xJ p l e R s m args below meth c cells slots Q A D nL ws lv (pc + 1) (.ref x :: rest)) : xJ p l e R s m args below meth c cells slots Q A D nL ws lv pc rest := fun H locs ls hP hS hl => lv_aload_n C.ex C.by hdg hi (lv_at hl j hj) (k H locs ls hP hS hl)
theorem xj_aload (C : xC p s m args meth c A D nL tys cc own) {i : Nat} {x : Nat} (hdg : decode cc pc = .ok (.aload i, 2)) (j : Nat) (hj : lv[j]? = some (i, .ref x)) (k : xJ p l e R s m args below meth c cells slots Q A D nL ws lv (pc + 2) (.ref x :: rest)) : xJ p l e R s m args below meth c cells slots Q A D nL ws lv pc rest := fun H locs ls hP hS hl => lv_aload C.ex C.by hdg (lv_at hl j hj) (k H locs ls hP hS hl)
theorem xj_lload_n (C : xC p s m args meth c A D nL tys cc own) {k : Fin 4} {i : Nat} {x : Int64} (hdg : decode cc pc = .ok (.lload_n k, 1)) (hi : (k : Nat) = i) (j : Nat) (hj : lv[j]? = some (i, .long x)) (k : xJ p l e R s m args below meth c cells slots Q A D nL ws lv (pc + 1) (.long x :: rest)) : xJ p l e R s m args below meth c cells slots Q A D nL ws lv pc rest := fun H locs ls hP hS hl => lv_lload_n C.ex C.by hdg hi (lv_at hl j hj) (k H locs ls hP hS hl)
theorem xj_lload (C : xC p s m args meth c A D nL tys cc own) {i : Nat} {x : Int64} (hdg : decode cc pc = .ok (.lload i, 2)) (j : Nat) (hj : lv[j]? = some (i, .long x)) (k : xJ p l e R s m args below meth c cells slots Q A D nL ws lv (pc + 2) (.long x :: rest)) : xJ p l e R s m args below meth c cells slots Q A D nL ws lv pc rest := fun H locs ls hP hS hl => lv_lload C.ex C.by hdg (lv_at hl j hj) (k H locs ls hP hS hl)
theorem xj_istore_n (C : xC p s m args meth c A D nL tys cc own) {k : Fin 4} {i : Nat} {x : Int32} {lv' : List (Nat × Value)} (hdg : decode cc pc = .ok (.istore_n k, 1)) (hi : (k : Nat) = i) (hn : i < nL) (hl9 : (i, Value.int x) :: lv.filter (fun q => !(q.1 == i) && !(q.1 + 1 == i && q.2.category == 2)) = lv') (k : xJ p l e R s m args below meth c cells slots Q A D nL ws lv' (pc + 1) rest) : xJ p l e R s m args below meth c cells slots Q A D nL ws lv pc (.int x :: rest) := fun H locs ls hP hS hl => lv_istore_n C.ex C.by hdg hi hl hn hl9 (fun ls hl => (k H locs ls hP hS hl))
theorem xj_istore (C : xC p s m args meth c A D nL tys cc own) {i : Nat} {x : Int32} {lv' : List (Nat × Value)} (hdg : decode cc pc = .ok (.istore i, 2)) (hn : i < nL) (hl9 : (i, Value.int x) :: lv.filter (fun q => !(q.1 == i) && !(q.1 + 1 == i && q.2.category == 2)) = lv') (k : xJ p l e R s m args below meth c cells slots Q A D nL ws lv' (pc + 2) rest) : xJ p l e R s m args below meth c cells slots Q A D nL ws lv pc (.int x :: rest) := fun H locs ls hP hS hl => lv_istore C.ex C.by hdg hl hn hl9 (fun ls hl => (k H locs ls hP hS hl))
theorem xj_astore_n (C : xC p s m args meth c A D nL tys cc own) {k : Fin 4} {i : Nat} {x : Nat} {lv' : List (Nat × Value)} (hdg : decode cc pc = .ok (.astore_n k, 1)) (hi : (k : Nat) = i) (hn : i < nL) (hl9 : (i, Value.ref x) :: lv.filter (fun q => !(q.1 == i) && !(q.1 + 1 == i && q.2.category == 2)) = lv') (k : xJ p l e R s m args below meth c cells slots Q A D nL ws lv' (pc + 1) rest) : xJ p l e R s m args below meth c cells slots Q A D nL ws lv pc (.ref x :: rest) := fun H locs ls hP hS hl => lv_astore_n C.ex C.by hdg hi hl hn hl9 (fun ls hl => (k H locs ls hP hS hl))
theorem xj_astore (C : xC p s m args meth c A D nL tys cc own) {i : Nat} {x : Nat} {lv' : List (Nat × Value)} (hdg : decode cc pc = .ok (.astore i, 2)) (hn : i < nL) (hl9 : (i, Value.ref x) :: lv.filter (fun q => !(q.1 == i) && !(q.1 + 1 == i && q.2.category == 2)) = lv') (k : xJ p l e R s m args below meth c cells slots Q A D nL ws lv' (pc + 2) rest) : xJ p l e R s m args below meth c cells slots Q A D nL ws lv pc (.ref x :: rest) := fun H locs ls hP hS hl => lv_astore C.ex C.by hdg hl hn hl9 (fun ls hl => (k H locs ls hP hS hl))
theorem xj_iinc (C : xC p s m args meth c A D nL tys cc own) {i j : Nat} {n : Int} {x v : Int32} {lv' : List (Nat × Value)} (hdg : decode cc pc = .ok (.iinc i n, 3)) (hj : lv[j]? = some (i, .int x)) (hv : x + Int32.ofInt n = v) (hn : i < nL) (hl9 : (i, Value.int v) :: lv.filter (fun q => !(q.1 == i) && !(q.1 + 1 == i && q.2.category == 2)) = lv') (k : xJ p l e R s m args below meth c cells slots Q A D nL ws lv' (pc + 3) rest) : xJ p l e R s m args below meth c cells slots Q A D nL ws lv pc rest := fun H locs ls hP hS hl => lv_iinc C.ex C.by hdg hl hj hv hn hl9 (fun ls hl => (k H locs ls hP hS hl))
theorem xj_iadd (C : xC p s m args meth c A D nL tys cc own) {x y : Int32} (hdg : decode cc pc = .ok (.iadd, 1)) (k : xJ p l e R s m args below meth c cells slots Q A D nL ws lv (pc + 1) (.int (x + y) :: rest)) : xJ p l e R s m args below meth c cells slots Q A D nL ws lv pc (.int y :: .int x :: rest) := fun H locs ls hP hS hl => lv_iadd C.ex C.by hdg (k H locs ls hP hS hl)
theorem xj_isub (C : xC p s m args meth c A D nL tys cc own) {x y : Int32} (hdg : decode cc pc = .ok (.isub, 1)) (k : xJ p l e R s m args below meth c cells slots Q A D nL ws lv (pc + 1) (.int (x - y) :: rest)) : xJ p l e R s m args below meth c cells slots Q A D nL ws lv pc (.int y :: .int x :: rest) := fun H locs ls hP hS hl => lv_isub C.ex C.by hdg (k H locs ls hP hS hl)
theorem xj_imul (C : xC p s m args meth c A D nL tys cc own) {x y : Int32} (hdg : decode cc pc = .ok (.imul, 1)) (k : xJ p l e R s m args below meth c cells slots Q A D nL ws lv (pc + 1) (.int (x * y) :: rest)) : xJ p l e R s m args below meth c cells slots Q A D nL ws lv pc (.int y :: .int x :: rest) := fun H locs ls hP hS hl => lv_imul C.ex C.by hdg (k H locs ls hP hS hl)
theorem xj_iand (C : xC p s m args meth c A D nL tys cc own) {x y : Int32} (hdg : decode cc pc = .ok (.iand, 1)) (k : xJ p l e R s m args below meth c cells slots Q A D nL ws lv (pc + 1) (.int (x &&& y) :: rest)) : xJ p l e R s m args below meth c cells slots Q A D nL ws lv pc (.int y :: .int x :: rest) := fun H locs ls hP hS hl => lv_iand C.ex C.by hdg (k H locs ls hP hS hl)
theorem xj_ior (C : xC p s m args meth c A D nL tys cc own) {x y : Int32} (hdg : decode cc pc = .ok (.ior, 1)) (k : xJ p l e R s m args below meth c cells slots Q A D nL ws lv (pc + 1) (.int (x ||| y) :: rest)) : xJ p l e R s m args below meth c cells slots Q A D nL ws lv pc (.int y :: .int x :: rest) := fun H locs ls hP hS hl => lv_ior C.ex C.by hdg (k H locs ls hP hS hl)
theorem xj_ixor (C : xC p s m args meth c A D nL tys cc own) {x y : Int32} (hdg : decode cc pc = .ok (.ixor, 1)) (k : xJ p l e R s m args below meth c cells slots Q A D nL ws lv (pc + 1) (.int (x ^^^ y) :: rest)) : xJ p l e R s m args below meth c cells slots Q A D nL ws lv pc (.int y :: .int x :: rest) := fun H locs ls hP hS hl => lv_ixor C.ex C.by hdg (k H locs ls hP hS hl)
theorem xj_ishl (C : xC p s m args meth c A D nL tys cc own) {x y : Int32} (hdg : decode cc pc = .ok (.ishl, 1)) (k : xJ p l e R s m args below meth c cells slots Q A D nL ws lv (pc + 1) (.int (x <<< (y &&& 31)) :: rest)) : xJ p l e R s m args below meth c cells slots Q A D nL ws lv pc (.int y :: .int x :: rest) := fun H locs ls hP hS hl => lv_ishl C.ex C.by hdg (k H locs ls hP hS hl)
theorem xj_ishr (C : xC p s m args meth c A D nL tys cc own) {x y : Int32} (hdg : decode cc pc = .ok (.ishr, 1)) (k : xJ p l e R s m args below meth c cells slots Q A D nL ws lv (pc + 1) (.int (x >>> (y &&& 31)) :: rest)) : xJ p l e R s m args below meth c cells slots Q A D nL ws lv pc (.int y :: .int x :: rest) := fun H locs ls hP hS hl => lv_ishr C.ex C.by hdg (k H locs ls hP hS hl)
theorem xj_idiv (C : xC p s m args meth c A D nL tys cc own) {x y : Int32} (hdg : decode cc pc = .ok (.idiv, 1)) (hne : ¬ y = 0) (k : xJ p l e R s m args below meth c cells slots Q A D nL ws lv (pc + 1) (.int (x / y) :: rest)) : xJ p l e R s m args below meth c cells slots Q A D nL ws lv pc (.int y :: .int x :: rest) := fun H locs ls hP hS hl => lv_idiv C.ex C.by hdg hne (k H locs ls hP hS hl)
theorem xj_irem (C : xC p s m args meth c A D nL tys cc own) {x y : Int32} (hdg : decode cc pc = .ok (.irem, 1)) (hne : ¬ y = 0) (k : xJ p l e R s m args below meth c cells slots Q A D nL ws lv (pc + 1) (.int (x - x / y * y) :: rest)) : xJ p l e R s m args below meth c cells slots Q A D nL ws lv pc (.int y :: .int x :: rest) := fun H locs ls hP hS hl => lv_irem C.ex C.by hdg hne (k H locs ls hP hS hl)
theorem xj_ineg (C : xC p s m args meth c A D nL tys cc own) {x : Int32} (hdg : decode cc pc = .ok (.ineg, 1)) (k : xJ p l e R s m args below meth c cells slots Q A D nL ws lv (pc + 1) (.int (-x) :: rest)) : xJ p l e R s m args below meth c cells slots Q A D nL ws lv pc (.int x :: rest) := fun H locs ls hP hS hl => lv_ineg C.ex C.by hdg (k H locs ls hP hS hl)
theorem xj_iushr (C : xC p s m args meth c A D nL tys cc own) {x y v : Int32} (hdg : decode cc pc = .ok (.iushr, 1)) (hv : (x.toUInt32 >>> (y.toUInt32 &&& Int32.toUInt32 31)).toInt32 = v) (k : xJ p l e R s m args below meth c cells slots Q A D nL ws lv (pc + 1) (.int v :: rest)) : xJ p l e R s m args below meth c cells slots Q A D nL ws lv pc (.int y :: .int x :: rest) := fun H locs ls hP hS hl => lv_iushr C.ex C.by hdg hv (k H locs ls hP hS hl)
theorem xj_i2l (C : xC p s m args meth c A D nL tys cc own) {x : Int32} {v : Int64} (hdg : decode cc pc = .ok (.i2l, 1)) (hv : x.toInt64 = v) (k : xJ p l e R s m args below meth c cells slots Q A D nL ws lv (pc + 1) (.long v :: rest)) : xJ p l e R s m args below meth c cells slots Q A D nL ws lv pc (.int x :: rest) := fun H locs ls hP hS hl => lv_i2l C.ex C.by hdg hv (k H locs ls hP hS hl)
theorem xj_lcmp (C : xC p s m args meth c A D nL tys cc own) {x y : Int64} (hdg : decode cc pc = .ok (.lcmp, 1)) (k : xJ p l e R s m args below meth c cells slots Q A D nL ws lv (pc + 1) (.int (lg_cmp x y) :: rest)) : xJ p l e R s m args below meth c cells slots Q A D nL ws lv pc (.long y :: .long x :: rest) := fun H locs ls hP hS hl => W.lcmp C.ex C.by hdg (k H locs ls hP hS hl)
theorem xj_lconst (C : xC p s m args meth c A D nL tys cc own) {n : Fin 2} {v : Int64} (hdg : decode cc pc = .ok (.lconst n, 1)) (hv : Int64.ofNat (n : Nat) = v) (k : xJ p l e R s m args below meth c cells slots Q A D nL ws lv (pc + 1) (.long v :: rest)) : xJ p l e R s m args below meth c cells slots Q A D nL ws lv pc rest := fun H locs ls hP hS hl => lv_lconst C.ex C.by hdg hv (k H locs ls hP hS hl)
theorem xj_null (C : xC p s m args meth c A D nL tys cc own)  (hdg : decode cc pc = .ok (.aconst_null, 1)) (k : xJ p l e R s m args below meth c cells slots Q A D nL ws lv (pc + 1) (.null :: rest)) : xJ p l e R s m args below meth c cells slots Q A D nL ws lv pc rest := fun H locs ls hP hS hl => lv_null C.ex C.by hdg (k H locs ls hP hS hl)
theorem xj_dup (C : xC p s m args meth c A D nL tys cc own) {va : Value} (hdg : decode cc pc = .ok (.dup, 1)) (hva : va.category = 1) (k : xJ p l e R s m args below meth c cells slots Q A D nL ws lv (pc + 1) (va :: va :: rest)) : xJ p l e R s m args below meth c cells slots Q A D nL ws lv pc (va :: rest) := fun H locs ls hP hS hl => lv_dup C.ex C.by hdg hva (k H locs ls hP hS hl)
theorem xj_pop (C : xC p s m args meth c A D nL tys cc own) {va : Value} (hdg : decode cc pc = .ok (.pop, 1)) (hva : va.category = 1) (k : xJ p l e R s m args below meth c cells slots Q A D nL ws lv (pc + 1) rest) : xJ p l e R s m args below meth c cells slots Q A D nL ws lv pc (va :: rest) := fun H locs ls hP hS hl => lv_pop C.ex C.by hdg hva (k H locs ls hP hS hl)
theorem xj_dup_x1 (C : xC p s m args meth c A D nL tys cc own) {va vb : Value} (hdg : decode cc pc = .ok (.dup_x1, 1)) (hva : va.category = 1) (hvb : vb.category = 1) (k : xJ p l e R s m args below meth c cells slots Q A D nL ws lv (pc + 1) (va :: vb :: va :: rest)) : xJ p l e R s m args below meth c cells slots Q A D nL ws lv pc (va :: vb :: rest) := fun H locs ls hP hS hl => lv_dup_x1 C.ex C.by hdg hva hvb (k H locs ls hP hS hl)
theorem xj_dup_x2 (C : xC p s m args meth c A D nL tys cc own) {va vb vd : Value} (hdg : decode cc pc = .ok (.dup_x2, 1)) (hva : va.category = 1) (hvb : vb.category = 1) (hvd : vd.category = 1) (k : xJ p l e R s m args below meth c cells slots Q A D nL ws lv (pc + 1) (va :: vb :: vd :: va :: rest)) : xJ p l e R s m args below meth c cells slots Q A D nL ws lv pc (va :: vb :: vd :: rest) := fun H locs ls hP hS hl => lv_dup_x2 C.ex C.by hdg hva hvb hvd (k H locs ls hP hS hl)
theorem xj_dup2 (C : xC p s m args meth c A D nL tys cc own) {va vb : Value} (hdg : decode cc pc = .ok (.dup2, 1)) (hva : va.category = 1) (hvb : vb.category = 1) (k : xJ p l e R s m args below meth c cells slots Q A D nL ws lv (pc + 1) (va :: vb :: va :: vb :: rest)) : xJ p l e R s m args below meth c cells slots Q A D nL ws lv pc (va :: vb :: rest) := fun H locs ls hP hS hl => lv_dup2_11 C.ex C.by hdg hva hvb (k H locs ls hP hS hl)
theorem xj_if_eq (C : xC p s m args meth c A D nL tys cc own) {x : Int32} {off : Int} {tgt : Nat} (hdg : decode cc pc = .ok (.ifCond .eq off, 3)) (ht : (pc : Int) + off = (tgt : Int)) (kt : x = 0 → xJ p l e R s m args below meth c cells slots Q A D nL ws lv tgt rest) (kf : ¬ x = 0 → xJ p l e R s m args below meth c cells slots Q A D nL ws lv (pc + 3) rest) : xJ p l e R s m args below meth c cells slots Q A D nL ws lv pc (.int x :: rest) := fun H locs ls hP hS hl => lv_if_eq C.ex C.by hdg ht (fun h9 => kt h9 H locs ls hP hS hl) (fun h9 => kf h9 H locs ls hP hS hl)
theorem xj_icmp_eq (C : xC p s m args meth c A D nL tys cc own) {x y : Int32} {off : Int} {tgt : Nat} (hdg : decode cc pc = .ok (.if_icmp .eq off, 3)) (ht : (pc : Int) + off = (tgt : Int)) (kt : x = y → xJ p l e R s m args below meth c cells slots Q A D nL ws lv tgt rest) (kf : ¬ x = y → xJ p l e R s m args below meth c cells slots Q A D nL ws lv (pc + 3) rest) : xJ p l e R s m args below meth c cells slots Q A D nL ws lv pc (.int y :: .int x :: rest) := fun H locs ls hP hS hl => lv_icmp_eq C.ex C.by hdg ht (fun h9 => kt h9 H locs ls hP hS hl) (fun h9 => kf h9 H locs ls hP hS hl)
theorem xj_if_ne (C : xC p s m args meth c A D nL tys cc own) {x : Int32} {off : Int} {tgt : Nat} (hdg : decode cc pc = .ok (.ifCond .ne off, 3)) (ht : (pc : Int) + off = (tgt : Int)) (kt : ¬ x = 0 → xJ p l e R s m args below meth c cells slots Q A D nL ws lv tgt rest) (kf : x = 0 → xJ p l e R s m args below meth c cells slots Q A D nL ws lv (pc + 3) rest) : xJ p l e R s m args below meth c cells slots Q A D nL ws lv pc (.int x :: rest) := fun H locs ls hP hS hl => lv_if_ne C.ex C.by hdg ht (fun h9 => kt h9 H locs ls hP hS hl) (fun h9 => kf h9 H locs ls hP hS hl)
theorem xj_icmp_ne (C : xC p s m args meth c A D nL tys cc own) {x y : Int32} {off : Int} {tgt : Nat} (hdg : decode cc pc = .ok (.if_icmp .ne off, 3)) (ht : (pc : Int) + off = (tgt : Int)) (kt : ¬ x = y → xJ p l e R s m args below meth c cells slots Q A D nL ws lv tgt rest) (kf : x = y → xJ p l e R s m args below meth c cells slots Q A D nL ws lv (pc + 3) rest) : xJ p l e R s m args below meth c cells slots Q A D nL ws lv pc (.int y :: .int x :: rest) := fun H locs ls hP hS hl => lv_icmp_ne C.ex C.by hdg ht (fun h9 => kt h9 H locs ls hP hS hl) (fun h9 => kf h9 H locs ls hP hS hl)
theorem xj_if_lt (C : xC p s m args meth c A D nL tys cc own) {x : Int32} {off : Int} {tgt : Nat} (hdg : decode cc pc = .ok (.ifCond .lt off, 3)) (ht : (pc : Int) + off = (tgt : Int)) (kt : x < 0 → xJ p l e R s m args below meth c cells slots Q A D nL ws lv tgt rest) (kf : ¬ x < 0 → xJ p l e R s m args below meth c cells slots Q A D nL ws lv (pc + 3) rest) : xJ p l e R s m args below meth c cells slots Q A D nL ws lv pc (.int x :: rest) := fun H locs ls hP hS hl => lv_if_lt C.ex C.by hdg ht (fun h9 => kt h9 H locs ls hP hS hl) (fun h9 => kf h9 H locs ls hP hS hl)
theorem xj_icmp_lt (C : xC p s m args meth c A D nL tys cc own) {x y : Int32} {off : Int} {tgt : Nat} (hdg : decode cc pc = .ok (.if_icmp .lt off, 3)) (ht : (pc : Int) + off = (tgt : Int)) (kt : x < y → xJ p l e R s m args below meth c cells slots Q A D nL ws lv tgt rest) (kf : ¬ x < y → xJ p l e R s m args below meth c cells slots Q A D nL ws lv (pc + 3) rest) : xJ p l e R s m args below meth c cells slots Q A D nL ws lv pc (.int y :: .int x :: rest) := fun H locs ls hP hS hl => lv_icmp_lt C.ex C.by hdg ht (fun h9 => kt h9 H locs ls hP hS hl) (fun h9 => kf h9 H locs ls hP hS hl)
theorem xj_if_ge (C : xC p s m args meth c A D nL tys cc own) {x : Int32} {off : Int} {tgt : Nat} (hdg : decode cc pc = .ok (.ifCond .ge off, 3)) (ht : (pc : Int) + off = (tgt : Int)) (kt : 0 ≤ x → xJ p l e R s m args below meth c cells slots Q A D nL ws lv tgt rest) (kf : ¬ 0 ≤ x → xJ p l e R s m args below meth c cells slots Q A D nL ws lv (pc + 3) rest) : xJ p l e R s m args below meth c cells slots Q A D nL ws lv pc (.int x :: rest) := fun H locs ls hP hS hl => lv_if_ge C.ex C.by hdg ht (fun h9 => kt h9 H locs ls hP hS hl) (fun h9 => kf h9 H locs ls hP hS hl)
theorem xj_icmp_ge (C : xC p s m args meth c A D nL tys cc own) {x y : Int32} {off : Int} {tgt : Nat} (hdg : decode cc pc = .ok (.if_icmp .ge off, 3)) (ht : (pc : Int) + off = (tgt : Int)) (kt : y ≤ x → xJ p l e R s m args below meth c cells slots Q A D nL ws lv tgt rest) (kf : ¬ y ≤ x → xJ p l e R s m args below meth c cells slots Q A D nL ws lv (pc + 3) rest) : xJ p l e R s m args below meth c cells slots Q A D nL ws lv pc (.int y :: .int x :: rest) := fun H locs ls hP hS hl => lv_icmp_ge C.ex C.by hdg ht (fun h9 => kt h9 H locs ls hP hS hl) (fun h9 => kf h9 H locs ls hP hS hl)
theorem xj_if_gt (C : xC p s m args meth c A D nL tys cc own) {x : Int32} {off : Int} {tgt : Nat} (hdg : decode cc pc = .ok (.ifCond .gt off, 3)) (ht : (pc : Int) + off = (tgt : Int)) (kt : 0 < x → xJ p l e R s m args below meth c cells slots Q A D nL ws lv tgt rest) (kf : ¬ 0 < x → xJ p l e R s m args below meth c cells slots Q A D nL ws lv (pc + 3) rest) : xJ p l e R s m args below meth c cells slots Q A D nL ws lv pc (.int x :: rest) := fun H locs ls hP hS hl => lv_if_gt C.ex C.by hdg ht (fun h9 => kt h9 H locs ls hP hS hl) (fun h9 => kf h9 H locs ls hP hS hl)
theorem xj_icmp_gt (C : xC p s m args meth c A D nL tys cc own) {x y : Int32} {off : Int} {tgt : Nat} (hdg : decode cc pc = .ok (.if_icmp .gt off, 3)) (ht : (pc : Int) + off = (tgt : Int)) (kt : y < x → xJ p l e R s m args below meth c cells slots Q A D nL ws lv tgt rest) (kf : ¬ y < x → xJ p l e R s m args below meth c cells slots Q A D nL ws lv (pc + 3) rest) : xJ p l e R s m args below meth c cells slots Q A D nL ws lv pc (.int y :: .int x :: rest) := fun H locs ls hP hS hl => lv_icmp_gt C.ex C.by hdg ht (fun h9 => kt h9 H locs ls hP hS hl) (fun h9 => kf h9 H locs ls hP hS hl)
theorem xj_if_le (C : xC p s m args meth c A D nL tys cc own) {x : Int32} {off : Int} {tgt : Nat} (hdg : decode cc pc = .ok (.ifCond .le off, 3)) (ht : (pc : Int) + off = (tgt : Int)) (kt : x ≤ 0 → xJ p l e R s m args below meth c cells slots Q A D nL ws lv tgt rest) (kf : ¬ x ≤ 0 → xJ p l e R s m args below meth c cells slots Q A D nL ws lv (pc + 3) rest) : xJ p l e R s m args below meth c cells slots Q A D nL ws lv pc (.int x :: rest) := fun H locs ls hP hS hl => lv_if_le C.ex C.by hdg ht (fun h9 => kt h9 H locs ls hP hS hl) (fun h9 => kf h9 H locs ls hP hS hl)
theorem xj_icmp_le (C : xC p s m args meth c A D nL tys cc own) {x y : Int32} {off : Int} {tgt : Nat} (hdg : decode cc pc = .ok (.if_icmp .le off, 3)) (ht : (pc : Int) + off = (tgt : Int)) (kt : x ≤ y → xJ p l e R s m args below meth c cells slots Q A D nL ws lv tgt rest) (kf : ¬ x ≤ y → xJ p l e R s m args below meth c cells slots Q A D nL ws lv (pc + 3) rest) : xJ p l e R s m args below meth c cells slots Q A D nL ws lv pc (.int y :: .int x :: rest) := fun H locs ls hP hS hl => lv_icmp_le C.ex C.by hdg ht (fun h9 => kt h9 H locs ls hP hS hl) (fun h9 => kf h9 H locs ls hP hS hl)
theorem xj_goto (C : xC p s m args meth c A D nL tys cc own) {off : Int} {tgt : Nat} (hdg : decode cc pc = .ok (.goto off, 3)) (ht : (pc : Int) + off = (tgt : Int)) (k : xJ p l e R s m args below meth c cells slots Q A D nL ws lv tgt rest) : xJ p l e R s m args below meth c cells slots Q A D nL ws lv pc rest := fun H locs ls hP hS hl => lv_goto C.ex C.by hdg ht (k H locs ls hP hS hl)
theorem xj_tableOut (C : xC p s m args meth c A D nL tys cc own) {dflt lo hi : Int} {offs : Array Int} {len : Nat} {x : Int32} {tgt : Nat} (hdg : decode cc pc = .ok (.tableswitch dflt lo hi offs, len)) (h : x.toInt < lo ∨ hi < x.toInt) (ht : (pc : Int) + dflt = (tgt : Int)) (k : xJ p l e R s m args below meth c cells slots Q A D nL ws lv tgt rest) : xJ p l e R s m args below meth c cells slots Q A D nL ws lv pc (.int x :: rest) := fun H locs ls hP hS hl => lv_tableOut C.ex C.by hdg h ht (k H locs ls hP hS hl)
theorem xj_tableIn (C : xC p s m args meth c A D nL tys cc own) {dflt lo hi : Int} {offs : Array Int} {len : Nat} {x : Int32} {off : Int} {tgt : Nat} (hdg : decode cc pc = .ok (.tableswitch dflt lo hi offs, len)) (h1 : ¬ x.toInt < lo) (h2 : ¬ hi < x.toInt) (ho : offs[(x.toInt - lo).toNat]? = some off) (ht : (pc : Int) + off = (tgt : Int)) (k : xJ p l e R s m args below meth c cells slots Q A D nL ws lv tgt rest) : xJ p l e R s m args below meth c cells slots Q A D nL ws lv pc (.int x :: rest) := fun H locs ls hP hS hl => lv_tableIn C.ex C.by hdg h1 h2 ho ht (k H locs ls hP hS hl)
theorem xj_lookup (C : xC p s m args meth c A D nL tys cc own) {dflt : Int} {ps : Array (Int × Int)} {len : Nat} {x : Int32} {off : Int} {tgt : Nat} (hdg : decode cc pc = .ok (.lookupswitch dflt ps, len)) (hp : (ps.toList.zip (ps.toList.drop 1)).all (fun (a, next) => a.1 < next.1) = true) (ho : Op.lookupswitch.offset ps.toList dflt x.toInt = off) (ht : (pc : Int) + off = (tgt : Int)) (k : xJ p l e R s m args below meth c cells slots Q A D nL ws lv tgt rest) : xJ p l e R s m args below meth c cells slots Q A D nL ws lv pc (.int x :: rest) := fun H locs ls hP hS hl => lv_lookup C.ex C.by hdg hp ho ht (k H locs ls hP hS hl)
theorem xj_ldc (C : xC p s m args meth c A D nL tys cc own) {index : Nat} {v : Int32} (hconst : Jvm.Cond.constant own index v ∈ BIG) (hdg : decode cc pc = .ok (.ldc index, 2)) (k : xJ p l e R s m args below meth c cells slots Q A D nL ws lv (pc + 2) (.int v :: rest)) : xJ p l e R s m args below meth c cells slots Q A D nL ws lv pc rest := fun H locs ls hP hS hl => lv_ldc C.ex C.by C.ow (C.ts _ hconst) hdg (k H locs ls hP hS hl)
/-- reorder or drop locals -/
theorem xj_lv (ks : List Nat) {lv' : List (Nat × Value)} (h : lv_pick lv ks = lv') (k : xJ p l e R s m args below meth c cells slots Q A D nL ws lv' pc rest) : xJ p l e R s m args below meth c cells slots Q A D nL ws lv pc rest := fun H locs ls hP hS hl => k H locs ls hP hS (lv_sub hl ks h)
/-- an entry of own's pool names field k of the class at place ci of 'classes' -/
def xF (own : String) (index ci k : Nat) : Prop := ∃ (C : String) (T : u_T) (N : Nat), classes[ci]? = some (C, T, N) ∧ (∀ w ∈ u_ws C T N, w ∈ BIG) ∧ k < N ∧ Cond.fieldLink own index (T k).1 (T k).2.1 (T k).2.2.1 ∈ BIG
/-- the same by a nest mate -/
def xFN (own : String) (index ci k : Nat) : Prop := ∃ (C : String) (T : u_T) (N : Nat) (host : String), classes[ci]? = some (C, T, N) ∧ (∀ w ∈ u_ws C T N, w ∈ BIG) ∧ k < N ∧ Cond.fieldLinkNest own index (T k).1 (T k).2.1 (T k).2.2.1 host ∈ BIG
/-- what a store wants besides: the field isn't final, its type -/
def xFW (ci k : Nat) (ty : FieldType) : Prop := ∃ (C : String) (T : u_T) (N : Nat) (t0 : Nat → FieldType), classes[ci]? = some (C, T, N) ∧ (∀ k, k < N → parseFieldDescriptor (T k).2.2.1 = some (t0 k)) ∧ (∀ a, a < N → ∀ b, b < N → a ≠ b → (T a).2.1 ≠ (T b).2.1) ∧ (T k).2.2.2 = false ∧ parseFieldDescriptor (T k).2.2.1 = some ty
theorem xj_get (C : xC p s m args meth c A D nL tys cc own) {index ci k a : Nat} (F : xF own index ci k) (q0 : Nat) {fs : List Value} {v : Value} (he : ws[q0]? = some (a, .inr (ci, fs))) (hv : fs[k]? = some v) (hdg : decode cc pc = .ok (.getfield index, 3)) (kk : xJ p l e R s m args below meth c cells slots Q A D nL ws lv (pc + 3) (v :: rest)) : xJ p l e R s m args below meth c cells slots Q A D nL ws lv pc (.ref a :: rest) := by
  intro H locs ls hP hS hl
  obtain ⟨C9, T9, N9, hc, hin, hk, hlk⟩ := F
  exact va_get (D := D) (ci := ci) (C := C9) (T := T9) (N := N9) C.ex C.by C.ts hin C.ow C.K hP q0 he hc k hk (C.ts _ hlk) (fun _ h9 => h9) hv hdg (kk H locs ls hP hS hl)
theorem xj_put (C : xC p s m args meth c A D nL tys cc own) {index ci k a : Nat} {ty : FieldType} (F : xF own index ci k) (G : xFW ci k ty) (hD : va_D A ws) (q0 : Nat) {fs : List Value} {v : Value} {ws' : va_W} (he : ws[q0]? = some (a, .inr (ci, fs))) (hn : narrow ty v = v) (hfit : fits ty v = true) (hl9 : k < fs.length) (hdg : decode cc pc = .ok (.putfield index, 3)) (hws : ws.set q0 (a, .inr (ci, fs.set k v)) = ws') (kk : xJ p l e R s m args below meth c cells slots Q A D nL ws' lv (pc + 3) rest) : xJ p l e R s m args below meth c cells slots Q A D nL ws lv pc (v :: .ref a :: rest) := by
  intro H locs ls hP hS hl
  obtain ⟨C9, T9, N9, hc, hin, hk, hlk⟩ := F
  obtain ⟨C8, T8, N8, t0, hc8, ht8, hn8, hf8, hp8⟩ := G
  rw [hc] at hc8
  cases hc8
  refine va_put (D := D) (ci := ci) (C := C9) (T := T9) (N := N9) C.ex C.by C.ts hin t0 ht8 hn8 C.ow C.K hP hD hS q0 he hc k hk (C.ts _ hlk) (fun _ h9 => h9) hf8 hp8 hn hfit hl9 hdg (fun H1 locs1 hP1 hD1 hS1 => ?_)
  rw [hws] at hP1
  exact kk H1 locs1 ls hP1 hS1 hl
theorem xj_getN (C : xC p s m args meth c A D nL tys cc own) {index ci k a : Nat} (F : xFN own index ci k) (q0 : Nat) {fs : List Value} {v : Value} (he : ws[q0]? = some (a, .inr (ci, fs))) (hv : fs[k]? = some v) (hdg : decode cc pc = .ok (.getfield index, 3)) (kk : xJ p l e R s m args below meth c cells slots Q A D nL ws lv (pc + 3) (v :: rest)) : xJ p l e R s m args below meth c cells slots Q A D nL ws lv pc (.ref a :: rest) := by
  intro H locs ls hP hS hl
  obtain ⟨C9, T9, N9, host, hc, hin, hk, hlk⟩ := F
  exact va_getN (D := D) (ci := ci) (C := C9) (T := T9) (N := N9) C.ex C.by C.ts hin C.ow C.K hP q0 he hc k hk (C.ts _ hlk) (fun _ h9 => h9) hv hdg (kk H locs ls hP hS hl)
theorem xj_putN (C : xC p s m args meth c A D nL tys cc own) {index ci k a : Nat} {ty : FieldType} (F : xFN own index ci k) (G : xFW ci k ty) (hD : va_D A ws) (q0 : Nat) {fs : List Value} {v : Value} {ws' : va_W} (he : ws[q0]? = some (a, .inr (ci, fs))) (hn : narrow ty v = v) (hfit : fits ty v = true) (hl9 : k < fs.length) (hdg : decode cc pc = .ok (.putfield index, 3)) (hws : ws.set q0 (a, .inr (ci, fs.set k v)) = ws') (kk : xJ p l e R s m args below meth c cells slots Q A D nL ws' lv (pc + 3) rest) : xJ p l e R s m args below meth c cells slots Q A D nL ws lv pc (v :: .ref a :: rest) := by
  intro H locs ls hP hS hl
  obtain ⟨C9, T9, N9, host, hc, hin, hk, hlk⟩ := F
  obtain ⟨C8, T8, N8, t0, hc8, ht8, hn8, hf8, hp8⟩ := G
  rw [hc] at hc8
  cases hc8
  refine va_putN (D := D) (ci := ci) (C := C9) (T := T9) (N := N9) C.ex C.by C.ts hin t0 ht8 hn8 C.ow C.K hP hD hS q0 he hc k hk (C.ts _ hlk) (fun _ h9 => h9) hf8 hp8 hn hfit hl9 hdg (fun H1 locs1 hP1 hD1 hS1 => ?_)
  rw [hws] at hP1
  exact kk H1 locs1 ls hP1 hS1 hl
theorem xj_iald (C : xC p s m args meth c A D nL tys cc own) (q0 t0 : Nat) {a n : Nat} {cA : ClassId} {f : Nat → Int32} {i : Int32} (ha : ws[q0]? = some (a, .inl (cA, n, .inl f))) (ht : tys[t0]? = some (cA, .int)) (hin : vp_in i n) (hdg : decode cc pc = .ok (.iaload, 1)) (kk : xJ p l e R s m args below meth c cells slots Q A D nL ws lv (pc + 1) (.int (f i.toNatClampNeg) :: rest)) : xJ p l e R s m args below meth c cells slots Q A D nL ws lv pc (.int i :: .ref a :: rest) := fun H locs ls hP hS hl => va_iald C.ex C.by C.K hP q0 t0 ha ht hin hdg (kk H locs ls hP hS hl)
theorem xj_iast (C : xC p s m args meth c A D nL tys cc own) (hD : va_D A ws) (q0 t0 : Nat) {a n : Nat} {cA : ClassId} {f : Nat → Int32} {i x : Int32} {ws' : va_W} (ha : ws[q0]? = some (a, .inl (cA, n, .inl f))) (ht : tys[t0]? = some (cA, .int)) (hin : vp_in i n) (hdg : decode cc pc = .ok (.iastore, 1)) (hws : ws.set q0 (a, .inl (cA, n, .inl (upd f i.toNatClampNeg x))) = ws') (kk : xJ p l e R s m args below meth c cells slots Q A D nL ws' lv (pc + 1) rest) : xJ p l e R s m args below meth c cells slots Q A D nL ws lv pc (.int x :: .int i :: .ref a :: rest) := by
  intro H locs ls hP hS hl
  refine va_iast C.ex C.by C.K hP hD hS q0 t0 ha ht hin hdg (fun H1 locs1 hP1 _ hS1 => ?_)
  rw [hws] at hP1
  exact kk H1 locs1 ls hP1 hS1 hl
theorem xj_alen (C : xC p s m args meth c A D nL tys cc own) (q0 t0 : Nat) {a : Nat} {cA : ClassId} {x : vp_A} {ty : FieldType} {v : Int32} (ha : ws[q0]? = some (a, .inl (cA, x))) (ht : tys[t0]? = some (cA, ty)) (hv : Int32.ofNat x.1 = v) (hdg : decode cc pc = .ok (.arraylength, 1)) (kk : xJ p l e R s m args below meth c cells slots Q A D nL ws lv (pc + 1) (.int v :: rest)) : xJ p l e R s m args below meth c cells slots Q A D nL ws lv pc (.ref a :: rest) := fun H locs ls hP hS hl => va_alen C.ex C.by C.K hP q0 t0 ha ht hv hdg (kk H locs ls hP hS hl)
theorem xj_topi {x : Int32} (k : ∀ z : Int32, z = x → xJ p l e R s m args below meth c cells slots Q A D nL ws lv pc (.int z :: rest)) : xJ p l e R s m args below meth c cells slots Q A D nL ws lv pc (.int x :: rest) := k x rfl
def xMM (own : String) (index : Nat) (y : MethodName) (b : ByteArray) : Prop := Cond.methodLink own index y ∈ BIG ∧ Cond.static y ∈ BIG ∧ Cond.initialized "java/lang/Math" ∈ BIG ∧ Cond.code y b 2 (some .int) ∈ BIG
theorem xj_mmax (C : xC p s m args meth c A D nL tys cc own) {index : Nat} {x y : Int32} (h : xMM own index Lib.Math.max.name Lib.Math.max.code) (hf : 1 ≤ R.frames) (hlo : (rest.map fun v => v.category).sum + 13 ≤ R.locals) (hdg : decode cc pc = .ok (.invokestatic index, 3)) (k : xJ p l e R s m args below meth c 0 0 Q A D nL ws lv (pc + 3) (.int (if x < y then y else x) :: rest)) : xJ p l e R s m args below meth c 0 0 Q A D nL ws lv pc (.int y :: .int x :: rest) := fun H locs ls hP hS hl => va_mmax C.ex C.by (C.1.2.2.1.trans hl.1.symm) C.ow (C.ts _ h.1) (C.ts _ h.2.1) (C.ts _ h.2.2.1) (C.ts _ h.2.2.2) hf hlo (Nat.zero_le _) (Nat.zero_le _) hdg (k H locs ls hP hS hl)
theorem xj_mmin (C : xC p s m args meth c A D nL tys cc own) {index : Nat} {x y : Int32} (h : xMM own index Lib.Math.min.name Lib.Math.min.code) (hf : 1 ≤ R.frames) (hlo : (rest.map fun v => v.category).sum + 13 ≤ R.locals) (hdg : decode cc pc = .ok (.invokestatic index, 3)) (k : xJ p l e R s m args below meth c 0 0 Q A D nL ws lv (pc + 3) (.int (if y < x then y else x) :: rest)) : xJ p l e R s m args below meth c 0 0 Q A D nL ws lv pc (.int y :: .int x :: rest) := fun H locs ls hP hS hl => va_mmin C.ex C.by (C.1.2.2.1.trans hl.1.symm) C.ow (C.ts _ h.1) (C.ts _ h.2.1) (C.ts _ h.2.2.1) (C.ts _ h.2.2.2) hf hlo (Nat.zero_le _) (Nat.zero_le _) hdg (k H locs ls hP hS hl)
end XJ
end
section
/-! CONTRACTS over a pure state: the method's answer and its world behind it are 'out', which a pure function gives. -/
def xA (L : List Nat) (sz : Nat) : Nat → Prop := fun q => q ∈ L ∨ sz ≤ q
theorem xD_of {A : Nat → Prop} {ws : va_W} (hn : (ws.map (·.1)).Nodup) (hA : ∀ a ∈ ws.map (·.1), A a) : va_D A ws := by
  refine ⟨fun i j p q hi hj h => ?_, fun k q h => hA _ (List.mem_map.mpr ⟨q, List.mem_of_getElem? h, rfl⟩)⟩
  have h1 : (ws.map (·.1))[i]? = some p.1 := by rw [List.getElem?_map, hi]; rfl
  have h2 : (ws.map (·.1))[j]? = some q.1 := by rw [List.getElem?_map, hj]; rfl
  rw [h] at h1
  exact (List.getElem?_inj (List.getElem?_eq_some_iff.mp h1).1 hn).mp (h1.trans h2.symm)
theorem xD_L {S : Type} {wf : S → va_W} {L : List Nat} (hL : ∀ st, (wf st).map (·.1) = L) (hN : L.Nodup) (sz : Nat) (st : S) : va_D (xA L sz) (wf st) :=
  xD_of (by rw [hL]; exact hN) (fun a h => Or.inl (by rw [← hL st]; exact h))
/-- the tables, as a contract hands them on -/
def xK (D : va_G) (tys : List (ClassId × FieldType)) (U : State) : Prop := va_K D classes tys U ∧ ∀ w ∈ NESTW, va_Nw w U
theorem xK.moved {D : va_G} {tys : List (ClassId × FieldType)} {s U : State} (hW : s.WarmedH U.vm) (h : xK D tys s) : xK D tys U := ⟨va_K.moved hW.alike h.1, fun w hw => NESTW_warm w hw hW (h.2 w hw)⟩
theorem xK.blind {D : va_G} {tys : List (ClassId × FieldType)} {s U : State} (hv : s.vm = U.vm) (h : xK D tys s) : xK D tys U := ⟨va_K.moved (hv ▸ Vm.Alike.refl s.vm) h.1, fun w hw => va_Nw.same (NESTW_tab w hw) hv (h.2 w hw)⟩
abbrev xPc {S : Type} (D : va_G) (tys : List (ClassId × FieldType)) (wf : S → va_W) (av : List Value) (st : S) (sz : Nat) : Array Value → State → Prop := va_Pc av (fun U => U.heap.size = sz ∧ va_P D classes (wf st) U.heap ∧ xK D tys U)
abbrev xQi {S : Type} (D : va_G) (wf : S → va_W) (L : List Nat) (out : Int32 × S) (sz : Nat) : Array Value → State → Outcome → State → Prop := va_Qi (fun r u => out = (r, u)) (fun u t => va_P D classes (wf u) t.heap) (xA L sz)
abbrev xQv {S : Type} (D : va_G) (wf : S → va_W) (L : List Nat) (out : S) (sz : Nat) : Array Value → State → Outcome → State → Prop := va_Qv (fun u => out = u) (fun u t => va_P D classes (wf u) t.heap) (xA L sz)
def xMi {S : Type} (l : Launch) (y : MethodName) (b : ByteArray) (n : Nat) (rt : Option FieldType) (rm : Room) (D : va_G) (tys : List (ClassId × FieldType)) (wf : S → va_W) (L : List Nat) (av : List Value) (st : S) (out : Int32 × S) : Prop :=
  ∀ sz : Nat, Met l y (.code y b n rt :: BIG) rm (xPc D tys wf av st sz) (xQi D wf L out sz) 0 0 (xA L sz)
def xMv {S : Type} (l : Launch) (y : MethodName) (b : ByteArray) (n : Nat) (rt : Option FieldType) (rm : Room) (D : va_G) (tys : List (ClassId × FieldType)) (wf : S → va_W) (L : List Nat) (av : List Value) (st : S) (out : S) : Prop :=
  ∀ sz : Nat, Met l y (.code y b n rt :: BIG) rm (xPc D tys wf av st sz) (xQv D wf L out sz) 0 0 (xA L sz)
section XM
variable {l : Launch} {y : MethodName} {b : ByteArray} {n : Nat} {rt : Option FieldType} {rm : Room} {D : va_G} {tys : List (ClassId × FieldType)} {S : Type} {wf : S → va_W} {L : List Nat} {av : List Value} {st : S}
theorem xM_of {Qc : Array Value → State → Outcome → State → Prop} {mc ms sz : Nat} {free : Addr → Prop} (hy : plainName y.cls = true) (hn : (lg_sl av).length ≤ n)
    (body : ∀ (p : Program) (e : Env) (s : State) (m : MethodId) (below : List Frame) (meth : Method) (c : Code), s.heap.size = sz → meth.sig.returnType = rt → xC p s m av.toArray meth c (xA L sz) D n tys b y.cls → xJ p l e rm s m av.toArray below meth c 0 0 (MQ below Qc av.toArray s mc ms free) (xA L sz) D n (wf st) (lv_args 0 av) 0 []) :
    Met l y (.code y b n rt :: BIG) rm (xPc D tys wf av st sz) Qc mc ms free := by
  refine Met.ofW (cc := b) (maxL := n) (ret := rt) hy rfl ?_
  intro p e s m args below meth c s₁ B hml hv
  obtain ⟨rfl, hsz, hP, hK, hNw⟩ := hv
  have hts := atoms_spec (ws := .code y b n rt :: BIG) B.pre
  have hl := lv_entry av (n := n) hn
  rw [lg_entry_eq]
  exact body p e s m below meth c hsz B.returns ⟨⟨B.exec, B.bytes, hml, findClass_of_methodNamed B.named, fun w h => hts w (List.mem_cons_of_mem _ h)⟩, hK, fun q h => Or.inr (by rw [← hsz]; exact h), B.notSynchronized, hNw⟩ s.heap [] _ hP va_S.rf hl
end XM
section XR
variable {p : Program} {l : Launch} {e : Env} {R : Room} {s : State} {m : MethodId} {args : Array Value} {below : List Frame} {meth : Method} {c : Code} {Q : State → Prop} {cells slots : Nat}
variable {A : Nat → Prop} {D : va_G} {tys : List (ClassId × FieldType)} {nL : Nat} {lv : List (Nat × Value)} {pc : Nat} {rest st0 : List Value} {cc : ByteArray} {own : String} {S : Type} {wf : S → va_W} {L : List Nat} {sz : Nat} {st : S}
theorem xj_iret (C : xC p s m args meth c (xA L sz) D nL tys cc own) (hr : meth.sig.returnType = some .int) {out : Int32 × S} {v : Int32} (ho : some (v, st) = some out) (hdg : decode cc pc = .ok (.ireturn, 1)) : xJ p l e R s m args below meth c cells slots (MQ below (xQi D wf L out sz) args s cells slots (xA L sz)) (xA L sz) D nL (wf st) lv pc [.int v] :=
  fun H locs ls hP hS hl => W.iret (v := v) C.ex C.by hr (fun t ht hW => ⟨⟨v, st, rfl, (Option.some.inj ho).symm, (show va_P D classes (wf st) t.heap by rw [ht]; exact hP)⟩, hS.F ht⟩) hS.2.2 hdg C.lk
theorem xj_zret (C : xC p s m args meth c (xA L sz) D nL tys cc own) {ty : FieldType} (hr : meth.sig.returnType = some ty) {out : Int32 × S} {v : Int32} (hn : narrow ty (.int v) = .int v) (ho : some (v, st) = some out) (hdg : decode cc pc = .ok (.ireturn, 1)) : xJ p l e R s m args below meth c cells slots (MQ below (xQi D wf L out sz) args s cells slots (xA L sz)) (xA L sz) D nL (wf st) lv pc [.int v] :=
  fun H locs ls hP hS hl => W.zret (v := v) C.ex C.by hr hn (fun t ht hW => ⟨⟨v, st, rfl, (Option.some.inj ho).symm, (show va_P D classes (wf st) t.heap by rw [ht]; exact hP)⟩, hS.F ht⟩) hS.2.2 hdg C.lk
theorem xj_vret (C : xC p s m args meth c (xA L sz) D nL tys cc own) (hr : meth.sig.returnType = none) {out : S} (ho : some st = some out) (hdg : decode cc pc = .ok (.return_, 1)) : xJ p l e R s m args below meth c cells slots (MQ below (xQv D wf L out sz) args s cells slots (xA L sz)) (xA L sz) D nL (wf st) lv pc [] :=
  fun H locs ls hP hS hl => W.vret C.ex C.by hr (fun t ht hW => ⟨⟨st, rfl, (Option.some.inj ho).symm, (show va_P D classes (wf st) t.heap by rw [ht]; exact hP)⟩, hS.F ht⟩) hS.2.2 hdg C.lk
/-- what the tables say of a callee -/
def xY (y : MethodName) (b : ByteArray) (n : Nat) (rt : Option FieldType) (np : Nat) : Prop := Cond.code y b n rt ∈ BIG ∧ Cond.initialized y.cls ∈ BIG ∧ (y.cls ≠ "java/lang/invoke/MethodHandle" ∧ y.cls ≠ "java/lang/invoke/VarHandle" ∧ (parseMethodDescriptor y.desc).map (fun d => d.parameters.length) = some np)
theorem xGood {y : MethodName} {b : ByteArray} {n : Nat} {rt : Option FieldType} {np : Nat} (h : xY y b n rt np) : GoodIn BIG (.code y b n rt :: BIG) := by
  intro w hw
  rcases List.mem_cons.mp hw with rfl | hw
  · exact BIG_good _ h.1
  · exact BIG_good w hw
theorem xB (C : xC p s m args meth c A D nL tys cc own) {y : MethodName} {b : ByteArray} {n np index : Nat} {rt : Option FieldType} {rm : Room} {mc ms : Nat} (h : xY y b n rt np) (hl : Cond.methodLink own index y ∈ BIG) (hrc : rm.cells = mc) (hrs : rm.slots = ms) (hR : rm.frames + 1 ≤ R.frames ∧ 8 + (n + 11) + rm.locals ≤ R.locals) : CallB R s args own index y b n rt (.code y b n rt :: BIG) rm mc ms np :=
  callB_of (Ts := BIG) (ws' := BIG) np C.ts (xGood h) rfl hrc hrs (C.ts _ h.2.1) (C.ts _ hl) h.2.2 hR
/-- the callee stands in the receiver's class -/
def xIV (own : String) (index : Nat) (y : MethodName) : Prop := Cond.methodLink own index y ∈ BIG ∧ Cond.instanceMethod y ∈ BIG ∧ Cond.selects y.cls y y ∈ BIG
def xIS (own : String) (index : Nat) (y : MethodName) : Prop := Cond.methodLink own index y ∈ BIG ∧ Cond.static y ∈ BIG
def xISN (own : String) (index : Nat) (y : MethodName) : Prop := ∃ host : String, Cond.methodLinkNest own index y host ∈ NESTW ∧ Cond.static y ∈ BIG
def xIVN (own : String) (index : Nat) (y : MethodName) : Prop := ∃ host : String, Cond.methodLinkNest own index y host ∈ NESTW ∧ Cond.instanceMethod y ∈ BIG ∧ Cond.selects y.cls y y ∈ BIG
theorem xBlind {av : List Value} : FrameBlind (xPc D tys wf av st sz) := fun a U g mk q => by
  obtain ⟨q0, q1, qP, qK⟩ := q
  exact ⟨q0, q1, qP, xK.blind (s := U) (U := U.calling g mk a) rfl qK⟩
theorem xPre (C : xC p s m args meth c A D nL tys cc own) {av : List Value} {H : Heap} (hP : va_P D classes (wf st) H) : ∀ U : State, U.heap = H → s.WarmedH U.vm → xPc D tys wf av st H.size av.toArray U :=
  fun U hU hW => ⟨rfl, by rw [hU], by rw [hU]; exact hP, xK.moved hW ⟨C.K, C.nw⟩⟩
theorem xRecv (C : xC p s m args meth c A D nL tys cc own) {ws : va_W} {H : Heap} (hP : va_P D classes ws H) {a q0 ci : Nat} {fs : List Value} {Cn : String} (he : ws[q0]? = some (a, .inr (ci, fs))) (hc : (classes[ci]?).map (·.1) = some Cn) : ∃ cell : Cell, H[a]? = some cell ∧ cell.vm.isStatics = false ∧ s.vm.findClass Cn = some cell.cls := by
  obtain ⟨q, hq, rfl⟩ := Option.map_eq_some_iff.mp hc
  exact va_recv C.K hP hq he
theorem xFree (C : xC p s m args meth c A D nL tys cc own) {H : Heap} {locs : List Loc} (hS : va_S A s.heap H locs) (hA : ∀ q, q ∈ L → A q) : ∀ q, xA L H.size q → A q := fun q h => h.elim (hA q) (fun h => C.fA q (Nat.le_trans hS.1 h))
theorem xj_callVi (C : xC p s m args meth c A D nL tys cc own) {y : MethodName} {b : ByteArray} {n np index : Nat} {rt : Option FieldType} {rm : Room} {out : Int32 × S} {a : Nat} {As : List Value} (hM : xMi l y b n rt rm D tys wf L (.ref a :: As) st out) (hY : xY y b n rt np) (hI : xIV own index y) (q0 : Nat) {ci : Nat} {fs : List Value} (he : (wf st)[q0]? = some (a, .inr (ci, fs))) (hcl : (classes[ci]?).map (·.1) = some y.cls) (hR : rm.frames + 1 ≤ R.frames ∧ 8 + (n + 11) + rm.locals ≤ R.locals) (hrm : rm.cells = 0 ∧ rm.slots = 0) (hnp : As.length = np) (hs : st0 = As.reverse ++ .ref a :: rest) (hw : (rest.map fun v => v.category).sum ≤ 8) (hdg : decode cc pc = .ok (.invokevirtual index, 3)) (hA : ∀ q, q ∈ L → A q) (k : xJ p l e R s m args below meth c 0 0 Q A D nL (wf out.2) lv (pc + 3) (.int out.1 :: rest)) : xJ p l e R s m args below meth c 0 0 Q A D nL (wf st) lv pc st0 := by
  intro H locs ls hP hS hl
  have hAA := xFree C hS hA
  refine va_calli (va_runV (As := As) (rest := rest) C.1 (hM H.size) ⟨xB C hY hI.1 hrm.1 hrm.2 hR, C.ts _ hI.2.1, C.ts _ hI.2.2⟩ ⟨xBlind, xRecv C hP he hcl, xPre C hP⟩ rfl hnp hl.1 hs (lv_room hw) hdg ⟨Nat.zero_le _, Nat.zero_le _⟩) hS (fun q _ h => hAA q h) hAA (fun r u t H1 locs1 ht hvm hw2 hB hz1 hk1 hS1 => ?_)
  subst hw2
  rw [ht] at hB
  exact k H1 locs1 ls hB hS1 hl
theorem xj_callVv (C : xC p s m args meth c A D nL tys cc own) {y : MethodName} {b : ByteArray} {n np index : Nat} {rt : Option FieldType} {rm : Room} {out : S} {a : Nat} {As : List Value} (hM : xMv l y b n rt rm D tys wf L (.ref a :: As) st out) (hY : xY y b n rt np) (hI : xIV own index y) (q0 : Nat) {ci : Nat} {fs : List Value} (he : (wf st)[q0]? = some (a, .inr (ci, fs))) (hcl : (classes[ci]?).map (·.1) = some y.cls) (hR : rm.frames + 1 ≤ R.frames ∧ 8 + (n + 11) + rm.locals ≤ R.locals) (hrm : rm.cells = 0 ∧ rm.slots = 0) (hnp : As.length = np) (hs : st0 = As.reverse ++ .ref a :: rest) (hw : (rest.map fun v => v.category).sum ≤ 8) (hdg : decode cc pc = .ok (.invokevirtual index, 3)) (hA : ∀ q, q ∈ L → A q) (k : xJ p l e R s m args below meth c 0 0 Q A D nL (wf out) lv (pc + 3) rest) : xJ p l e R s m args below meth c 0 0 Q A D nL (wf st) lv pc st0 := by
  intro H locs ls hP hS hl
  have hAA := xFree C hS hA
  refine va_callv (va_runV (As := As) (rest := rest) C.1 (hM H.size) ⟨xB C hY hI.1 hrm.1 hrm.2 hR, C.ts _ hI.2.1, C.ts _ hI.2.2⟩ ⟨xBlind, xRecv C hP he hcl, xPre C hP⟩ rfl hnp hl.1 hs (lv_room hw) hdg ⟨Nat.zero_le _, Nat.zero_le _⟩) hS (fun q _ h => hAA q h) hAA (fun u t H1 locs1 ht hvm hw2 hB hz1 hk1 hS1 => ?_)
  subst hw2
  rw [ht] at hB
  exact k H1 locs1 ls hB hS1 hl
theorem xj_callSi (C : xC p s m args meth c A D nL tys cc own) {y : MethodName} {b : ByteArray} {n np index : Nat} {rt : Option FieldType} {rm : Room} {out : Int32 × S} {a : Nat} {As : List Value} (hM : xMi l y b n rt rm D tys wf L As st out) (hY : xY y b n rt np) (hI : xIS own index y) (hR : rm.frames + 1 ≤ R.frames ∧ 8 + (n + 11) + rm.locals ≤ R.locals) (hrm : rm.cells = 0 ∧ rm.slots = 0) (hnp : As.length = np) (hs : st0 = As.reverse ++ rest) (hw : (rest.map fun v => v.category).sum ≤ 8) (hdg : decode cc pc = .ok (.invokestatic index, 3)) (hA : ∀ q, q ∈ L → A q) (k : xJ p l e R s m args below meth c 0 0 Q A D nL (wf out.2) lv (pc + 3) (.int out.1 :: rest)) : xJ p l e R s m args below meth c 0 0 Q A D nL (wf st) lv pc st0 := by
  intro H locs ls hP hS hl
  have hAA := xFree C hS hA
  refine va_calli (va_runS (As := As) (rest := rest) C.1 (hM H.size) ⟨xB C hY hI.1 hrm.1 hrm.2 hR, C.ts _ hI.2⟩ ⟨xBlind, xPre C hP⟩ rfl hnp hl.1 hs (lv_room hw) hdg ⟨Nat.zero_le _, Nat.zero_le _⟩) hS (fun q _ h => hAA q h) hAA (fun r u t H1 locs1 ht hvm hw2 hB hz1 hk1 hS1 => ?_)
  subst hw2
  rw [ht] at hB
  exact k H1 locs1 ls hB hS1 hl
theorem xj_callSv (C : xC p s m args meth c A D nL tys cc own) {y : MethodName} {b : ByteArray} {n np index : Nat} {rt : Option FieldType} {rm : Room} {out : S} {a : Nat} {As : List Value} (hM : xMv l y b n rt rm D tys wf L As st out) (hY : xY y b n rt np) (hI : xIS own index y) (hR : rm.frames + 1 ≤ R.frames ∧ 8 + (n + 11) + rm.locals ≤ R.locals) (hrm : rm.cells = 0 ∧ rm.slots = 0) (hnp : As.length = np) (hs : st0 = As.reverse ++ rest) (hw : (rest.map fun v => v.category).sum ≤ 8) (hdg : decode cc pc = .ok (.invokestatic index, 3)) (hA : ∀ q, q ∈ L → A q) (k : xJ p l e R s m args below meth c 0 0 Q A D nL (wf out) lv (pc + 3) rest) : xJ p l e R s m args below meth c 0 0 Q A D nL (wf st) lv pc st0 := by
  intro H locs ls hP hS hl
  have hAA := xFree C hS hA
  refine va_callv (va_runS (As := As) (rest := rest) C.1 (hM H.size) ⟨xB C hY hI.1 hrm.1 hrm.2 hR, C.ts _ hI.2⟩ ⟨xBlind, xPre C hP⟩ rfl hnp hl.1 hs (lv_room hw) hdg ⟨Nat.zero_le _, Nat.zero_le _⟩) hS (fun q _ h => hAA q h) hAA (fun u t H1 locs1 ht hvm hw2 hB hz1 hk1 hS1 => ?_)
  subst hw2
  rw [ht] at hB
  exact k H1 locs1 ls hB hS1 hl
theorem xj_callVNi (C : xC p s m args meth c A D nL tys cc own) {y : MethodName} {b : ByteArray} {n np index : Nat} {rt : Option FieldType} {rm : Room} {out : Int32 × S} {a : Nat} {As : List Value} (hM : xMi l y b n rt rm D tys wf L (.ref a :: As) st out) (hY : xY y b n rt np) (hI : xIVN own index y) (q0 : Nat) {ci : Nat} {fs : List Value} (he : (wf st)[q0]? = some (a, .inr (ci, fs))) (hcl : (classes[ci]?).map (·.1) = some y.cls) (hR : rm.frames + 1 ≤ R.frames ∧ 8 + (n + 11) + rm.locals ≤ R.locals) (hrm : rm.cells = 0 ∧ rm.slots = 0) (hnp : As.length = np) (hs : st0 = As.reverse ++ .ref a :: rest) (hw : (rest.map fun v => v.category).sum ≤ 8) (hdg : decode cc pc = .ok (.invokevirtual index, 3)) (hA : ∀ q, q ∈ L → A q) (k : xJ p l e R s m args below meth c 0 0 Q A D nL (wf out.2) lv (pc + 3) (.int out.1 :: rest)) : xJ p l e R s m args below meth c 0 0 Q A D nL (wf st) lv pc st0 := by
  intro H locs ls hP hS hl
  have hAA := xFree C hS hA
  obtain ⟨host, hI1, hI2⟩ := hI
  refine va_calli (va_runVN (As := As) (rest := rest) C.1 (hM H.size) ⟨va_cnB (Ts := BIG) (ws' := BIG) np C.ts (xGood hY) rfl hrm.1 hrm.2 (C.nw _ hI1) (C.ts _ hY.2.1) hY.2.2 hR, C.ts _ hI2.1, C.ts _ hI2.2⟩ ⟨xBlind, xRecv C hP he hcl, xPre C hP⟩ rfl hnp hl.1 hs (lv_room hw) hdg ⟨Nat.zero_le _, Nat.zero_le _⟩) hS (fun q _ h => hAA q h) hAA (fun r u t H1 locs1 ht hvm hw2 hB hz1 hk1 hS1 => ?_)
  subst hw2
  rw [ht] at hB
  exact k H1 locs1 ls hB hS1 hl
theorem xj_callVNv (C : xC p s m args meth c A D nL tys cc own) {y : MethodName} {b : ByteArray} {n np index : Nat} {rt : Option FieldType} {rm : Room} {out : S} {a : Nat} {As : List Value} (hM : xMv l y b n rt rm D tys wf L (.ref a :: As) st out) (hY : xY y b n rt np) (hI : xIVN own index y) (q0 : Nat) {ci : Nat} {fs : List Value} (he : (wf st)[q0]? = some (a, .inr (ci, fs))) (hcl : (classes[ci]?).map (·.1) = some y.cls) (hR : rm.frames + 1 ≤ R.frames ∧ 8 + (n + 11) + rm.locals ≤ R.locals) (hrm : rm.cells = 0 ∧ rm.slots = 0) (hnp : As.length = np) (hs : st0 = As.reverse ++ .ref a :: rest) (hw : (rest.map fun v => v.category).sum ≤ 8) (hdg : decode cc pc = .ok (.invokevirtual index, 3)) (hA : ∀ q, q ∈ L → A q) (k : xJ p l e R s m args below meth c 0 0 Q A D nL (wf out) lv (pc + 3) rest) : xJ p l e R s m args below meth c 0 0 Q A D nL (wf st) lv pc st0 := by
  intro H locs ls hP hS hl
  have hAA := xFree C hS hA
  obtain ⟨host, hI1, hI2⟩ := hI
  refine va_callv (va_runVN (As := As) (rest := rest) C.1 (hM H.size) ⟨va_cnB (Ts := BIG) (ws' := BIG) np C.ts (xGood hY) rfl hrm.1 hrm.2 (C.nw _ hI1) (C.ts _ hY.2.1) hY.2.2 hR, C.ts _ hI2.1, C.ts _ hI2.2⟩ ⟨xBlind, xRecv C hP he hcl, xPre C hP⟩ rfl hnp hl.1 hs (lv_room hw) hdg ⟨Nat.zero_le _, Nat.zero_le _⟩) hS (fun q _ h => hAA q h) hAA (fun u t H1 locs1 ht hvm hw2 hB hz1 hk1 hS1 => ?_)
  subst hw2
  rw [ht] at hB
  exact k H1 locs1 ls hB hS1 hl
theorem xj_callSNi (C : xC p s m args meth c A D nL tys cc own) {y : MethodName} {b : ByteArray} {n np index : Nat} {rt : Option FieldType} {rm : Room} {out : Int32 × S} {a : Nat} {As : List Value} (hM : xMi l y b n rt rm D tys wf L As st out) (hY : xY y b n rt np) (hI : xISN own index y) (hR : rm.frames + 1 ≤ R.frames ∧ 8 + (n + 11) + rm.locals ≤ R.locals) (hrm : rm.cells = 0 ∧ rm.slots = 0) (hnp : As.length = np) (hs : st0 = As.reverse ++ rest) (hw : (rest.map fun v => v.category).sum ≤ 8) (hdg : decode cc pc = .ok (.invokestatic index, 3)) (hA : ∀ q, q ∈ L → A q) (k : xJ p l e R s m args below meth c 0 0 Q A D nL (wf out.2) lv (pc + 3) (.int out.1 :: rest)) : xJ p l e R s m args below meth c 0 0 Q A D nL (wf st) lv pc st0 := by
  intro H locs ls hP hS hl
  have hAA := xFree C hS hA
  obtain ⟨host, hI1, hI2⟩ := hI
  refine va_calli (va_runSN (As := As) (rest := rest) C.1 (hM H.size) ⟨va_cnB (Ts := BIG) (ws' := BIG) np C.ts (xGood hY) rfl hrm.1 hrm.2 (C.nw _ hI1) (C.ts _ hY.2.1) hY.2.2 hR, C.ts _ hI2, trivial⟩ ⟨xBlind, xPre C hP⟩ rfl hnp hl.1 hs (lv_room hw) hdg ⟨Nat.zero_le _, Nat.zero_le _⟩) hS (fun q _ h => hAA q h) hAA (fun r u t H1 locs1 ht hvm hw2 hB hz1 hk1 hS1 => ?_)
  subst hw2
  rw [ht] at hB
  exact k H1 locs1 ls hB hS1 hl
theorem xj_callSNv (C : xC p s m args meth c A D nL tys cc own) {y : MethodName} {b : ByteArray} {n np index : Nat} {rt : Option FieldType} {rm : Room} {out : S} {a : Nat} {As : List Value} (hM : xMv l y b n rt rm D tys wf L As st out) (hY : xY y b n rt np) (hI : xISN own index y) (hR : rm.frames + 1 ≤ R.frames ∧ 8 + (n + 11) + rm.locals ≤ R.locals) (hrm : rm.cells = 0 ∧ rm.slots = 0) (hnp : As.length = np) (hs : st0 = As.reverse ++ rest) (hw : (rest.map fun v => v.category).sum ≤ 8) (hdg : decode cc pc = .ok (.invokestatic index, 3)) (hA : ∀ q, q ∈ L → A q) (k : xJ p l e R s m args below meth c 0 0 Q A D nL (wf out) lv (pc + 3) rest) : xJ p l e R s m args below meth c 0 0 Q A D nL (wf st) lv pc st0 := by
  intro H locs ls hP hS hl
  have hAA := xFree C hS hA
  obtain ⟨host, hI1, hI2⟩ := hI
  refine va_callv (va_runSN (As := As) (rest := rest) C.1 (hM H.size) ⟨va_cnB (Ts := BIG) (ws' := BIG) np C.ts (xGood hY) rfl hrm.1 hrm.2 (C.nw _ hI1) (C.ts _ hY.2.1) hY.2.2 hR, C.ts _ hI2, trivial⟩ ⟨xBlind, xPre C hP⟩ rfl hnp hl.1 hs (lv_room hw) hdg ⟨Nat.zero_le _, Nat.zero_le _⟩) hS (fun q _ h => hAA q h) hAA (fun u t H1 locs1 ht hvm hw2 hB hz1 hk1 hS1 => ?_)
  subst hw2
  rw [ht] at hB
  exact k H1 locs1 ls hB hS1 hl
end XR
abbrev j_i {S : Type} (p : Program) (l : Launch) (e : Env) (R : Room) (s : State) (m : MethodId) (args : Array Value) (below : List Frame) (meth : Method) (c : Code) (sz : Nat) (D : va_G) (wf : S → va_W) (L : List Nat) (out : Int32 × S) (nL : Nat) (ws : va_W) (lv : List (Nat × Value)) (pc : Nat) (st : List Value) : Prop := xJ p l e R s m args below meth c 0 0 (MQ below (xQi D wf L out sz) args s 0 0 (xA L sz)) (xA L sz) D nL ws lv pc st
abbrev j_v {S : Type} (p : Program) (l : Launch) (e : Env) (R : Room) (s : State) (m : MethodId) (args : Array Value) (below : List Frame) (meth : Method) (c : Code) (sz : Nat) (D : va_G) (wf : S → va_W) (L : List Nat) (out : S) (nL : Nat) (ws : va_W) (lv : List (Nat × Value)) (pc : Nat) (st : List Value) : Prop := xJ p l e R s m args below meth c 0 0 (MQ below (xQv D wf L out sz) args s 0 0 (xA L sz)) (xA L sz) D nL ws lv pc st
end
section
theorem d_LR_canMeasure_0 : decode b_LR_canMeasure 0 = .ok (.iload_n 0, 1) := by decide +kernel
theorem d_LR_canMeasure_1 : decode b_LR_canMeasure 1 = .ok (.iconst 1, 1) := by decide +kernel
theorem d_LR_canMeasure_2 : decode b_LR_canMeasure 2 = .ok (.bipush 8, 2) := by decide +kernel
theorem d_LR_canMeasure_4 : decode b_LR_canMeasure 4 = .ok (.invokestatic 45, 3) := by decide +kernel
theorem d_LR_canMeasure_7 : decode b_LR_canMeasure 7 = .ok (.ifCond .eq 16, 3) := by decide +kernel
theorem d_LR_canMeasure_10 : decode b_LR_canMeasure 10 = .ok (.iload_n 1, 1) := by decide +kernel
theorem d_LR_canMeasure_11 : decode b_LR_canMeasure 11 = .ok (.iconst 1, 1) := by decide +kernel
theorem d_LR_canMeasure_12 : decode b_LR_canMeasure 12 = .ok (.iconst 3, 1) := by decide +kernel
theorem d_LR_canMeasure_13 : decode b_LR_canMeasure 13 = .ok (.invokestatic 45, 3) := by decide +kernel
theorem d_LR_canMeasure_16 : decode b_LR_canMeasure 16 = .ok (.ifCond .eq 7, 3) := by decide +kernel
theorem d_LR_canMeasure_19 : decode b_LR_canMeasure 19 = .ok (.iconst 1, 1) := by decide +kernel
theorem d_LR_canMeasure_20 : decode b_LR_canMeasure 20 = .ok (.goto 4, 3) := by decide +kernel
theorem d_LR_canMeasure_23 : decode b_LR_canMeasure 23 = .ok (.iconst 0, 1) := by decide +kernel
theorem d_LR_canMeasure_24 : decode b_LR_canMeasure 24 = .ok (.ireturn, 1) := by decide +kernel
theorem d_LR_closed_0 : decode b_LR_closed 0 = .ok (.aload_n 0, 1) := by decide +kernel
theorem d_LR_closed_1 : decode b_LR_closed 1 = .ok (.getfield 12, 3) := by decide +kernel
theorem d_LR_closed_4 : decode b_LR_closed 4 = .ok (.iload_n 1, 1) := by decide +kernel
theorem d_LR_closed_5 : decode b_LR_closed 5 = .ok (.invokevirtual 75, 3) := by decide +kernel
theorem d_LR_closed_8 : decode b_LR_closed 8 = .ok (.ifCond .eq 19, 3) := by decide +kernel
theorem d_LR_closed_11 : decode b_LR_closed 11 = .ok (.iload_n 2, 1) := by decide +kernel
theorem d_LR_closed_12 : decode b_LR_closed 12 = .ok (.ifCond .lt 15, 3) := by decide +kernel
theorem d_LR_closed_15 : decode b_LR_closed 15 = .ok (.iload_n 2, 1) := by decide +kernel
theorem d_LR_closed_16 : decode b_LR_closed 16 = .ok (.iload_n 3, 1) := by decide +kernel
theorem d_LR_closed_17 : decode b_LR_closed 17 = .ok (.if_icmp .ge 10, 3) := by decide +kernel
theorem d_LR_closed_20 : decode b_LR_closed 20 = .ok (.iload_n 3, 1) := by decide +kernel
theorem d_LR_closed_21 : decode b_LR_closed 21 = .ok (.sipush 10000, 3) := by decide +kernel
theorem d_LR_closed_24 : decode b_LR_closed 24 = .ok (.if_icmp .le 5, 3) := by decide +kernel
theorem d_LR_closed_27 : decode b_LR_closed 27 = .ok (.iconst 0, 1) := by decide +kernel
theorem d_LR_closed_28 : decode b_LR_closed 28 = .ok (.ireturn, 1) := by decide +kernel
theorem d_LR_closed_29 : decode b_LR_closed 29 = .ok (.aload_n 0, 1) := by decide +kernel
theorem d_LR_closed_30 : decode b_LR_closed 30 = .ok (.getfield 12, 3) := by decide +kernel
theorem d_LR_closed_33 : decode b_LR_closed 33 = .ok (.iload_n 1, 1) := by decide +kernel
theorem d_LR_closed_34 : decode b_LR_closed 34 = .ok (.iload_n 2, 1) := by decide +kernel
theorem d_LR_closed_35 : decode b_LR_closed 35 = .ok (.iload_n 3, 1) := by decide +kernel
theorem d_LR_closed_36 : decode b_LR_closed 36 = .ok (.invokevirtual 79, 3) := by decide +kernel
theorem d_LR_closed_39 : decode b_LR_closed 39 = .ok (.ifCond .ne 5, 3) := by decide +kernel
theorem d_LR_closed_42 : decode b_LR_closed 42 = .ok (.iconst 0, 1) := by decide +kernel
theorem d_LR_closed_43 : decode b_LR_closed 43 = .ok (.ireturn, 1) := by decide +kernel
theorem d_LR_closed_44 : decode b_LR_closed 44 = .ok (.aload_n 0, 1) := by decide +kernel
theorem d_LR_closed_45 : decode b_LR_closed 45 = .ok (.getfield 37, 3) := by decide +kernel
theorem d_LR_closed_48 : decode b_LR_closed 48 = .ok (.invokevirtual 65, 3) := by decide +kernel
theorem d_LR_closed_51 : decode b_LR_closed 51 = .ok (.iconst 1, 1) := by decide +kernel
theorem d_LR_closed_52 : decode b_LR_closed 52 = .ok (.ireturn, 1) := by decide +kernel
theorem d_LR_count_0 : decode b_LR_count 0 = .ok (.iload_n 1, 1) := by decide +kernel
theorem d_LR_count_1 : decode b_LR_count 1 = .ok (.tableswitch 115 0 7 #[47, 55, 63, 71, 87, 95, 103, 109], 47) := by decide +kernel
theorem d_LR_count_48 : decode b_LR_count 48 = .ok (.aload_n 0, 1) := by decide +kernel
theorem d_LR_count_49 : decode b_LR_count 49 = .ok (.getfield 12, 3) := by decide +kernel
theorem d_LR_count_52 : decode b_LR_count 52 = .ok (.invokevirtual 141, 3) := by decide +kernel
theorem d_LR_count_55 : decode b_LR_count 55 = .ok (.ireturn, 1) := by decide +kernel
theorem d_LR_count_56 : decode b_LR_count 56 = .ok (.aload_n 0, 1) := by decide +kernel
theorem d_LR_count_57 : decode b_LR_count 57 = .ok (.getfield 19, 3) := by decide +kernel
theorem d_LR_count_60 : decode b_LR_count 60 = .ok (.invokevirtual 151, 3) := by decide +kernel
theorem d_LR_count_63 : decode b_LR_count 63 = .ok (.ireturn, 1) := by decide +kernel
theorem d_LR_count_64 : decode b_LR_count 64 = .ok (.aload_n 0, 1) := by decide +kernel
theorem d_LR_count_65 : decode b_LR_count 65 = .ok (.getfield 12, 3) := by decide +kernel
theorem d_LR_count_68 : decode b_LR_count 68 = .ok (.invokevirtual 152, 3) := by decide +kernel
theorem d_LR_count_71 : decode b_LR_count 71 = .ok (.ireturn, 1) := by decide +kernel
theorem d_LR_count_72 : decode b_LR_count 72 = .ok (.aload_n 0, 1) := by decide +kernel
theorem d_LR_count_73 : decode b_LR_count 73 = .ok (.getfield 37, 3) := by decide +kernel
theorem d_LR_count_76 : decode b_LR_count 76 = .ok (.invokevirtual 113, 3) := by decide +kernel
theorem d_LR_count_79 : decode b_LR_count 79 = .ok (.ifCond .eq 7, 3) := by decide +kernel
theorem d_LR_count_82 : decode b_LR_count 82 = .ok (.iconst 1, 1) := by decide +kernel
theorem d_LR_count_83 : decode b_LR_count 83 = .ok (.goto 4, 3) := by decide +kernel
theorem d_LR_count_86 : decode b_LR_count 86 = .ok (.iconst 0, 1) := by decide +kernel
theorem d_LR_count_87 : decode b_LR_count 87 = .ok (.ireturn, 1) := by decide +kernel
theorem d_LR_count_88 : decode b_LR_count 88 = .ok (.aload_n 0, 1) := by decide +kernel
theorem d_LR_count_89 : decode b_LR_count 89 = .ok (.getfield 28, 3) := by decide +kernel
theorem d_LR_count_92 : decode b_LR_count 92 = .ok (.invokevirtual 155, 3) := by decide +kernel
theorem d_LR_count_95 : decode b_LR_count 95 = .ok (.ireturn, 1) := by decide +kernel
theorem d_LR_count_96 : decode b_LR_count 96 = .ok (.aload_n 0, 1) := by decide +kernel
theorem d_LR_count_97 : decode b_LR_count 97 = .ok (.getfield 37, 3) := by decide +kernel
theorem d_LR_count_100 : decode b_LR_count 100 = .ok (.invokevirtual 158, 3) := by decide +kernel
theorem d_LR_count_103 : decode b_LR_count 103 = .ok (.ireturn, 1) := by decide +kernel
theorem d_LR_count_104 : decode b_LR_count 104 = .ok (.aload_n 0, 1) := by decide +kernel
theorem d_LR_count_105 : decode b_LR_count 105 = .ok (.iconst 0, 1) := by decide +kernel
theorem d_LR_count_106 : decode b_LR_count 106 = .ok (.invokevirtual 161, 3) := by decide +kernel
theorem d_LR_count_109 : decode b_LR_count 109 = .ok (.ireturn, 1) := by decide +kernel
theorem d_LR_count_110 : decode b_LR_count 110 = .ok (.aload_n 0, 1) := by decide +kernel
theorem d_LR_count_111 : decode b_LR_count 111 = .ok (.iconst 1, 1) := by decide +kernel
theorem d_LR_count_112 : decode b_LR_count 112 = .ok (.invokevirtual 161, 3) := by decide +kernel
theorem d_LR_count_115 : decode b_LR_count 115 = .ok (.ireturn, 1) := by decide +kernel
theorem d_LR_count_116 : decode b_LR_count 116 = .ok (.iconst (-1), 1) := by decide +kernel
theorem d_LR_count_117 : decode b_LR_count 117 = .ok (.ireturn, 1) := by decide +kernel
theorem d_LR_holds_0 : decode b_LR_holds 0 = .ok (.iload_n 0, 1) := by decide +kernel
theorem d_LR_holds_1 : decode b_LR_holds 1 = .ok (.iconst 1, 1) := by decide +kernel
theorem d_LR_holds_2 : decode b_LR_holds 2 = .ok (.iload_n 1, 1) := by decide +kernel
theorem d_LR_holds_3 : decode b_LR_holds 3 = .ok (.ishl, 1) := by decide +kernel
theorem d_LR_holds_4 : decode b_LR_holds 4 = .ok (.iand, 1) := by decide +kernel
theorem d_LR_holds_5 : decode b_LR_holds 5 = .ok (.ifCond .eq 7, 3) := by decide +kernel
theorem d_LR_holds_8 : decode b_LR_holds 8 = .ok (.iconst 1, 1) := by decide +kernel
theorem d_LR_holds_9 : decode b_LR_holds 9 = .ok (.goto 4, 3) := by decide +kernel
theorem d_LR_holds_12 : decode b_LR_holds 12 = .ok (.iconst 0, 1) := by decide +kernel
theorem d_LR_holds_13 : decode b_LR_holds 13 = .ok (.ireturn, 1) := by decide +kernel
theorem d_LR_plan_0 : decode b_LR_plan 0 = .ok (.aload_n 0, 1) := by decide +kernel
theorem d_LR_plan_1 : decode b_LR_plan 1 = .ok (.getfield 37, 3) := by decide +kernel
theorem d_LR_plan_4 : decode b_LR_plan 4 = .ok (.invokevirtual 89, 3) := by decide +kernel
theorem d_LR_plan_7 : decode b_LR_plan 7 = .ok (.ifCond .eq 13, 3) := by decide +kernel
theorem d_LR_plan_10 : decode b_LR_plan 10 = .ok (.aload_n 0, 1) := by decide +kernel
theorem d_LR_plan_11 : decode b_LR_plan 11 = .ok (.getfield 37, 3) := by decide +kernel
theorem d_LR_plan_14 : decode b_LR_plan 14 = .ok (.invokevirtual 93, 3) := by decide +kernel
theorem d_LR_plan_17 : decode b_LR_plan 17 = .ok (.goto 4, 3) := by decide +kernel
theorem d_LR_plan_20 : decode b_LR_plan 20 = .ok (.iconst (-1), 1) := by decide +kernel
theorem d_LR_plan_21 : decode b_LR_plan 21 = .ok (.ireturn, 1) := by decide +kernel
theorem d_LR_rule_0 : decode b_LR_rule 0 = .ok (.iload_n 1, 1) := by decide +kernel
theorem d_LR_rule_1 : decode b_LR_rule 1 = .ok (.iconst 0, 1) := by decide +kernel
theorem d_LR_rule_2 : decode b_LR_rule 2 = .ok (.iconst 3, 1) := by decide +kernel
theorem d_LR_rule_3 : decode b_LR_rule 3 = .ok (.invokestatic 45, 3) := by decide +kernel
theorem d_LR_rule_6 : decode b_LR_rule 6 = .ok (.ifCond .eq 12, 3) := by decide +kernel
theorem d_LR_rule_9 : decode b_LR_rule 9 = .ok (.iload_n 2, 1) := by decide +kernel
theorem d_LR_rule_10 : decode b_LR_rule 10 = .ok (.iconst 0, 1) := by decide +kernel
theorem d_LR_rule_11 : decode b_LR_rule 11 = .ok (.iconst 3, 1) := by decide +kernel
theorem d_LR_rule_12 : decode b_LR_rule 12 = .ok (.invokestatic 45, 3) := by decide +kernel
theorem d_LR_rule_15 : decode b_LR_rule 15 = .ok (.ifCond .ne 5, 3) := by decide +kernel
theorem d_LR_rule_18 : decode b_LR_rule 18 = .ok (.iconst 0, 1) := by decide +kernel
theorem d_LR_rule_19 : decode b_LR_rule 19 = .ok (.ireturn, 1) := by decide +kernel
theorem d_LR_rule_20 : decode b_LR_rule 20 = .ok (.aload_n 0, 1) := by decide +kernel
theorem d_LR_rule_21 : decode b_LR_rule 21 = .ok (.getfield 28, 3) := by decide +kernel
theorem d_LR_rule_24 : decode b_LR_rule 24 = .ok (.iload_n 1, 1) := by decide +kernel
theorem d_LR_rule_25 : decode b_LR_rule 25 = .ok (.invokevirtual 82, 3) := by decide +kernel
theorem d_LR_rule_28 : decode b_LR_rule 28 = .ok (.aload_n 0, 1) := by decide +kernel
theorem d_LR_rule_29 : decode b_LR_rule 29 = .ok (.getfield 37, 3) := by decide +kernel
theorem d_LR_rule_32 : decode b_LR_rule 32 = .ok (.iload_n 2, 1) := by decide +kernel
theorem d_LR_rule_33 : decode b_LR_rule 33 = .ok (.invokevirtual 86, 3) := by decide +kernel
theorem d_LR_rule_36 : decode b_LR_rule 36 = .ok (.aload_n 0, 1) := by decide +kernel
theorem d_LR_rule_37 : decode b_LR_rule 37 = .ok (.getfield 37, 3) := by decide +kernel
theorem d_LR_rule_40 : decode b_LR_rule 40 = .ok (.invokevirtual 65, 3) := by decide +kernel
theorem d_LR_rule_43 : decode b_LR_rule 43 = .ok (.iconst 1, 1) := by decide +kernel
theorem d_LR_rule_44 : decode b_LR_rule 44 = .ok (.ireturn, 1) := by decide +kernel
theorem d_LR_runsOf_0 : decode b_LR_runsOf 0 = .ok (.aload_n 0, 1) := by decide +kernel
theorem d_LR_runsOf_1 : decode b_LR_runsOf 1 = .ok (.getfield 12, 3) := by decide +kernel
theorem d_LR_runsOf_4 : decode b_LR_runsOf 4 = .ok (.iload_n 1, 1) := by decide +kernel
theorem d_LR_runsOf_5 : decode b_LR_runsOf 5 = .ok (.invokevirtual 75, 3) := by decide +kernel
theorem d_LR_runsOf_8 : decode b_LR_runsOf 8 = .ok (.ifCond .eq 24, 3) := by decide +kernel
theorem d_LR_runsOf_11 : decode b_LR_runsOf 11 = .ok (.aload_n 0, 1) := by decide +kernel
theorem d_LR_runsOf_12 : decode b_LR_runsOf 12 = .ok (.getfield 37, 3) := by decide +kernel
theorem d_LR_runsOf_15 : decode b_LR_runsOf 15 = .ok (.invokevirtual 113, 3) := by decide +kernel
theorem d_LR_runsOf_18 : decode b_LR_runsOf 18 = .ok (.ifCond .eq 14, 3) := by decide +kernel
theorem d_LR_runsOf_21 : decode b_LR_runsOf 21 = .ok (.aload_n 0, 1) := by decide +kernel
theorem d_LR_runsOf_22 : decode b_LR_runsOf 22 = .ok (.getfield 37, 3) := by decide +kernel
theorem d_LR_runsOf_25 : decode b_LR_runsOf 25 = .ok (.iload_n 1, 1) := by decide +kernel
theorem d_LR_runsOf_26 : decode b_LR_runsOf 26 = .ok (.invokevirtual 165, 3) := by decide +kernel
theorem d_LR_runsOf_29 : decode b_LR_runsOf 29 = .ok (.goto 4, 3) := by decide +kernel
theorem d_LR_runsOf_32 : decode b_LR_runsOf 32 = .ok (.iconst (-1), 1) := by decide +kernel
theorem d_LR_runsOf_33 : decode b_LR_runsOf 33 = .ok (.ireturn, 1) := by decide +kernel
theorem d_LR_within_0 : decode b_LR_within 0 = .ok (.iload_n 0, 1) := by decide +kernel
theorem d_LR_within_1 : decode b_LR_within 1 = .ok (.iload_n 1, 1) := by decide +kernel
theorem d_LR_within_2 : decode b_LR_within 2 = .ok (.if_icmp .lt 12, 3) := by decide +kernel
theorem d_LR_within_5 : decode b_LR_within 5 = .ok (.iload_n 0, 1) := by decide +kernel
theorem d_LR_within_6 : decode b_LR_within 6 = .ok (.iload_n 2, 1) := by decide +kernel
theorem d_LR_within_7 : decode b_LR_within 7 = .ok (.if_icmp .gt 7, 3) := by decide +kernel
theorem d_LR_within_10 : decode b_LR_within 10 = .ok (.iconst 1, 1) := by decide +kernel
theorem d_LR_within_11 : decode b_LR_within 11 = .ok (.goto 4, 3) := by decide +kernel
theorem d_LR_within_14 : decode b_LR_within 14 = .ok (.iconst 0, 1) := by decide +kernel
theorem d_LR_within_15 : decode b_LR_within 15 = .ok (.ireturn, 1) := by decide +kernel
theorem d_Be_canLay_0 : decode b_Be_canLay 0 = .ok (.aload_n 0, 1) := by decide +kernel
theorem d_Be_canLay_1 : decode b_Be_canLay 1 = .ok (.getfield 29, 3) := by decide +kernel
theorem d_Be_canLay_4 : decode b_Be_canLay 4 = .ok (.iconst 2, 1) := by decide +kernel
theorem d_Be_canLay_5 : decode b_Be_canLay 5 = .ok (.imul, 1) := by decide +kernel
theorem d_Be_canLay_6 : decode b_Be_canLay 6 = .ok (.iload_n 1, 1) := by decide +kernel
theorem d_Be_canLay_7 : decode b_Be_canLay 7 = .ok (.iadd, 1) := by decide +kernel
theorem d_Be_canLay_8 : decode b_Be_canLay 8 = .ok (.bipush 16, 2) := by decide +kernel
theorem d_Be_canLay_10 : decode b_Be_canLay 10 = .ok (.imul, 1) := by decide +kernel
theorem d_Be_canLay_11 : decode b_Be_canLay 11 = .ok (.iload_n 2, 1) := by decide +kernel
theorem d_Be_canLay_12 : decode b_Be_canLay 12 = .ok (.iadd, 1) := by decide +kernel
theorem d_Be_canLay_13 : decode b_Be_canLay 13 = .ok (.istore_n 3, 1) := by decide +kernel
theorem d_Be_canLay_14 : decode b_Be_canLay 14 = .ok (.iload_n 3, 1) := by decide +kernel
theorem d_Be_canLay_15 : decode b_Be_canLay 15 = .ok (.ifCond .lt 12, 3) := by decide +kernel
theorem d_Be_canLay_18 : decode b_Be_canLay 18 = .ok (.iload_n 3, 1) := by decide +kernel
theorem d_Be_canLay_19 : decode b_Be_canLay 19 = .ok (.aload_n 0, 1) := by decide +kernel
theorem d_Be_canLay_20 : decode b_Be_canLay 20 = .ok (.getfield 18, 3) := by decide +kernel
theorem d_Be_canLay_23 : decode b_Be_canLay 23 = .ok (.arraylength, 1) := by decide +kernel
theorem d_Be_canLay_24 : decode b_Be_canLay 24 = .ok (.if_icmp .lt 5, 3) := by decide +kernel
theorem d_Be_canLay_27 : decode b_Be_canLay 27 = .ok (.iconst 0, 1) := by decide +kernel
theorem d_Be_canLay_28 : decode b_Be_canLay 28 = .ok (.ireturn, 1) := by decide +kernel
theorem d_Be_canLay_29 : decode b_Be_canLay 29 = .ok (.aload_n 0, 1) := by decide +kernel
theorem d_Be_canLay_30 : decode b_Be_canLay 30 = .ok (.getfield 18, 3) := by decide +kernel
theorem d_Be_canLay_33 : decode b_Be_canLay 33 = .ok (.iload_n 3, 1) := by decide +kernel
theorem d_Be_canLay_34 : decode b_Be_canLay 34 = .ok (.iaload, 1) := by decide +kernel
theorem d_Be_canLay_35 : decode b_Be_canLay 35 = .ok (.ifCond .ne 25, 3) := by decide +kernel
theorem d_Be_canLay_38 : decode b_Be_canLay 38 = .ok (.aload_n 0, 1) := by decide +kernel
theorem d_Be_canLay_39 : decode b_Be_canLay 39 = .ok (.getfield 18, 3) := by decide +kernel
theorem d_Be_canLay_42 : decode b_Be_canLay 42 = .ok (.iload_n 3, 1) := by decide +kernel
theorem d_Be_canLay_43 : decode b_Be_canLay 43 = .ok (.aload_n 0, 1) := by decide +kernel
theorem d_Be_canLay_44 : decode b_Be_canLay 44 = .ok (.iconst 0, 1) := by decide +kernel
theorem d_Be_canLay_45 : decode b_Be_canLay 45 = .ok (.iload_n 1, 1) := by decide +kernel
theorem d_Be_canLay_46 : decode b_Be_canLay 46 = .ok (.iload_n 2, 1) := by decide +kernel
theorem d_Be_canLay_47 : decode b_Be_canLay 47 = .ok (.iconst 0, 1) := by decide +kernel
theorem d_Be_canLay_48 : decode b_Be_canLay 48 = .ok (.invokevirtual 33, 3) := by decide +kernel
theorem d_Be_canLay_51 : decode b_Be_canLay 51 = .ok (.ifCond .eq 7, 3) := by decide +kernel
theorem d_Be_canLay_54 : decode b_Be_canLay 54 = .ok (.iconst 1, 1) := by decide +kernel
theorem d_Be_canLay_55 : decode b_Be_canLay 55 = .ok (.goto 4, 3) := by decide +kernel
theorem d_Be_canLay_58 : decode b_Be_canLay 58 = .ok (.iconst 2, 1) := by decide +kernel
theorem d_Be_canLay_59 : decode b_Be_canLay 59 = .ok (.iastore, 1) := by decide +kernel
theorem d_Be_canLay_60 : decode b_Be_canLay 60 = .ok (.aload_n 0, 1) := by decide +kernel
theorem d_Be_canLay_61 : decode b_Be_canLay 61 = .ok (.getfield 18, 3) := by decide +kernel
theorem d_Be_canLay_64 : decode b_Be_canLay 64 = .ok (.iload_n 3, 1) := by decide +kernel
theorem d_Be_canLay_65 : decode b_Be_canLay 65 = .ok (.iaload, 1) := by decide +kernel
theorem d_Be_canLay_66 : decode b_Be_canLay 66 = .ok (.iconst 1, 1) := by decide +kernel
theorem d_Be_canLay_67 : decode b_Be_canLay 67 = .ok (.if_icmp .ne 7, 3) := by decide +kernel
theorem d_Be_canLay_70 : decode b_Be_canLay 70 = .ok (.iconst 1, 1) := by decide +kernel
theorem d_Be_canLay_71 : decode b_Be_canLay 71 = .ok (.goto 4, 3) := by decide +kernel
theorem d_Be_canLay_74 : decode b_Be_canLay 74 = .ok (.iconst 0, 1) := by decide +kernel
theorem d_Be_canLay_75 : decode b_Be_canLay 75 = .ok (.ireturn, 1) := by decide +kernel
theorem d_Be_cells_0 : decode b_Be_cells 0 = .ok (.iconst 0, 1) := by decide +kernel
theorem d_Be_cells_1 : decode b_Be_cells 1 = .ok (.istore 4, 2) := by decide +kernel
theorem d_Be_cells_3 : decode b_Be_cells 3 = .ok (.iload_n 0, 1) := by decide +kernel
theorem d_Be_cells_4 : decode b_Be_cells 4 = .ok (.iconst 0, 1) := by decide +kernel
theorem d_Be_cells_5 : decode b_Be_cells 5 = .ok (.invokestatic 61, 3) := by decide +kernel
theorem d_Be_cells_8 : decode b_Be_cells 8 = .ok (.istore 5, 2) := by decide +kernel
theorem d_Be_cells_10 : decode b_Be_cells 10 = .ok (.iload 5, 2) := by decide +kernel
theorem d_Be_cells_12 : decode b_Be_cells 12 = .ok (.iload_n 1, 1) := by decide +kernel
theorem d_Be_cells_13 : decode b_Be_cells 13 = .ok (.if_icmp .ge 55, 3) := by decide +kernel
theorem d_Be_cells_16 : decode b_Be_cells 16 = .ok (.iload 5, 2) := by decide +kernel
theorem d_Be_cells_18 : decode b_Be_cells 18 = .ok (.bipush 8, 2) := by decide +kernel
theorem d_Be_cells_20 : decode b_Be_cells 20 = .ok (.if_icmp .ge 48, 3) := by decide +kernel
theorem d_Be_cells_23 : decode b_Be_cells 23 = .ok (.iload_n 2, 1) := by decide +kernel
theorem d_Be_cells_24 : decode b_Be_cells 24 = .ok (.iconst 0, 1) := by decide +kernel
theorem d_Be_cells_25 : decode b_Be_cells 25 = .ok (.invokestatic 61, 3) := by decide +kernel
theorem d_Be_cells_28 : decode b_Be_cells 28 = .ok (.istore 6, 2) := by decide +kernel
theorem d_Be_cells_30 : decode b_Be_cells 30 = .ok (.iload 6, 2) := by decide +kernel
theorem d_Be_cells_32 : decode b_Be_cells 32 = .ok (.iload_n 3, 1) := by decide +kernel
theorem d_Be_cells_33 : decode b_Be_cells 33 = .ok (.if_icmp .ge 29, 3) := by decide +kernel
theorem d_Be_cells_36 : decode b_Be_cells 36 = .ok (.iload 6, 2) := by decide +kernel
theorem d_Be_cells_38 : decode b_Be_cells 38 = .ok (.iconst 3, 1) := by decide +kernel
theorem d_Be_cells_39 : decode b_Be_cells 39 = .ok (.if_icmp .ge 23, 3) := by decide +kernel
theorem d_Be_cells_42 : decode b_Be_cells 42 = .ok (.iload 4, 2) := by decide +kernel
theorem d_Be_cells_44 : decode b_Be_cells 44 = .ok (.iconst 1, 1) := by decide +kernel
theorem d_Be_cells_45 : decode b_Be_cells 45 = .ok (.iconst 3, 1) := by decide +kernel
theorem d_Be_cells_46 : decode b_Be_cells 46 = .ok (.iload 5, 2) := by decide +kernel
theorem d_Be_cells_48 : decode b_Be_cells 48 = .ok (.imul, 1) := by decide +kernel
theorem d_Be_cells_49 : decode b_Be_cells 49 = .ok (.iload 6, 2) := by decide +kernel
theorem d_Be_cells_51 : decode b_Be_cells 51 = .ok (.iadd, 1) := by decide +kernel
theorem d_Be_cells_52 : decode b_Be_cells 52 = .ok (.ishl, 1) := by decide +kernel
theorem d_Be_cells_53 : decode b_Be_cells 53 = .ok (.ior, 1) := by decide +kernel
theorem d_Be_cells_54 : decode b_Be_cells 54 = .ok (.istore 4, 2) := by decide +kernel
theorem d_Be_cells_56 : decode b_Be_cells 56 = .ok (.iinc 6 1, 3) := by decide +kernel
theorem d_Be_cells_59 : decode b_Be_cells 59 = .ok (.goto (-29), 3) := by decide +kernel
theorem d_Be_cells_62 : decode b_Be_cells 62 = .ok (.iinc 5 1, 3) := by decide +kernel
theorem d_Be_cells_65 : decode b_Be_cells 65 = .ok (.goto (-55), 3) := by decide +kernel
theorem d_Be_cells_68 : decode b_Be_cells 68 = .ok (.iload 4, 2) := by decide +kernel
theorem d_Be_cells_70 : decode b_Be_cells 70 = .ok (.ireturn, 1) := by decide +kernel
theorem d_Be_gap_0 : decode b_Be_gap 0 = .ok (.aload_n 0, 1) := by decide +kernel
theorem d_Be_gap_1 : decode b_Be_gap 1 = .ok (.getfield 29, 3) := by decide +kernel
theorem d_Be_gap_4 : decode b_Be_gap 4 = .ok (.ireturn, 1) := by decide +kernel
theorem d_Be_lay_0 : decode b_Be_lay 0 = .ok (.aload_n 0, 1) := by decide +kernel
theorem d_Be_lay_1 : decode b_Be_lay 1 = .ok (.iconst 0, 1) := by decide +kernel
theorem d_Be_lay_2 : decode b_Be_lay 2 = .ok (.iload_n 1, 1) := by decide +kernel
theorem d_Be_lay_3 : decode b_Be_lay 3 = .ok (.iload_n 2, 1) := by decide +kernel
theorem d_Be_lay_4 : decode b_Be_lay 4 = .ok (.iconst 0, 1) := by decide +kernel
theorem d_Be_lay_5 : decode b_Be_lay 5 = .ok (.invokevirtual 33, 3) := by decide +kernel
theorem d_Be_lay_8 : decode b_Be_lay 8 = .ok (.ireturn, 1) := by decide +kernel
theorem d_Be_layFrom_0 : decode b_Be_layFrom 0 = .ok (.iload_n 1, 1) := by decide +kernel
theorem d_Be_layFrom_1 : decode b_Be_layFrom 1 = .ok (.ifCond .lt 8, 3) := by decide +kernel
theorem d_Be_layFrom_4 : decode b_Be_layFrom 4 = .ok (.iload_n 1, 1) := by decide +kernel
theorem d_Be_layFrom_5 : decode b_Be_layFrom 5 = .ok (.iconst 4, 1) := by decide +kernel
theorem d_Be_layFrom_6 : decode b_Be_layFrom 6 = .ok (.if_icmp .lt 5, 3) := by decide +kernel
theorem d_Be_layFrom_9 : decode b_Be_layFrom 9 = .ok (.iconst 1, 1) := by decide +kernel
theorem d_Be_layFrom_10 : decode b_Be_layFrom 10 = .ok (.ireturn, 1) := by decide +kernel
theorem d_Be_layFrom_11 : decode b_Be_layFrom 11 = .ok (.iload_n 3, 1) := by decide +kernel
theorem d_Be_layFrom_12 : decode b_Be_layFrom 12 = .ok (.iload_n 1, 1) := by decide +kernel
theorem d_Be_layFrom_13 : decode b_Be_layFrom 13 = .ok (.invokestatic 37, 3) := by decide +kernel
theorem d_Be_layFrom_16 : decode b_Be_layFrom 16 = .ok (.ifCond .ne 15, 3) := by decide +kernel
theorem d_Be_layFrom_19 : decode b_Be_layFrom 19 = .ok (.aload_n 0, 1) := by decide +kernel
theorem d_Be_layFrom_20 : decode b_Be_layFrom 20 = .ok (.iload_n 1, 1) := by decide +kernel
theorem d_Be_layFrom_21 : decode b_Be_layFrom 21 = .ok (.iconst 1, 1) := by decide +kernel
theorem d_Be_layFrom_22 : decode b_Be_layFrom 22 = .ok (.iadd, 1) := by decide +kernel
theorem d_Be_layFrom_23 : decode b_Be_layFrom 23 = .ok (.iload_n 2, 1) := by decide +kernel
theorem d_Be_layFrom_24 : decode b_Be_layFrom 24 = .ok (.iload_n 3, 1) := by decide +kernel
theorem d_Be_layFrom_25 : decode b_Be_layFrom 25 = .ok (.iload 4, 2) := by decide +kernel
theorem d_Be_layFrom_27 : decode b_Be_layFrom 27 = .ok (.invokevirtual 33, 3) := by decide +kernel
theorem d_Be_layFrom_30 : decode b_Be_layFrom 30 = .ok (.ireturn, 1) := by decide +kernel
theorem d_Be_layFrom_31 : decode b_Be_layFrom 31 = .ok (.aload_n 0, 1) := by decide +kernel
theorem d_Be_layFrom_32 : decode b_Be_layFrom 32 = .ok (.getfield 25, 3) := by decide +kernel
theorem d_Be_layFrom_35 : decode b_Be_layFrom 35 = .ok (.iload_n 1, 1) := by decide +kernel
theorem d_Be_layFrom_36 : decode b_Be_layFrom 36 = .ok (.invokevirtual 41, 3) := by decide +kernel
theorem d_Be_layFrom_39 : decode b_Be_layFrom 39 = .ok (.istore 5, 2) := by decide +kernel
theorem d_Be_layFrom_41 : decode b_Be_layFrom 41 = .ok (.aload_n 0, 1) := by decide +kernel
theorem d_Be_layFrom_42 : decode b_Be_layFrom 42 = .ok (.getfield 25, 3) := by decide +kernel
theorem d_Be_layFrom_45 : decode b_Be_layFrom 45 = .ok (.iload_n 1, 1) := by decide +kernel
theorem d_Be_layFrom_46 : decode b_Be_layFrom 46 = .ok (.invokevirtual 47, 3) := by decide +kernel
theorem d_Be_layFrom_49 : decode b_Be_layFrom 49 = .ok (.istore 6, 2) := by decide +kernel
theorem d_Be_layFrom_51 : decode b_Be_layFrom 51 = .ok (.aload_n 0, 1) := by decide +kernel
theorem d_Be_layFrom_52 : decode b_Be_layFrom 52 = .ok (.getfield 21, 3) := by decide +kernel
theorem d_Be_layFrom_55 : decode b_Be_layFrom 55 = .ok (.iload_n 2, 1) := by decide +kernel
theorem d_Be_layFrom_56 : decode b_Be_layFrom 56 = .ok (.invokevirtual 50, 3) := by decide +kernel
theorem d_Be_layFrom_59 : decode b_Be_layFrom 59 = .ok (.iload 5, 2) := by decide +kernel
theorem d_Be_layFrom_61 : decode b_Be_layFrom 61 = .ok (.isub, 1) := by decide +kernel
theorem d_Be_layFrom_62 : decode b_Be_layFrom 62 = .ok (.istore 7, 2) := by decide +kernel
theorem d_Be_layFrom_64 : decode b_Be_layFrom 64 = .ok (.aload_n 0, 1) := by decide +kernel
theorem d_Be_layFrom_65 : decode b_Be_layFrom 65 = .ok (.getfield 21, 3) := by decide +kernel
theorem d_Be_layFrom_68 : decode b_Be_layFrom 68 = .ok (.iload_n 2, 1) := by decide +kernel
theorem d_Be_layFrom_69 : decode b_Be_layFrom 69 = .ok (.invokevirtual 53, 3) := by decide +kernel
theorem d_Be_layFrom_72 : decode b_Be_layFrom 72 = .ok (.iload 6, 2) := by decide +kernel
theorem d_Be_layFrom_74 : decode b_Be_layFrom 74 = .ok (.isub, 1) := by decide +kernel
theorem d_Be_layFrom_75 : decode b_Be_layFrom 75 = .ok (.istore 8, 2) := by decide +kernel
theorem d_Be_layFrom_77 : decode b_Be_layFrom 77 = .ok (.iload 8, 2) := by decide +kernel
theorem d_Be_layFrom_79 : decode b_Be_layFrom 79 = .ok (.ifCond .ge 5, 3) := by decide +kernel
theorem d_Be_layFrom_82 : decode b_Be_layFrom 82 = .ok (.iconst 0, 1) := by decide +kernel
theorem d_Be_layFrom_83 : decode b_Be_layFrom 83 = .ok (.ireturn, 1) := by decide +kernel
theorem d_Be_layFrom_84 : decode b_Be_layFrom 84 = .ok (.aload_n 0, 1) := by decide +kernel
theorem d_Be_layFrom_85 : decode b_Be_layFrom 85 = .ok (.getfield 25, 3) := by decide +kernel
theorem d_Be_layFrom_88 : decode b_Be_layFrom 88 = .ok (.iload_n 1, 1) := by decide +kernel
theorem d_Be_layFrom_89 : decode b_Be_layFrom 89 = .ok (.invokevirtual 54, 3) := by decide +kernel
theorem d_Be_layFrom_92 : decode b_Be_layFrom 92 = .ok (.iconst 1, 1) := by decide +kernel
theorem d_Be_layFrom_93 : decode b_Be_layFrom 93 = .ok (.if_icmp .ne 8, 3) := by decide +kernel
theorem d_Be_layFrom_96 : decode b_Be_layFrom 96 = .ok (.iload 8, 2) := by decide +kernel
theorem d_Be_layFrom_98 : decode b_Be_layFrom 98 = .ok (.goto 4, 3) := by decide +kernel
theorem d_Be_layFrom_101 : decode b_Be_layFrom 101 = .ok (.iconst 0, 1) := by decide +kernel
theorem d_Be_layFrom_102 : decode b_Be_layFrom 102 = .ok (.istore 9, 2) := by decide +kernel
theorem d_Be_layFrom_104 : decode b_Be_layFrom 104 = .ok (.aload_n 0, 1) := by decide +kernel
theorem d_Be_layFrom_105 : decode b_Be_layFrom 105 = .ok (.getfield 25, 3) := by decide +kernel
theorem d_Be_layFrom_108 : decode b_Be_layFrom 108 = .ok (.iload_n 1, 1) := by decide +kernel
theorem d_Be_layFrom_109 : decode b_Be_layFrom 109 = .ok (.invokevirtual 54, 3) := by decide +kernel
theorem d_Be_layFrom_112 : decode b_Be_layFrom 112 = .ok (.ifCond .ne 6, 3) := by decide +kernel
theorem d_Be_layFrom_115 : decode b_Be_layFrom 115 = .ok (.iconst 0, 1) := by decide +kernel
theorem d_Be_layFrom_116 : decode b_Be_layFrom 116 = .ok (.istore 8, 2) := by decide +kernel
theorem d_Be_layFrom_118 : decode b_Be_layFrom 118 = .ok (.iconst 0, 1) := by decide +kernel
theorem d_Be_layFrom_119 : decode b_Be_layFrom 119 = .ok (.iload 5, 2) := by decide +kernel
theorem d_Be_layFrom_121 : decode b_Be_layFrom 121 = .ok (.iconst 0, 1) := by decide +kernel
theorem d_Be_layFrom_122 : decode b_Be_layFrom 122 = .ok (.iload 6, 2) := by decide +kernel
theorem d_Be_layFrom_124 : decode b_Be_layFrom 124 = .ok (.invokestatic 57, 3) := by decide +kernel
theorem d_Be_layFrom_127 : decode b_Be_layFrom 127 = .ok (.istore 10, 2) := by decide +kernel
theorem d_Be_layFrom_129 : decode b_Be_layFrom 129 = .ok (.iconst 0, 1) := by decide +kernel
theorem d_Be_layFrom_130 : decode b_Be_layFrom 130 = .ok (.istore 11, 2) := by decide +kernel
theorem d_Be_layFrom_132 : decode b_Be_layFrom 132 = .ok (.iload 11, 2) := by decide +kernel
theorem d_Be_layFrom_134 : decode b_Be_layFrom 134 = .ok (.iload 7, 2) := by decide +kernel
theorem d_Be_layFrom_136 : decode b_Be_layFrom 136 = .ok (.if_icmp .gt 116, 3) := by decide +kernel
theorem d_Be_layFrom_139 : decode b_Be_layFrom 139 = .ok (.iload 9, 2) := by decide +kernel
theorem d_Be_layFrom_141 : decode b_Be_layFrom 141 = .ok (.istore 12, 2) := by decide +kernel
theorem d_Be_layFrom_143 : decode b_Be_layFrom 143 = .ok (.iload 12, 2) := by decide +kernel
theorem d_Be_layFrom_145 : decode b_Be_layFrom 145 = .ok (.iload 8, 2) := by decide +kernel
theorem d_Be_layFrom_147 : decode b_Be_layFrom 147 = .ok (.if_icmp .gt 99, 3) := by decide +kernel
theorem d_Be_layFrom_150 : decode b_Be_layFrom 150 = .ok (.iload 10, 2) := by decide +kernel
theorem d_Be_layFrom_152 : decode b_Be_layFrom 152 = .ok (.iconst 3, 1) := by decide +kernel
theorem d_Be_layFrom_153 : decode b_Be_layFrom 153 = .ok (.iload 11, 2) := by decide +kernel
theorem d_Be_layFrom_155 : decode b_Be_layFrom 155 = .ok (.imul, 1) := by decide +kernel
theorem d_Be_layFrom_156 : decode b_Be_layFrom 156 = .ok (.iload 12, 2) := by decide +kernel
theorem d_Be_layFrom_158 : decode b_Be_layFrom 158 = .ok (.iadd, 1) := by decide +kernel
theorem d_Be_layFrom_159 : decode b_Be_layFrom 159 = .ok (.ishl, 1) := by decide +kernel
theorem d_Be_layFrom_160 : decode b_Be_layFrom 160 = .ok (.iload 4, 2) := by decide +kernel
theorem d_Be_layFrom_162 : decode b_Be_layFrom 162 = .ok (.iand, 1) := by decide +kernel
theorem d_Be_layFrom_163 : decode b_Be_layFrom 163 = .ok (.ifCond .ne 77, 3) := by decide +kernel
theorem d_Be_layFrom_166 : decode b_Be_layFrom 166 = .ok (.aload_n 0, 1) := by decide +kernel
theorem d_Be_layFrom_167 : decode b_Be_layFrom 167 = .ok (.getfield 9, 3) := by decide +kernel
theorem d_Be_layFrom_170 : decode b_Be_layFrom 170 = .ok (.iload_n 1, 1) := by decide +kernel
theorem d_Be_layFrom_171 : decode b_Be_layFrom 171 = .ok (.iload 11, 2) := by decide +kernel
theorem d_Be_layFrom_173 : decode b_Be_layFrom 173 = .ok (.iastore, 1) := by decide +kernel
theorem d_Be_layFrom_174 : decode b_Be_layFrom 174 = .ok (.aload_n 0, 1) := by decide +kernel
theorem d_Be_layFrom_175 : decode b_Be_layFrom 175 = .ok (.getfield 15, 3) := by decide +kernel
theorem d_Be_layFrom_178 : decode b_Be_layFrom 178 = .ok (.iload_n 1, 1) := by decide +kernel
theorem d_Be_layFrom_179 : decode b_Be_layFrom 179 = .ok (.iload 12, 2) := by decide +kernel
theorem d_Be_layFrom_181 : decode b_Be_layFrom 181 = .ok (.iastore, 1) := by decide +kernel
theorem d_Be_layFrom_182 : decode b_Be_layFrom 182 = .ok (.iload 11, 2) := by decide +kernel
theorem d_Be_layFrom_184 : decode b_Be_layFrom 184 = .ok (.aload_n 0, 1) := by decide +kernel
theorem d_Be_layFrom_185 : decode b_Be_layFrom 185 = .ok (.getfield 29, 3) := by decide +kernel
theorem d_Be_layFrom_188 : decode b_Be_layFrom 188 = .ok (.isub, 1) := by decide +kernel
theorem d_Be_layFrom_189 : decode b_Be_layFrom 189 = .ok (.iload 11, 2) := by decide +kernel
theorem d_Be_layFrom_191 : decode b_Be_layFrom 191 = .ok (.iload 5, 2) := by decide +kernel
theorem d_Be_layFrom_193 : decode b_Be_layFrom 193 = .ok (.iadd, 1) := by decide +kernel
theorem d_Be_layFrom_194 : decode b_Be_layFrom 194 = .ok (.aload_n 0, 1) := by decide +kernel
theorem d_Be_layFrom_195 : decode b_Be_layFrom 195 = .ok (.getfield 29, 3) := by decide +kernel
theorem d_Be_layFrom_198 : decode b_Be_layFrom 198 = .ok (.iadd, 1) := by decide +kernel
theorem d_Be_layFrom_199 : decode b_Be_layFrom 199 = .ok (.iload 12, 2) := by decide +kernel
theorem d_Be_layFrom_201 : decode b_Be_layFrom 201 = .ok (.aload_n 0, 1) := by decide +kernel
theorem d_Be_layFrom_202 : decode b_Be_layFrom 202 = .ok (.getfield 29, 3) := by decide +kernel
theorem d_Be_layFrom_205 : decode b_Be_layFrom 205 = .ok (.isub, 1) := by decide +kernel
theorem d_Be_layFrom_206 : decode b_Be_layFrom 206 = .ok (.iload 12, 2) := by decide +kernel
theorem d_Be_layFrom_208 : decode b_Be_layFrom 208 = .ok (.iload 6, 2) := by decide +kernel
theorem d_Be_layFrom_210 : decode b_Be_layFrom 210 = .ok (.iadd, 1) := by decide +kernel
theorem d_Be_layFrom_211 : decode b_Be_layFrom 211 = .ok (.aload_n 0, 1) := by decide +kernel
theorem d_Be_layFrom_212 : decode b_Be_layFrom 212 = .ok (.getfield 29, 3) := by decide +kernel
theorem d_Be_layFrom_215 : decode b_Be_layFrom 215 = .ok (.iadd, 1) := by decide +kernel
theorem d_Be_layFrom_216 : decode b_Be_layFrom 216 = .ok (.invokestatic 57, 3) := by decide +kernel
theorem d_Be_layFrom_219 : decode b_Be_layFrom 219 = .ok (.istore 13, 2) := by decide +kernel
theorem d_Be_layFrom_221 : decode b_Be_layFrom 221 = .ok (.aload_n 0, 1) := by decide +kernel
theorem d_Be_layFrom_222 : decode b_Be_layFrom 222 = .ok (.iload_n 1, 1) := by decide +kernel
theorem d_Be_layFrom_223 : decode b_Be_layFrom 223 = .ok (.iconst 1, 1) := by decide +kernel
theorem d_Be_layFrom_224 : decode b_Be_layFrom 224 = .ok (.iadd, 1) := by decide +kernel
theorem d_Be_layFrom_225 : decode b_Be_layFrom 225 = .ok (.iload_n 2, 1) := by decide +kernel
theorem d_Be_layFrom_226 : decode b_Be_layFrom 226 = .ok (.iload_n 3, 1) := by decide +kernel
theorem d_Be_layFrom_227 : decode b_Be_layFrom 227 = .ok (.iload 4, 2) := by decide +kernel
theorem d_Be_layFrom_229 : decode b_Be_layFrom 229 = .ok (.iload 13, 2) := by decide +kernel
theorem d_Be_layFrom_231 : decode b_Be_layFrom 231 = .ok (.ior, 1) := by decide +kernel
theorem d_Be_layFrom_232 : decode b_Be_layFrom 232 = .ok (.invokevirtual 33, 3) := by decide +kernel
theorem d_Be_layFrom_235 : decode b_Be_layFrom 235 = .ok (.ifCond .eq 5, 3) := by decide +kernel
theorem d_Be_layFrom_238 : decode b_Be_layFrom 238 = .ok (.iconst 1, 1) := by decide +kernel
theorem d_Be_layFrom_239 : decode b_Be_layFrom 239 = .ok (.ireturn, 1) := by decide +kernel
theorem d_Be_layFrom_240 : decode b_Be_layFrom 240 = .ok (.iinc 12 1, 3) := by decide +kernel
theorem d_Be_layFrom_243 : decode b_Be_layFrom 243 = .ok (.goto (-100), 3) := by decide +kernel
theorem d_Be_layFrom_246 : decode b_Be_layFrom 246 = .ok (.iinc 11 1, 3) := by decide +kernel
theorem d_Be_layFrom_249 : decode b_Be_layFrom 249 = .ok (.goto (-117), 3) := by decide +kernel
theorem d_Be_layFrom_252 : decode b_Be_layFrom 252 = .ok (.iconst 0, 1) := by decide +kernel
theorem d_Be_layFrom_253 : decode b_Be_layFrom 253 = .ok (.ireturn, 1) := by decide +kernel
theorem d_Be_setGap_0 : decode b_Be_setGap 0 = .ok (.aload_n 0, 1) := by decide +kernel
theorem d_Be_setGap_1 : decode b_Be_setGap 1 = .ok (.iload_n 1, 1) := by decide +kernel
theorem d_Be_setGap_2 : decode b_Be_setGap 2 = .ok (.putfield 29, 3) := by decide +kernel
theorem d_Be_setGap_5 : decode b_Be_setGap 5 = .ok (.return_, 1) := by decide +kernel
theorem d_Be_x_0 : decode b_Be_x 0 = .ok (.iload_n 1, 1) := by decide +kernel
theorem d_Be_x_1 : decode b_Be_x 1 = .ok (.ifCond .lt 17, 3) := by decide +kernel
theorem d_Be_x_4 : decode b_Be_x 4 = .ok (.iload_n 1, 1) := by decide +kernel
end
