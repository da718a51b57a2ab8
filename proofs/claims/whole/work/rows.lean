section
-- ===== PART A: goes FIRST, ahead of the names: the tables' words, and 'selects' of the private methods out of them =====
/-- a private method of a class that the tables say can be made, by its rows of tables_1 -/
def lw_okq (q : MethodName × Nat) : Prop := (q.1.cls ≠ "java/lang/invoke/MethodHandle" ∧ q.1.cls ≠ "java/lang/invoke/VarHandle") ∧ Cond.instantiable q.1.cls q.2 ∈ tables_1 ∧ Cond.privateMethod q.1 ∈ tables_1 ∧ Cond.instanceMethod q.1 ∈ tables_1
theorem lw_p0 : lw_okq (⟨"LockRuns$Planner", "tryRuns", "(IIIIII)V"⟩, 8) := ⟨⟨by decide +kernel, by decide +kernel⟩, List.mem_of_getElem? (i := 107) (by decide +kernel), List.mem_of_getElem? (i := 213) (by decide +kernel), List.mem_of_getElem? (i := 214) (by decide +kernel)⟩
theorem lw_p1 : lw_okq (⟨"LockRuns$Planner", "offerTrial", "(I)V"⟩, 8) := ⟨⟨by decide +kernel, by decide +kernel⟩, List.mem_of_getElem? (i := 107) (by decide +kernel), List.mem_of_getElem? (i := 221) (by decide +kernel), List.mem_of_getElem? (i := 222) (by decide +kernel)⟩
theorem lw_p2 : lw_okq (⟨"LockRuns$Planner", "overtaken", "(LLockRuns$Timetable;I)I"⟩, 8) := ⟨⟨by decide +kernel, by decide +kernel⟩, List.mem_of_getElem? (i := 107) (by decide +kernel), List.mem_of_getElem? (i := 229) (by decide +kernel), List.mem_of_getElem? (i := 230) (by decide +kernel)⟩
theorem lw_p3 : lw_okq (⟨"LockRuns$Timetable", "differs", "(LLockRuns$Timetable;I)Z"⟩, 4) := ⟨⟨by decide +kernel, by decide +kernel⟩, List.mem_of_getElem? (i := 113) (by decide +kernel), List.mem_of_getElem? (i := 256) (by decide +kernel), List.mem_of_getElem? (i := 257) (by decide +kernel)⟩
theorem lw_p4 : lw_okq (⟨"LockRuns$Planner", "canRun", "(II)Z"⟩, 8) := ⟨⟨by decide +kernel, by decide +kernel⟩, List.mem_of_getElem? (i := 107) (by decide +kernel), List.mem_of_getElem? (i := 275) (by decide +kernel), List.mem_of_getElem? (i := 276) (by decide +kernel)⟩
theorem lw_p5 : lw_okq (⟨"LockRuns$Berths", "layFrom", "(IIII)Z"⟩, 6) := ⟨⟨by decide +kernel, by decide +kernel⟩, List.mem_of_getElem? (i := 82) (by decide +kernel), List.mem_of_getElem? (i := 288) (by decide +kernel), List.mem_of_getElem? (i := 289) (by decide +kernel)⟩
theorem lw_p6 : lw_okq (⟨"LockRuns$Chambers", "pastSpans", "(II)I"⟩, 8) := ⟨⟨by decide +kernel, by decide +kernel⟩, List.mem_of_getElem? (i := 25) (by decide +kernel), List.mem_of_getElem? (i := 329) (by decide +kernel), List.mem_of_getElem? (i := 330) (by decide +kernel)⟩
theorem lw_p7 : lw_okq (⟨"LockRuns", "runsOf", "(I)I"⟩, 4) := ⟨⟨by decide +kernel, by decide +kernel⟩, List.mem_of_getElem? (i := 17) (by decide +kernel), List.mem_of_getElem? (i := 371) (by decide +kernel), List.mem_of_getElem? (i := 372) (by decide +kernel)⟩
theorem lw_p8 : lw_okq (⟨"java/lang/Throwable", "fillInStackTrace", "(I)Ljava/lang/Throwable;"⟩, 6) := ⟨⟨by decide +kernel, by decide +kernel⟩, List.mem_of_getElem? (i := 435) (by decide +kernel), List.mem_of_getElem? (i := 433) (by decide +kernel), List.mem_of_getElem? (i := 434) (by decide +kernel)⟩
theorem lw_p9 : lw_okq (⟨"LockRuns$Planner", "layRunOf", "(I)Z"⟩, 8) := ⟨⟨by decide +kernel, by decide +kernel⟩, List.mem_of_getElem? (i := 107) (by decide +kernel), List.mem_of_getElem? (i := 539) (by decide +kernel), List.mem_of_getElem? (i := 540) (by decide +kernel)⟩
theorem lw_p10 : lw_okq (⟨"LockRunsModel", "isChamber", "(I)Z"⟩, 25) := ⟨⟨by decide +kernel, by decide +kernel⟩, List.mem_of_getElem? (i := 636) (by decide +kernel), List.mem_of_getElem? (i := 738) (by decide +kernel), List.mem_of_getElem? (i := 739) (by decide +kernel)⟩
theorem lw_p11 : lw_okq (⟨"LockRunsModel", "lay", "(II)Z"⟩, 25) := ⟨⟨by decide +kernel, by decide +kernel⟩, List.mem_of_getElem? (i := 636) (by decide +kernel), List.mem_of_getElem? (i := 750) (by decide +kernel), List.mem_of_getElem? (i := 751) (by decide +kernel)⟩
theorem lw_p12 : lw_okq (⟨"LockRunsModel", "mayLie", "(IIII)Z"⟩, 25) := ⟨⟨by decide +kernel, by decide +kernel⟩, List.mem_of_getElem? (i := 636) (by decide +kernel), List.mem_of_getElem? (i := 754) (by decide +kernel), List.mem_of_getElem? (i := 755) (by decide +kernel)⟩
theorem lw_p13 : lw_okq (⟨"LockRunsModel", "search", "()I"⟩, 25) := ⟨⟨by decide +kernel, by decide +kernel⟩, List.mem_of_getElem? (i := 636) (by decide +kernel), List.mem_of_getElem? (i := 762) (by decide +kernel), List.mem_of_getElem? (i := 763) (by decide +kernel)⟩
theorem lw_p14 : lw_okq (⟨"LockRunsModel", "weighed", "()I"⟩, 25) := ⟨⟨by decide +kernel, by decide +kernel⟩, List.mem_of_getElem? (i := 636) (by decide +kernel), List.mem_of_getElem? (i := 767) (by decide +kernel), List.mem_of_getElem? (i := 768) (by decide +kernel)⟩
theorem lw_p15 : lw_okq (⟨"LockRunsModel", "times", "(I)Z"⟩, 25) := ⟨⟨by decide +kernel, by decide +kernel⟩, List.mem_of_getElem? (i := 636) (by decide +kernel), List.mem_of_getElem? (i := 771) (by decide +kernel), List.mem_of_getElem? (i := 772) (by decide +kernel)⟩
def lw_privs_1 : List (MethodName × Nat) := [(⟨"LockRuns$Planner", "tryRuns", "(IIIIII)V"⟩, 8), (⟨"LockRuns$Planner", "offerTrial", "(I)V"⟩, 8), (⟨"LockRuns$Planner", "overtaken", "(LLockRuns$Timetable;I)I"⟩, 8), (⟨"LockRuns$Timetable", "differs", "(LLockRuns$Timetable;I)Z"⟩, 4), (⟨"LockRuns$Planner", "canRun", "(II)Z"⟩, 8), (⟨"LockRuns$Berths", "layFrom", "(IIII)Z"⟩, 6), (⟨"LockRuns$Chambers", "pastSpans", "(II)I"⟩, 8), (⟨"LockRuns", "runsOf", "(I)I"⟩, 4), (⟨"java/lang/Throwable", "fillInStackTrace", "(I)Ljava/lang/Throwable;"⟩, 6), (⟨"LockRuns$Planner", "layRunOf", "(I)Z"⟩, 8), (⟨"LockRunsModel", "isChamber", "(I)Z"⟩, 25), (⟨"LockRunsModel", "lay", "(II)Z"⟩, 25), (⟨"LockRunsModel", "mayLie", "(IIII)Z"⟩, 25), (⟨"LockRunsModel", "search", "()I"⟩, 25), (⟨"LockRunsModel", "weighed", "()I"⟩, 25), (⟨"LockRunsModel", "times", "(I)Z"⟩, 25)]
theorem lw_r1 : ∀ q ∈ lw_privs_1, lw_okq q := List.forall_mem_cons.mpr ⟨lw_p0, List.forall_mem_cons.mpr ⟨lw_p1, List.forall_mem_cons.mpr ⟨lw_p2, List.forall_mem_cons.mpr ⟨lw_p3, List.forall_mem_cons.mpr ⟨lw_p4, List.forall_mem_cons.mpr ⟨lw_p5, List.forall_mem_cons.mpr ⟨lw_p6, List.forall_mem_cons.mpr ⟨lw_p7, List.forall_mem_cons.mpr ⟨lw_p8, List.forall_mem_cons.mpr ⟨lw_p9, List.forall_mem_cons.mpr ⟨lw_p10, List.forall_mem_cons.mpr ⟨lw_p11, List.forall_mem_cons.mpr ⟨lw_p12, List.forall_mem_cons.mpr ⟨lw_p13, List.forall_mem_cons.mpr ⟨lw_p14, List.forall_mem_cons.mpr ⟨lw_p15, fun _ h => absurd h List.not_mem_nil⟩⟩⟩⟩⟩⟩⟩⟩⟩⟩⟩⟩⟩⟩⟩⟩
theorem lw_p16 : lw_okq (⟨"LockRunsModel", "setOf", "(I)I"⟩, 25) := ⟨⟨by decide +kernel, by decide +kernel⟩, List.mem_of_getElem? (i := 636) (by decide +kernel), List.mem_of_getElem? (i := 775) (by decide +kernel), List.mem_of_getElem? (i := 776) (by decide +kernel)⟩
theorem lw_p17 : lw_okq (⟨"LockRunsModel", "isOneWay", "(I)Z"⟩, 25) := ⟨⟨by decide +kernel, by decide +kernel⟩, List.mem_of_getElem? (i := 636) (by decide +kernel), List.mem_of_getElem? (i := 779) (by decide +kernel), List.mem_of_getElem? (i := 780) (by decide +kernel)⟩
theorem lw_p18 : lw_okq (⟨"LockRunsModel", "open", "(II)I"⟩, 25) := ⟨⟨by decide +kernel, by decide +kernel⟩, List.mem_of_getElem? (i := 636) (by decide +kernel), List.mem_of_getElem? (i := 786) (by decide +kernel), List.mem_of_getElem? (i := 787) (by decide +kernel)⟩
theorem lw_p19 : lw_okq (⟨"LockRunsModel", "overtaken", "(IZ)I"⟩, 25) := ⟨⟨by decide +kernel, by decide +kernel⟩, List.mem_of_getElem? (i := 636) (by decide +kernel), List.mem_of_getElem? (i := 790) (by decide +kernel), List.mem_of_getElem? (i := 791) (by decide +kernel)⟩
theorem lw_p20 : lw_okq (⟨"LockRunsModel", "isAhead", "()Z"⟩, 25) := ⟨⟨by decide +kernel, by decide +kernel⟩, List.mem_of_getElem? (i := 636) (by decide +kernel), List.mem_of_getElem? (i := 794) (by decide +kernel), List.mem_of_getElem? (i := 795) (by decide +kernel)⟩
theorem lw_p21 : lw_okq (⟨"LockRunsModel", "isShip", "(I)Z"⟩, 25) := ⟨⟨by decide +kernel, by decide +kernel⟩, List.mem_of_getElem? (i := 636) (by decide +kernel), List.mem_of_getElem? (i := 802) (by decide +kernel), List.mem_of_getElem? (i := 803) (by decide +kernel)⟩
theorem lw_p22 : lw_okq (⟨"LockRunsModel", "shipsOf", "(I)I"⟩, 25) := ⟨⟨by decide +kernel, by decide +kernel⟩, List.mem_of_getElem? (i := 636) (by decide +kernel), List.mem_of_getElem? (i := 806) (by decide +kernel), List.mem_of_getElem? (i := 807) (by decide +kernel)⟩
def lw_privs_2 : List (MethodName × Nat) := [(⟨"LockRunsModel", "setOf", "(I)I"⟩, 25), (⟨"LockRunsModel", "isOneWay", "(I)Z"⟩, 25), (⟨"LockRunsModel", "open", "(II)I"⟩, 25), (⟨"LockRunsModel", "overtaken", "(IZ)I"⟩, 25), (⟨"LockRunsModel", "isAhead", "()Z"⟩, 25), (⟨"LockRunsModel", "isShip", "(I)Z"⟩, 25), (⟨"LockRunsModel", "shipsOf", "(I)I"⟩, 25)]
theorem lw_r2 : ∀ q ∈ lw_privs_2, lw_okq q := List.forall_mem_cons.mpr ⟨lw_p16, List.forall_mem_cons.mpr ⟨lw_p17, List.forall_mem_cons.mpr ⟨lw_p18, List.forall_mem_cons.mpr ⟨lw_p19, List.forall_mem_cons.mpr ⟨lw_p20, List.forall_mem_cons.mpr ⟨lw_p21, List.forall_mem_cons.mpr ⟨lw_p22, fun _ h => absurd h List.not_mem_nil⟩⟩⟩⟩⟩⟩⟩
def lw_privs : List (MethodName × Nat) := lw_privs_1 ++ (lw_privs_2)
def lw_tbl : List Cond := k2_sels lw_privs ++ tables_1
theorem lw_privs_ok : ∀ q ∈ lw_privs, lw_okq q := by
  show ∀ q ∈ lw_privs_1 ++ (lw_privs_2), lw_okq q
  exact List.forall_mem_append.mpr ⟨lw_r1, lw_r2⟩

/-- the words that every contract of mine takes: those of the tables that stay true as the tables warm -/
def BIG : List Cond := lw_tbl.filter goodWord
theorem BIG_good : GoodIn BIG BIG := fun w hw => ⟨hw, by
  have h := (List.mem_filter.mp hw).2
  cases w <;> first | exact Or.inl h | exact Or.inr ⟨_, rfl⟩⟩
theorem BIG_at {w : Cond} (i : Nat) (h : tables_1[i]? = some w) (hg : goodWord w = true) : w ∈ BIG := List.mem_filter.mpr ⟨List.mem_append_right _ (List.mem_of_getElem? h), hg⟩
theorem BIG_sel {q : MethodName × Nat} (i : Nat) (h : lw_privs[i]? = some q) (hg : goodWord (Cond.selects q.1.cls q.1 q.1) = true) : Cond.selects q.1.cls q.1 q.1 ∈ BIG := List.mem_filter.mpr ⟨List.mem_append_left _ (List.mem_map.mpr ⟨q, List.mem_of_getElem? h, rfl⟩), hg⟩
def NESTW : List Cond := [.methodLinkNest "LockRuns" 11 ⟨"LockRuns$Chambers", "<init>", "()V"⟩ "LockRuns", .methodLinkNest "LockRuns" 18 ⟨"LockRuns$Fleet", "<init>", "()V"⟩ "LockRuns", .methodLinkNest "LockRuns$Planner" 11 ⟨"LockRuns$Timetable", "<init>", "()V"⟩ "LockRuns", .methodLinkNest "LockRuns$Timetable" 25 ⟨"LockRuns", "holds", "(II)Z"⟩ "LockRuns", .methodLinkNest "LockRuns$Fleet" 35 ⟨"LockRuns", "holds", "(II)Z"⟩ "LockRuns", .methodLinkNest "LockRuns$Berths" 37 ⟨"LockRuns", "holds", "(II)Z"⟩ "LockRuns"]
theorem NESTW_tab : ∀ w ∈ NESTW, w.onTables = true := by decide +kernel
theorem NESTW_is : ∀ w ∈ NESTW, ∃ (a : String) (i : Nat) (x : MethodName) (h : String), w = .methodLinkNest a i x h := by
  intro w hw
  simp only [NESTW, List.mem_cons, List.not_mem_nil, or_false] at hw
  rcases hw with rfl | rfl | rfl | rfl | rfl | rfl <;> exact ⟨_, _, _, _, rfl⟩
theorem NESTW_warm (w : Cond) (hw : w ∈ NESTW) {s U : State} (hW : s.WarmedH U.vm) (h : va_Nw w s) : va_Nw w U := by
  obtain ⟨a, i, x, h9, rfl⟩ := NESTW_is w hw
  exact va_Nw.warmM hW h
def R_LR : String := "LockRuns"
def F_LR : u_T := fun k => match k with
  | 0 => ("LockRuns", "chambers", "LLockRuns$Chambers;", true)
  | 1 => ("LockRuns", "fleet", "LLockRuns$Fleet;", true)
  | 2 => ("LockRuns", "berths", "LLockRuns$Berths;", true)
  | _ => ("LockRuns", "planner", "LLockRuns$Planner;", true)
def t_LR : Nat → FieldType := fun k => match k with
  | 0 => (.object "LockRuns$Chambers")
  | 1 => (.object "LockRuns$Fleet")
  | 2 => (.object "LockRuns$Berths")
  | _ => (.object "LockRuns$Planner")
theorem n_LR : ∀ a, a < 4 → ∀ b, b < 4 → a ≠ b → (F_LR a).2.1 ≠ (F_LR b).2.1 := by decide +kernel
theorem t_LR_ok : ∀ k, k < 4 → parseFieldDescriptor (F_LR k).2.2.1 = some (t_LR k) := by decide +kernel
theorem i_LR : ∀ w ∈ u_ws R_LR F_LR 4, w ∈ BIG := by
  intro w hw
  obtain ⟨j, hj, rfl⟩ := List.mem_map.mp hw
  have hj := List.mem_range.mp hj
  match j, hj with
  | 0, _ => exact BIG_at 160 (by decide +kernel) (by decide +kernel)
  | 1, _ => exact BIG_at 162 (by decide +kernel) (by decide +kernel)
  | 2, _ => exact BIG_at 164 (by decide +kernel) (by decide +kernel)
  | 3, _ => exact BIG_at 166 (by decide +kernel) (by decide +kernel)
  | j + 4, h => exact absurd h (by omega)
def R_Ch : String := "LockRuns$Chambers"
def F_Ch : u_T := fun k => match k with
  | 0 => ("LockRuns$Chambers", "lengths", "[I", true)
  | 1 => ("LockRuns$Chambers", "widths", "[I", true)
  | 2 => ("LockRuns$Chambers", "fills", "[I", true)
  | 3 => ("LockRuns$Chambers", "size", "I", false)
  | 4 => ("LockRuns$Chambers", "spanChambers", "[I", true)
  | 5 => ("LockRuns$Chambers", "spanBegins", "[I", true)
  | 6 => ("LockRuns$Chambers", "spanEnds", "[I", true)
  | _ => ("LockRuns$Chambers", "spans", "I", false)
def t_Ch : Nat → FieldType := fun k => match k with
  | 0 => (.array .int)
  | 1 => (.array .int)
  | 2 => (.array .int)
  | 3 => .int
  | 4 => (.array .int)
  | 5 => (.array .int)
  | 6 => (.array .int)
  | _ => .int
theorem n_Ch : ∀ a, a < 8 → ∀ b, b < 8 → a ≠ b → (F_Ch a).2.1 ≠ (F_Ch b).2.1 := by decide +kernel
theorem t_Ch_ok : ∀ k, k < 8 → parseFieldDescriptor (F_Ch k).2.2.1 = some (t_Ch k) := by decide +kernel
theorem i_Ch : ∀ w ∈ u_ws R_Ch F_Ch 8, w ∈ BIG := by
  intro w hw
  obtain ⟨j, hj, rfl⟩ := List.mem_map.mp hw
  have hj := List.mem_range.mp hj
  match j, hj with
  | 0, _ => exact BIG_at 38 (by decide +kernel) (by decide +kernel)
  | 1, _ => exact BIG_at 40 (by decide +kernel) (by decide +kernel)
  | 2, _ => exact BIG_at 42 (by decide +kernel) (by decide +kernel)
  | 3, _ => exact BIG_at 44 (by decide +kernel) (by decide +kernel)
  | 4, _ => exact BIG_at 46 (by decide +kernel) (by decide +kernel)
  | 5, _ => exact BIG_at 48 (by decide +kernel) (by decide +kernel)
  | 6, _ => exact BIG_at 50 (by decide +kernel) (by decide +kernel)
  | 7, _ => exact BIG_at 52 (by decide +kernel) (by decide +kernel)
  | j + 8, h => exact absurd h (by omega)
def R_Fl : String := "LockRuns$Fleet"
def F_Fl : u_T := fun k => match k with
  | 0 => ("LockRuns$Fleet", "lengths", "[I", true)
  | 1 => ("LockRuns$Fleet", "widths", "[I", true)
  | 2 => ("LockRuns$Fleet", "arrivals", "[I", true)
  | 3 => ("LockRuns$Fleet", "directions", "[I", true)
  | 4 => ("LockRuns$Fleet", "sides", "[I", true)
  | _ => ("LockRuns$Fleet", "size", "I", false)
def t_Fl : Nat → FieldType := fun k => match k with
  | 0 => (.array .int)
  | 1 => (.array .int)
  | 2 => (.array .int)
  | 3 => (.array .int)
  | 4 => (.array .int)
  | _ => .int
theorem n_Fl : ∀ a, a < 6 → ∀ b, b < 6 → a ≠ b → (F_Fl a).2.1 ≠ (F_Fl b).2.1 := by decide +kernel
theorem t_Fl_ok : ∀ k, k < 6 → parseFieldDescriptor (F_Fl k).2.2.1 = some (t_Fl k) := by decide +kernel
theorem i_Fl : ∀ w ∈ u_ws R_Fl F_Fl 6, w ∈ BIG := by
  intro w hw
  obtain ⟨j, hj, rfl⟩ := List.mem_map.mp hw
  have hj := List.mem_range.mp hj
  match j, hj with
  | 0, _ => exact BIG_at 68 (by decide +kernel) (by decide +kernel)
  | 1, _ => exact BIG_at 70 (by decide +kernel) (by decide +kernel)
  | 2, _ => exact BIG_at 72 (by decide +kernel) (by decide +kernel)
  | 3, _ => exact BIG_at 74 (by decide +kernel) (by decide +kernel)
  | 4, _ => exact BIG_at 76 (by decide +kernel) (by decide +kernel)
  | 5, _ => exact BIG_at 78 (by decide +kernel) (by decide +kernel)
  | j + 6, h => exact absurd h (by omega)
def R_Be : String := "LockRuns$Berths"
def F_Be : u_T := fun k => match k with
  | 0 => ("LockRuns$Berths", "chambers", "LLockRuns$Chambers;", true)
  | 1 => ("LockRuns$Berths", "fleet", "LLockRuns$Fleet;", true)
  | 2 => ("LockRuns$Berths", "xs", "[I", true)
  | 3 => ("LockRuns$Berths", "ys", "[I", true)
  | 4 => ("LockRuns$Berths", "found", "[I", true)
  | _ => ("LockRuns$Berths", "gap", "I", false)
def t_Be : Nat → FieldType := fun k => match k with
  | 0 => (.object "LockRuns$Chambers")
  | 1 => (.object "LockRuns$Fleet")
  | 2 => (.array .int)
  | 3 => (.array .int)
  | 4 => (.array .int)
  | _ => .int
theorem n_Be : ∀ a, a < 6 → ∀ b, b < 6 → a ≠ b → (F_Be a).2.1 ≠ (F_Be b).2.1 := by decide +kernel
theorem t_Be_ok : ∀ k, k < 6 → parseFieldDescriptor (F_Be k).2.2.1 = some (t_Be k) := by decide +kernel
theorem i_Be : ∀ w ∈ u_ws R_Be F_Be 6, w ∈ BIG := by
  intro w hw
  obtain ⟨j, hj, rfl⟩ := List.mem_map.mp hw
  have hj := List.mem_range.mp hj
  match j, hj with
  | 0, _ => exact BIG_at 93 (by decide +kernel) (by decide +kernel)
  | 1, _ => exact BIG_at 95 (by decide +kernel) (by decide +kernel)
  | 2, _ => exact BIG_at 97 (by decide +kernel) (by decide +kernel)
  | 3, _ => exact BIG_at 99 (by decide +kernel) (by decide +kernel)
  | 4, _ => exact BIG_at 101 (by decide +kernel) (by decide +kernel)
  | 5, _ => exact BIG_at 103 (by decide +kernel) (by decide +kernel)
  | j + 6, h => exact absurd h (by omega)
def R_Tt : String := "LockRuns$Timetable"
def F_Tt : u_T := fun k => match k with
  | 0 => ("LockRuns$Timetable", "begins", "[I", true)
  | 1 => ("LockRuns$Timetable", "chambers", "[I", true)
  | 2 => ("LockRuns$Timetable", "runs", "[I", true)
  | _ => ("LockRuns$Timetable", "waiting", "I", false)
def t_Tt : Nat → FieldType := fun k => match k with
  | 0 => (.array .int)
  | 1 => (.array .int)
  | 2 => (.array .int)
  | _ => .int
theorem n_Tt : ∀ a, a < 4 → ∀ b, b < 4 → a ≠ b → (F_Tt a).2.1 ≠ (F_Tt b).2.1 := by decide +kernel
theorem t_Tt_ok : ∀ k, k < 4 → parseFieldDescriptor (F_Tt k).2.2.1 = some (t_Tt k) := by decide +kernel
theorem i_Tt : ∀ w ∈ u_ws R_Tt F_Tt 4, w ∈ BIG := by
  intro w hw
  obtain ⟨j, hj, rfl⟩ := List.mem_map.mp hw
  have hj := List.mem_range.mp hj
  match j, hj with
  | 0, _ => exact BIG_at 122 (by decide +kernel) (by decide +kernel)
  | 1, _ => exact BIG_at 124 (by decide +kernel) (by decide +kernel)
  | 2, _ => exact BIG_at 126 (by decide +kernel) (by decide +kernel)
  | 3, _ => exact BIG_at 128 (by decide +kernel) (by decide +kernel)
  | j + 4, h => exact absurd h (by omega)
def R_Pl : String := "LockRuns$Planner"
def F_Pl : u_T := fun k => match k with
  | 0 => ("LockRuns$Planner", "chambers", "LLockRuns$Chambers;", true)
  | 1 => ("LockRuns$Planner", "fleet", "LLockRuns$Fleet;", true)
  | 2 => ("LockRuns$Planner", "berths", "LLockRuns$Berths;", true)
  | 3 => ("LockRuns$Planner", "trial", "LLockRuns$Timetable;", true)
  | 4 => ("LockRuns$Planner", "best", "LLockRuns$Timetable;", true)
  | 5 => ("LockRuns$Planner", "previous", "LLockRuns$Timetable;", true)
  | 6 => ("LockRuns$Planner", "planned", "Z", false)
  | _ => ("LockRuns$Planner", "over", "I", false)
def t_Pl : Nat → FieldType := fun k => match k with
  | 0 => (.object "LockRuns$Chambers")
  | 1 => (.object "LockRuns$Fleet")
  | 2 => (.object "LockRuns$Berths")
  | 3 => (.object "LockRuns$Timetable")
  | 4 => (.object "LockRuns$Timetable")
  | 5 => (.object "LockRuns$Timetable")
  | 6 => .boolean
  | _ => .int
theorem n_Pl : ∀ a, a < 8 → ∀ b, b < 8 → a ≠ b → (F_Pl a).2.1 ≠ (F_Pl b).2.1 := by decide +kernel
theorem t_Pl_ok : ∀ k, k < 8 → parseFieldDescriptor (F_Pl k).2.2.1 = some (t_Pl k) := by decide +kernel
theorem i_Pl : ∀ w ∈ u_ws R_Pl F_Pl 8, w ∈ BIG := by
  intro w hw
  obtain ⟨j, hj, rfl⟩ := List.mem_map.mp hw
  have hj := List.mem_range.mp hj
  match j, hj with
  | 0, _ => exact BIG_at 139 (by decide +kernel) (by decide +kernel)
  | 1, _ => exact BIG_at 141 (by decide +kernel) (by decide +kernel)
  | 2, _ => exact BIG_at 143 (by decide +kernel) (by decide +kernel)
  | 3, _ => exact BIG_at 145 (by decide +kernel) (by decide +kernel)
  | 4, _ => exact BIG_at 147 (by decide +kernel) (by decide +kernel)
  | 5, _ => exact BIG_at 149 (by decide +kernel) (by decide +kernel)
  | 6, _ => exact BIG_at 151 (by decide +kernel) (by decide +kernel)
  | 7, _ => exact BIG_at 153 (by decide +kernel) (by decide +kernel)
  | j + 8, h => exact absurd h (by omega)
def R_Mo : String := "LockRunsModel"
def F_Mo : u_T := fun k => match k with
  | 0 => ("LockRunsModel", "thrown", "I", false)
  | 1 => ("LockRunsModel", "chambers", "I", false)
  | 2 => ("LockRunsModel", "ships", "I", false)
  | 3 => ("LockRunsModel", "spans", "I", false)
  | 4 => ("LockRunsModel", "gap", "I", false)
  | 5 => ("LockRunsModel", "over", "I", false)
  | 6 => ("LockRunsModel", "isPlan", "Z", false)
  | 7 => ("LockRunsModel", "lengthOf", "[I", true)
  | 8 => ("LockRunsModel", "widthOf", "[I", true)
  | 9 => ("LockRunsModel", "fillOf", "[I", true)
  | 10 => ("LockRunsModel", "spanChamber", "[I", true)
  | 11 => ("LockRunsModel", "spanFrom", "[I", true)
  | 12 => ("LockRunsModel", "spanTo", "[I", true)
  | 13 => ("LockRunsModel", "shipLength", "[I", true)
  | 14 => ("LockRunsModel", "shipWidth", "[I", true)
  | 15 => ("LockRunsModel", "arrives", "[I", true)
  | 16 => ("LockRunsModel", "way", "[I", true)
  | 17 => ("LockRunsModel", "side", "[I", true)
  | 18 => ("LockRunsModel", "laid", "[I", true)
  | 19 => ("LockRunsModel", "isFit", "[Z", true)
  | 20 => ("LockRunsModel", "tried", "[I", true)
  | 21 => ("LockRunsModel", "triedBegin", "[I", true)
  | 22 => ("LockRunsModel", "best", "[I", true)
  | 23 => ("LockRunsModel", "bestBegin", "[I", true)
  | _ => ("LockRunsModel", "runBegin", "[I", true)
def t_Mo : Nat → FieldType := fun k => match k with
  | 0 => .int
  | 1 => .int
  | 2 => .int
  | 3 => .int
  | 4 => .int
  | 5 => .int
  | 6 => .boolean
  | 7 => (.array .int)
  | 8 => (.array .int)
  | 9 => (.array .int)
  | 10 => (.array .int)
  | 11 => (.array .int)
  | 12 => (.array .int)
  | 13 => (.array .int)
  | 14 => (.array .int)
  | 15 => (.array .int)
  | 16 => (.array .int)
  | 17 => (.array .int)
  | 18 => (.array .int)
  | 19 => (.array .boolean)
  | 20 => (.array .int)
  | 21 => (.array .int)
  | 22 => (.array .int)
  | 23 => (.array .int)
  | _ => (.array .int)
theorem n_Mo : ∀ a, a < 25 → ∀ b, b < 25 → a ≠ b → (F_Mo a).2.1 ≠ (F_Mo b).2.1 := by decide +kernel
theorem t_Mo_ok : ∀ k, k < 25 → parseFieldDescriptor (F_Mo k).2.2.1 = some (t_Mo k) := by decide +kernel
theorem i_Mo : ∀ w ∈ u_ws R_Mo F_Mo 25, w ∈ BIG := by
  intro w hw
  obtain ⟨j, hj, rfl⟩ := List.mem_map.mp hw
  have hj := List.mem_range.mp hj
  match j, hj with
  | 0, _ => exact BIG_at 666 (by decide +kernel) (by decide +kernel)
  | 1, _ => exact BIG_at 668 (by decide +kernel) (by decide +kernel)
  | 2, _ => exact BIG_at 670 (by decide +kernel) (by decide +kernel)
  | 3, _ => exact BIG_at 672 (by decide +kernel) (by decide +kernel)
  | 4, _ => exact BIG_at 674 (by decide +kernel) (by decide +kernel)
  | 5, _ => exact BIG_at 676 (by decide +kernel) (by decide +kernel)
  | 6, _ => exact BIG_at 678 (by decide +kernel) (by decide +kernel)
  | 7, _ => exact BIG_at 680 (by decide +kernel) (by decide +kernel)
  | 8, _ => exact BIG_at 682 (by decide +kernel) (by decide +kernel)
  | 9, _ => exact BIG_at 684 (by decide +kernel) (by decide +kernel)
  | 10, _ => exact BIG_at 686 (by decide +kernel) (by decide +kernel)
  | 11, _ => exact BIG_at 688 (by decide +kernel) (by decide +kernel)
  | 12, _ => exact BIG_at 690 (by decide +kernel) (by decide +kernel)
  | 13, _ => exact BIG_at 692 (by decide +kernel) (by decide +kernel)
  | 14, _ => exact BIG_at 694 (by decide +kernel) (by decide +kernel)
  | 15, _ => exact BIG_at 696 (by decide +kernel) (by decide +kernel)
  | 16, _ => exact BIG_at 698 (by decide +kernel) (by decide +kernel)
  | 17, _ => exact BIG_at 700 (by decide +kernel) (by decide +kernel)
  | 18, _ => exact BIG_at 702 (by decide +kernel) (by decide +kernel)
  | 19, _ => exact BIG_at 704 (by decide +kernel) (by decide +kernel)
  | 20, _ => exact BIG_at 706 (by decide +kernel) (by decide +kernel)
  | 21, _ => exact BIG_at 708 (by decide +kernel) (by decide +kernel)
  | 22, _ => exact BIG_at 710 (by decide +kernel) (by decide +kernel)
  | 23, _ => exact BIG_at 712 (by decide +kernel) (by decide +kernel)
  | 24, _ => exact BIG_at 714 (by decide +kernel) (by decide +kernel)
  | j + 25, h => exact absurd h (by omega)
def R_Lw : String := "LockRunsLaw"
abbrev classes : List vw_C := [(R_LR, F_LR, 4), (R_Ch, F_Ch, 8), (R_Fl, F_Fl, 6), (R_Be, F_Be, 6), (R_Tt, F_Tt, 4), (R_Pl, F_Pl, 8), (R_Mo, F_Mo, 25)]
abbrev b_LR_init : ByteArray := prog_1_method_1_code
def y_LR_init : MethodName := ⟨R_LR, "<init>", "()V"⟩
abbrev b_LR_chamber : ByteArray := prog_1_method_2_code
def y_LR_chamber : MethodName := ⟨R_LR, "chamber", "(III)I"⟩
abbrev b_LR_ship : ByteArray := prog_1_method_3_code
def y_LR_ship : MethodName := ⟨R_LR, "ship", "(IIIII)I"⟩
abbrev b_LR_closed : ByteArray := prog_1_method_4_code
def y_LR_closed : MethodName := ⟨R_LR, "closed", "(III)Z"⟩
abbrev b_LR_rule : ByteArray := prog_1_method_5_code
def y_LR_rule : MethodName := ⟨R_LR, "rule", "(II)Z"⟩
abbrev b_LR_plan : ByteArray := prog_1_method_6_code
def y_LR_plan : MethodName := ⟨R_LR, "plan", "()I"⟩
abbrev b_LR_fits : ByteArray := prog_1_method_7_code
def y_LR_fits : MethodName := ⟨R_LR, "fits", "(II)Z"⟩
abbrev b_LR_of : ByteArray := prog_1_method_8_code
def y_LR_of : MethodName := ⟨R_LR, "of", "(II)I"⟩
abbrev b_LR_run : ByteArray := prog_1_method_9_code
def y_LR_run : MethodName := ⟨R_LR, "run", "(III)I"⟩
abbrev b_LR_late : ByteArray := prog_1_method_10_code
def y_LR_late : MethodName := ⟨R_LR, "late", "(II)I"⟩
abbrev b_LR_home : ByteArray := prog_1_method_11_code
def y_LR_home : MethodName := ⟨R_LR, "home", "(I)I"⟩
abbrev b_LR_rate : ByteArray := prog_1_method_12_code
def y_LR_rate : MethodName := ⟨R_LR, "rate", "(II)I"⟩
abbrev b_LR_count : ByteArray := prog_1_method_13_code
def y_LR_count : MethodName := ⟨R_LR, "count", "(I)I"⟩
abbrev b_LR_runsOf : ByteArray := prog_1_method_14_code
def y_LR_runsOf : MethodName := ⟨R_LR, "runsOf", "(I)I"⟩
abbrev b_LR_canMeasure : ByteArray := prog_1_method_15_code
def y_LR_canMeasure : MethodName := ⟨R_LR, "canMeasure", "(II)Z"⟩
abbrev b_LR_within : ByteArray := prog_1_method_16_code
def y_LR_within : MethodName := ⟨R_LR, "within", "(III)Z"⟩
abbrev b_LR_holds : ByteArray := prog_1_method_17_code
def y_LR_holds : MethodName := ⟨R_LR, "holds", "(II)Z"⟩
abbrev b_Ch_init : ByteArray := prog_3_method_1_code
def y_Ch_init : MethodName := ⟨R_Ch, "<init>", "()V"⟩
abbrev b_Ch_size : ByteArray := prog_3_method_2_code
def y_Ch_size : MethodName := ⟨R_Ch, "size", "()I"⟩
abbrev b_Ch_spans : ByteArray := prog_3_method_3_code
def y_Ch_spans : MethodName := ⟨R_Ch, "spans", "()I"⟩
abbrev b_Ch_has : ByteArray := prog_3_method_4_code
def y_Ch_has : MethodName := ⟨R_Ch, "has", "(I)Z"⟩
abbrev b_Ch_add : ByteArray := prog_3_method_5_code
def y_Ch_add : MethodName := ⟨R_Ch, "add", "(III)I"⟩
abbrev b_Ch_addSpan : ByteArray := prog_3_method_6_code
def y_Ch_addSpan : MethodName := ⟨R_Ch, "addSpan", "(III)Z"⟩
abbrev b_Ch_length : ByteArray := prog_3_method_7_code
def y_Ch_length : MethodName := ⟨R_Ch, "length", "(I)I"⟩
abbrev b_Ch_width : ByteArray := prog_3_method_8_code
def y_Ch_width : MethodName := ⟨R_Ch, "width", "(I)I"⟩
abbrev b_Ch_fill : ByteArray := prog_3_method_9_code
def y_Ch_fill : MethodName := ⟨R_Ch, "fill", "(I)I"⟩
abbrev b_Ch_firstOpen : ByteArray := prog_3_method_10_code
def y_Ch_firstOpen : MethodName := ⟨R_Ch, "firstOpen", "(II)I"⟩
abbrev b_Ch_pastSpans : ByteArray := prog_3_method_11_code
def y_Ch_pastSpans : MethodName := ⟨R_Ch, "pastSpans", "(II)I"⟩
abbrev b_Fl_init : ByteArray := prog_4_method_1_code
def y_Fl_init : MethodName := ⟨R_Fl, "<init>", "()V"⟩
abbrev b_Fl_size : ByteArray := prog_4_method_2_code
def y_Fl_size : MethodName := ⟨R_Fl, "size", "()I"⟩
abbrev b_Fl_has : ByteArray := prog_4_method_3_code
def y_Fl_has : MethodName := ⟨R_Fl, "has", "(I)Z"⟩
abbrev b_Fl_all : ByteArray := prog_4_method_4_code
def y_Fl_all : MethodName := ⟨R_Fl, "all", "()I"⟩
abbrev b_Fl_add : ByteArray := prog_4_method_5_code
def y_Fl_add : MethodName := ⟨R_Fl, "add", "(IIIII)I"⟩
abbrev b_Fl_length : ByteArray := prog_4_method_6_code
def y_Fl_length : MethodName := ⟨R_Fl, "length", "(I)I"⟩
abbrev b_Fl_width : ByteArray := prog_4_method_7_code
def y_Fl_width : MethodName := ⟨R_Fl, "width", "(I)I"⟩
abbrev b_Fl_side : ByteArray := prog_4_method_8_code
def y_Fl_side : MethodName := ⟨R_Fl, "side", "(I)I"⟩
abbrev b_Fl_arrival : ByteArray := prog_4_method_9_code
def y_Fl_arrival : MethodName := ⟨R_Fl, "arrival", "(I)I"⟩
abbrev b_Fl_setArrival : ByteArray := prog_4_method_10_code
def y_Fl_setArrival : MethodName := ⟨R_Fl, "setArrival", "(II)V"⟩
abbrev b_Fl_commonDirection : ByteArray := prog_4_method_11_code
def y_Fl_commonDirection : MethodName := ⟨R_Fl, "commonDirection", "(I)I"⟩
abbrev b_Fl_lastArrival : ByteArray := prog_4_method_12_code
def y_Fl_lastArrival : MethodName := ⟨R_Fl, "lastArrival", "(I)I"⟩
abbrev b_Fl_waiting : ByteArray := prog_4_method_13_code
def y_Fl_waiting : MethodName := ⟨R_Fl, "waiting", "(II)I"⟩
abbrev b_Fl_comesBehind : ByteArray := prog_4_method_14_code
def y_Fl_comesBehind : MethodName := ⟨R_Fl, "comesBehind", "(II)Z"⟩
abbrev b_Be_init : ByteArray := prog_2_method_1_code
def y_Be_init : MethodName := ⟨R_Be, "<init>", "(LLockRuns$Chambers;LLockRuns$Fleet;)V"⟩
abbrev b_Be_gap : ByteArray := prog_2_method_2_code
def y_Be_gap : MethodName := ⟨R_Be, "gap", "()I"⟩
abbrev b_Be_setGap : ByteArray := prog_2_method_3_code
def y_Be_setGap : MethodName := ⟨R_Be, "setGap", "(I)V"⟩
abbrev b_Be_x : ByteArray := prog_2_method_4_code
def y_Be_x : MethodName := ⟨R_Be, "x", "(I)I"⟩
abbrev b_Be_y : ByteArray := prog_2_method_5_code
def y_Be_y : MethodName := ⟨R_Be, "y", "(I)I"⟩
abbrev b_Be_canLay : ByteArray := prog_2_method_6_code
def y_Be_canLay : MethodName := ⟨R_Be, "canLay", "(II)Z"⟩
abbrev b_Be_lay : ByteArray := prog_2_method_7_code
def y_Be_lay : MethodName := ⟨R_Be, "lay", "(II)Z"⟩
abbrev b_Be_layFrom : ByteArray := prog_2_method_8_code
def y_Be_layFrom : MethodName := ⟨R_Be, "layFrom", "(IIII)Z"⟩
abbrev b_Be_cells : ByteArray := prog_2_method_9_code
def y_Be_cells : MethodName := ⟨R_Be, "cells", "(IIII)I"⟩
abbrev b_Tt_init : ByteArray := prog_6_method_1_code
def y_Tt_init : MethodName := ⟨R_Tt, "<init>", "()V"⟩
abbrev b_Tt_waiting : ByteArray := prog_6_method_2_code
def y_Tt_waiting : MethodName := ⟨R_Tt, "waiting", "()I"⟩
abbrev b_Tt_setWaiting : ByteArray := prog_6_method_3_code
def y_Tt_setWaiting : MethodName := ⟨R_Tt, "setWaiting", "(I)V"⟩
abbrev b_Tt_begin : ByteArray := prog_6_method_4_code
def y_Tt_begin : MethodName := ⟨R_Tt, "begin", "(I)I"⟩
abbrev b_Tt_beginOfAll : ByteArray := prog_6_method_5_code
def y_Tt_beginOfAll : MethodName := ⟨R_Tt, "beginOfAll", "(I)I"⟩
abbrev b_Tt_chamberOf : ByteArray := prog_6_method_6_code
def y_Tt_chamberOf : MethodName := ⟨R_Tt, "chamberOf", "(I)I"⟩
abbrev b_Tt_runOf : ByteArray := prog_6_method_7_code
def y_Tt_runOf : MethodName := ⟨R_Tt, "runOf", "(I)I"⟩
abbrev b_Tt_put : ByteArray := prog_6_method_8_code
def y_Tt_put : MethodName := ⟨R_Tt, "put", "(IIII)V"⟩
abbrev b_Tt_copyFrom : ByteArray := prog_6_method_9_code
def y_Tt_copyFrom : MethodName := ⟨R_Tt, "copyFrom", "(LLockRuns$Timetable;)V"⟩
abbrev b_Tt_isAheadOf : ByteArray := prog_6_method_10_code
def y_Tt_isAheadOf : MethodName := ⟨R_Tt, "isAheadOf", "(LLockRuns$Timetable;I)Z"⟩
abbrev b_Tt_differences : ByteArray := prog_6_method_11_code
def y_Tt_differences : MethodName := ⟨R_Tt, "differences", "(LLockRuns$Timetable;I)I"⟩
abbrev b_Tt_differs : ByteArray := prog_6_method_12_code
def y_Tt_differs : MethodName := ⟨R_Tt, "differs", "(LLockRuns$Timetable;I)Z"⟩
abbrev b_Tt_aboard : ByteArray := prog_6_method_13_code
def y_Tt_aboard : MethodName := ⟨R_Tt, "aboard", "(III)I"⟩
abbrev b_Pl_init : ByteArray := prog_5_method_1_code
def y_Pl_init : MethodName := ⟨R_Pl, "<init>", "(LLockRuns$Chambers;LLockRuns$Fleet;LLockRuns$Berths;)V"⟩
abbrev b_Pl_over : ByteArray := prog_5_method_2_code
def y_Pl_over : MethodName := ⟨R_Pl, "over", "()I"⟩
abbrev b_Pl_setOver : ByteArray := prog_5_method_3_code
def y_Pl_setOver : MethodName := ⟨R_Pl, "setOver", "(I)V"⟩
abbrev b_Pl_hasPlan : ByteArray := prog_5_method_4_code
def y_Pl_hasPlan : MethodName := ⟨R_Pl, "hasPlan", "()Z"⟩
abbrev b_Pl_forget : ByteArray := prog_5_method_5_code
def y_Pl_forget : MethodName := ⟨R_Pl, "forget", "()V"⟩
abbrev b_Pl_waiting : ByteArray := prog_5_method_6_code
def y_Pl_waiting : MethodName := ⟨R_Pl, "waiting", "()I"⟩
abbrev b_Pl_search : ByteArray := prog_5_method_7_code
def y_Pl_search : MethodName := ⟨R_Pl, "search", "()Z"⟩
abbrev b_Pl_keepForComparison : ByteArray := prog_5_method_8_code
def y_Pl_keepForComparison : MethodName := ⟨R_Pl, "keepForComparison", "()V"⟩
abbrev b_Pl_moved : ByteArray := prog_5_method_9_code
def y_Pl_moved : MethodName := ⟨R_Pl, "moved", "()I"⟩
abbrev b_Pl_tryRuns : ByteArray := prog_5_method_10_code
def y_Pl_tryRuns : MethodName := ⟨R_Pl, "tryRuns", "(IIIIII)V"⟩
abbrev b_Pl_canRun : ByteArray := prog_5_method_11_code
def y_Pl_canRun : MethodName := ⟨R_Pl, "canRun", "(II)Z"⟩
abbrev b_Pl_offerTrial : ByteArray := prog_5_method_12_code
def y_Pl_offerTrial : MethodName := ⟨R_Pl, "offerTrial", "(I)V"⟩
abbrev b_Pl_overtaken : ByteArray := prog_5_method_13_code
def y_Pl_overtaken : MethodName := ⟨R_Pl, "overtaken", "(LLockRuns$Timetable;I)I"⟩
abbrev b_Pl_tellShip : ByteArray := prog_5_method_14_code
def y_Pl_tellShip : MethodName := ⟨R_Pl, "tellShip", "(II)I"⟩
abbrev b_Pl_layRunOf : ByteArray := prog_5_method_15_code
def y_Pl_layRunOf : MethodName := ⟨R_Pl, "layRunOf", "(I)Z"⟩
abbrev b_Pl_tellRun : ByteArray := prog_5_method_16_code
def y_Pl_tellRun : MethodName := ⟨R_Pl, "tellRun", "(III)I"⟩
abbrev b_Pl_runs : ByteArray := prog_5_method_17_code
def y_Pl_runs : MethodName := ⟨R_Pl, "runs", "(I)I"⟩
abbrev b_Mo_init : ByteArray := prog_8_method_1_code
def y_Mo_init : MethodName := ⟨R_Mo, "<init>", "()V"⟩
abbrev b_Mo_thrown : ByteArray := prog_8_method_2_code
def y_Mo_thrown : MethodName := ⟨R_Mo, "thrown", "()I"⟩
abbrev b_Mo_in : ByteArray := prog_8_method_3_code
def y_Mo_in : MethodName := ⟨R_Mo, "in", "(III)Z"⟩
abbrev b_Mo_isChamber : ByteArray := prog_8_method_4_code
def y_Mo_isChamber : MethodName := ⟨R_Mo, "isChamber", "(I)Z"⟩
abbrev b_Mo_isShip : ByteArray := prog_8_method_5_code
def y_Mo_isShip : MethodName := ⟨R_Mo, "isShip", "(I)Z"⟩
abbrev b_Mo_chamber : ByteArray := prog_8_method_6_code
def y_Mo_chamber : MethodName := ⟨R_Mo, "chamber", "(III)I"⟩
abbrev b_Mo_ship : ByteArray := prog_8_method_7_code
def y_Mo_ship : MethodName := ⟨R_Mo, "ship", "(IIIII)I"⟩
abbrev b_Mo_closed : ByteArray := prog_8_method_8_code
def y_Mo_closed : MethodName := ⟨R_Mo, "closed", "(III)Z"⟩
abbrev b_Mo_rule : ByteArray := prog_8_method_9_code
def y_Mo_rule : MethodName := ⟨R_Mo, "rule", "(II)Z"⟩
abbrev b_Mo_mayLie : ByteArray := prog_8_method_10_code
def y_Mo_mayLie : MethodName := ⟨R_Mo, "mayLie", "(IIII)Z"⟩
abbrev b_Mo_lay : ByteArray := prog_8_method_11_code
def y_Mo_lay : MethodName := ⟨R_Mo, "lay", "(II)Z"⟩
abbrev b_Mo_fits : ByteArray := prog_8_method_12_code
def y_Mo_fits : MethodName := ⟨R_Mo, "fits", "(II)Z"⟩
abbrev b_Mo_setOf : ByteArray := prog_8_method_13_code
def y_Mo_setOf : MethodName := ⟨R_Mo, "setOf", "(I)I"⟩
abbrev b_Mo_first : ByteArray := prog_8_method_14_code
def y_Mo_first : MethodName := ⟨R_Mo, "first", "(I)I"⟩
abbrev b_Mo_isOneWay : ByteArray := prog_8_method_15_code
def y_Mo_isOneWay : MethodName := ⟨R_Mo, "isOneWay", "(I)Z"⟩
abbrev b_Mo_open : ByteArray := prog_8_method_16_code
def y_Mo_open : MethodName := ⟨R_Mo, "open", "(II)I"⟩
abbrev b_Mo_times : ByteArray := prog_8_method_17_code
def y_Mo_times : MethodName := ⟨R_Mo, "times", "(I)Z"⟩
abbrev b_Mo_overtaken : ByteArray := prog_8_method_18_code
def y_Mo_overtaken : MethodName := ⟨R_Mo, "overtaken", "(IZ)I"⟩
abbrev b_Mo_weighed : ByteArray := prog_8_method_19_code
def y_Mo_weighed : MethodName := ⟨R_Mo, "weighed", "()I"⟩
abbrev b_Mo_isAhead : ByteArray := prog_8_method_20_code
def y_Mo_isAhead : MethodName := ⟨R_Mo, "isAhead", "()Z"⟩
abbrev b_Mo_search : ByteArray := prog_8_method_21_code
def y_Mo_search : MethodName := ⟨R_Mo, "search", "()I"⟩
abbrev b_Mo_plan : ByteArray := prog_8_method_22_code
def y_Mo_plan : MethodName := ⟨R_Mo, "plan", "()I"⟩
abbrev b_Mo_shipsOf : ByteArray := prog_8_method_23_code
def y_Mo_shipsOf : MethodName := ⟨R_Mo, "shipsOf", "(I)I"⟩
abbrev b_Mo_of : ByteArray := prog_8_method_24_code
def y_Mo_of : MethodName := ⟨R_Mo, "of", "(II)I"⟩
abbrev b_Mo_run : ByteArray := prog_8_method_25_code
def y_Mo_run : MethodName := ⟨R_Mo, "run", "(III)I"⟩
abbrev b_Mo_late : ByteArray := prog_8_method_26_code
def y_Mo_late : MethodName := ⟨R_Mo, "late", "(II)I"⟩
abbrev b_Mo_home : ByteArray := prog_8_method_27_code
def y_Mo_home : MethodName := ⟨R_Mo, "home", "(I)I"⟩
abbrev b_Mo_rate : ByteArray := prog_8_method_28_code
def y_Mo_rate : MethodName := ⟨R_Mo, "rate", "(II)I"⟩
abbrev b_Mo_count : ByteArray := prog_8_method_29_code
def y_Mo_count : MethodName := ⟨R_Mo, "count", "(I)I"⟩
abbrev b_Lw_chamber : ByteArray := method_3_code
def y_Lw_chamber : MethodName := ⟨R_Lw, "chamber", "(LLockRuns;III[J)I"⟩
abbrev b_Lw_ship : ByteArray := method_4_code
def y_Lw_ship : MethodName := ⟨R_Lw, "ship", "(LLockRuns;IIIII[J)I"⟩
abbrev b_Lw_fits : ByteArray := method_5_code
def y_Lw_fits : MethodName := ⟨R_Lw, "fits", "(LLockRuns;II[J)I"⟩
abbrev b_Lw_of : ByteArray := method_6_code
def y_Lw_of : MethodName := ⟨R_Lw, "of", "(LLockRuns;II[J)I"⟩
abbrev b_Lw_run : ByteArray := method_7_code
def y_Lw_run : MethodName := ⟨R_Lw, "run", "(LLockRuns;III[J)I"⟩
abbrev b_Lw_late : ByteArray := method_8_code
def y_Lw_late : MethodName := ⟨R_Lw, "late", "(LLockRuns;II[J)I"⟩
abbrev b_Lw_home : ByteArray := method_9_code
def y_Lw_home : MethodName := ⟨R_Lw, "home", "(LLockRuns;I[J)I"⟩
abbrev b_Lw_rate : ByteArray := method_10_code
def y_Lw_rate : MethodName := ⟨R_Lw, "rate", "(LLockRuns;II[J)I"⟩
end
section
/-! what the pure functions are made of -/
def xlet {α β : Type} (v : α) (f : α → β) : β := f v
theorem xlet_at {α β : Type} {v z : α} {f : α → β} {o : β} (h : z = v) (hf : xlet v f = o) : f z = o := by rw [h]; exact hf
theorem xi_pos {c : Prop} [Decidable c] {α : Type} {a b o : α} (h : c) (hf : (if c then a else b) = o) : a = o := by rw [if_pos h] at hf; exact hf
theorem xi_neg {c : Prop} [Decidable c] {α : Type} {a b o : α} (h : ¬ c) (hf : (if c then a else b) = o) : b = o := by rw [if_neg h] at hf; exact hf
theorem xb_some {α β : Type} {o : Option α} {f : α → Option β} {r : β} (h : o.bind f = some r) : ∃ a, o = some a ∧ f a = some r := Option.bind_eq_some_iff.mp h
theorem xb_guard {c : Prop} [Decidable c] {α : Type} {a : Option α} {o : α} (hf : (if c then a else none) = some o) : c ∧ a = some o := by
  by_cases h : c
  · rw [if_pos h] at hf; exact ⟨h, hf⟩
  · rw [if_neg h] at hf; cases hf
abbrev xin (i : Int32) (n : Nat) : Prop := ¬ (i < 0 ∨ n ≤ i.toNatClampNeg)
theorem xb_narrow {v : Int32} (h : v = 0 ∨ v = 1) : narrow .boolean (.int v) = .int v := by rcases h with rfl | rfl <;> rfl
theorem xb_fits {v : Int32} (h : v = 0 ∨ v = 1) : fits .boolean (.int v) = true := by rcases h with rfl | rfl <;> rfl
/-- a switch goes to its default -/
theorem xsw_out {x : Int32} (n : Nat) (hn : n < 2 ^ 31) (h : ∀ k : Nat, k < n → ¬ x = Int32.ofNat k) : x.toInt < 0 ∨ ((n : Nat) : Int) - 1 < x.toInt := by
  by_cases h0 : x.toInt < 0
  · exact Or.inl h0
  · right
    by_cases h1 : (n : Int) - 1 < x.toInt
    · exact h1
    · exfalso
      have h2 : ¬ x < 0 := fun h9 => h0 (by simpa using Int32.lt_iff_toInt_lt.mp h9)
      obtain ⟨j, hj, e⟩ := nI_of h2
      refine h j ?_ e
      have h3 : x.toInt = (j : Int) := by rw [e]; exact nI_toInt hj
      omega
/-! THE WALK OVER A PURE STATE. xJ: at pc, with locals lv and stack st, over every heap that holds the world ws, the method comes to Q. xC: what is fixed in a walk. -/
section XJ
variable {p : Program} {l : Launch} {e : Env} {R : Room} {s : State} {m : MethodId} {args : Array Value} {below : List Frame} {meth : Method} {c : Code} {cells slots : Nat} {Q : State → Prop}
variable {A : Nat → Prop} {D : va_G} {tys : List (ClassId × FieldType)} {ws : va_W} {nL : Nat} {lv : List (Nat × Value)} {pc : Nat} {rest : List Value} {cc : ByteArray} {own : String}
def xJ (p : Program) (l : Launch) (e : Env) (R : Room) (s : State) (m : MethodId) (args : Array Value) (below : List Frame) (meth : Method) (c : Code) (cells slots : Nat) (Q : State → Prop) (A : Nat → Prop) (D : va_G) (nL : Nat) (ws : va_W) (lv : List (Nat × Value)) (pc : Nat) (st : List Value) : Prop :=
  ∀ (H : Heap) (locs : List Loc) (ls : Array Slot), va_P D classes ws H → va_S A s.heap H locs → lv_has ls nL lv → W p l e R s m args below meth c H locs cells slots Q (F0 m pc ls st)
def xC (p : Program) (s : State) (m : MethodId) (args : Array Value) (meth : Method) (c : Code) (A : Nat → Prop) (D : va_G) (nL : Nat) (tys : List (ClassId × FieldType)) (cc : ByteArray) (own : String) : Prop :=
  (p.tables.exec = Jvm.exec ∧ c.code = cc ∧ c.maxLocals = nL ∧ s.vm.findClass own = some m.cls ∧ ∀ w ∈ BIG, w.before args s = true) ∧ va_K D classes tys s ∧ (∀ q : Nat, s.heap.size ≤ q → A q) ∧ meth.locks = false ∧ ∀ w ∈ NESTW, va_Nw w s
theorem xC.ex (C : xC p s m args meth c A D nL tys cc own) : p.tables.exec = Jvm.exec := C.1.1
theorem xC.by (C : xC p s m args meth c A D nL tys cc own) : c.code = cc := C.1.2.1
theorem xC.ow (C : xC p s m args meth c A D nL tys cc own) : s.vm.findClass own = some m.cls := C.1.2.2.2.1
theorem xC.ts (C : xC p s m args meth c A D nL tys cc own) : ∀ w ∈ BIG, w.before args s = true := C.1.2.2.2.2
theorem xC.K (C : xC p s m args meth c A D nL tys cc own) : va_K D classes tys s := C.2.1
theorem xC.fA (C : xC p s m args meth c A D nL tys cc own) : ∀ q : Nat, s.heap.size ≤ q → A q := C.2.2.1
theorem xC.lk (C : xC p s m args meth c A D nL tys cc own) : meth.locks = false := C.2.2.2.1
theorem xC.nw (C : xC p s m args meth c A D nL tys cc own) : ∀ w ∈ NESTW, va_Nw w s := C.2.2.2.2
theorem xj_iconst (C : xC p s m args meth c A D nL tys cc own) {n : Int} {v : Int32} (hdg : decode cc pc = .ok (.iconst n, 1)) (hv : Int32.ofInt n = v) (k : xJ p l e R s m args below meth c cells slots Q A D nL ws lv (pc + 1) (.int v :: rest)) : xJ p l e R s m args below meth c cells slots Q A D nL ws lv pc rest := fun H locs ls hP hS hl => lv_iconst C.ex C.by hdg hv (k H locs ls hP hS hl)
theorem xj_bipush (C : xC p s m args meth c A D nL tys cc own) {n : Int} {v : Int32} (hdg : decode cc pc = .ok (.bipush n, 2)) (hv : (Int8.ofInt n).toInt32 = v) (k : xJ p l e R s m args below meth c cells slots Q A D nL ws lv (pc + 2) (.int v :: rest)) : xJ p l e R s m args below meth c cells slots Q A D nL ws lv pc rest := fun H locs ls hP hS hl => lv_bipush C.ex C.by hdg hv (k H locs ls hP hS hl)
theorem xj_sipush (C : xC p s m args meth c A D nL tys cc own) {n : Int} {v : Int32} (hdg : decode cc pc = .ok (.sipush n, 3)) (hv : (Int16.ofInt n).toInt32 = v) (k : xJ p l e R s m args below meth c cells slots Q A D nL ws lv (pc + 3) (.int v :: rest)) : xJ p l e R s m args below meth c cells slots Q A D nL ws lv pc rest := fun H locs ls hP hS hl => lv_sipush C.ex C.by hdg hv (k H locs ls hP hS hl)
theorem xj_iload_n (C : xC p s m args meth c A D nL tys cc own) {k : Fin 4} {i : Nat} {x : Int32} (hdg : decode cc pc = .ok (.iload_n k, 1)) (hi : (k : Nat) = i) (j : Nat) (hj : lv[j]? = some (i, .int x)) (k : xJ p l e R s m args below meth c cells slots Q A D nL ws lv (pc + 1) (.int x :: rest)) : xJ p l e R s m args below meth c cells slots Q A D nL ws lv pc rest := fun H locs ls hP hS hl => lv_iload_n C.ex C.by hdg hi (lv_at hl j hj) (k H locs ls hP hS hl)
theorem xj_iload (C : xC p s m args meth c A D nL tys cc own) {i : Nat} {x : Int32} (hdg : decode cc pc = .ok (.iload i, 2)) (j : Nat) (hj : lv[j]? = some (i, .int x)) (k : xJ p l e R s m args below meth c cells slots Q A D nL ws lv (pc + 2) (.int x :: rest)) : xJ p l e R s m args below meth c cells slots Q A D nL ws lv pc rest := fun H locs ls hP hS hl => lv_iload C.ex C.by hdg (lv_at hl j hj) (k H locs ls hP hS hl)
theorem xj_aload_n (C : xC p s m args meth c A D nL tys cc own) {k : Fin 4} {i : Nat} {x : Nat} (hdg : decode cc pc = .ok (.aload_n k, 1)) (hi : (k : Nat) = i) (j : Nat) (hj : lv[j]? = some (i, .ref x)) (k : xJ p l e R s m args below meth c cells slots Q A D nL ws lv (pc + 1) (.ref x :: rest)) : xJ p l e R s m args below meth c cells slots Q A D nL ws lv pc rest := fun H locs ls hP hS hl => lv_aload_n C.ex C.by hdg hi (lv_at hl j hj) (k H locs ls hP hS hl)
theorem xj_aload (C : xC p s m args meth c A D nL tys cc own) {i : Nat} {x : Nat} (hdg : decode cc pc = .ok (.aload i, 2)) (j : Nat) (hj : lv[j]? = some (i, .ref x)) (k : xJ p l e R s m args below meth c cells slots Q A D nL ws lv (pc + 2) (.ref x :: rest)) : xJ p l e R s m args below meth c cells slots Q A D nL ws lv pc rest := fun H locs ls hP hS hl => lv_aload C.ex C.by hdg (lv_at hl j hj) (k H locs ls hP hS hl)
theorem xj_lload_n (C : xC p s m args meth c A D nL tys cc own) {k : Fin 4} {i : Nat} {x : Int64} (hdg : decode cc pc = .ok (.lload_n k, 1)) (hi : (k : Nat) = i) (j : Nat) (hj : lv[j]? = some (i, .long x)) (k : xJ p l e R s m args below meth c cells slots Q A D nL ws lv (pc + 1) (.long x :: rest)) : xJ p l e R s m args below meth c cells slots Q A D nL ws lv pc rest := fun H locs ls hP hS hl => lv_lload_n C.ex C.by hdg hi (lv_at hl j hj) (k H locs ls hP hS hl)
theorem xj_lload (C : xC p s m args meth c A D nL tys cc own) {i : Nat} {x : Int64} (hdg : decode cc pc = .ok (.lload i, 2)) (j : Nat) (hj : lv[j]? = some (i, .long x)) (k : xJ p l e R s m args below meth c cells slots Q A D nL ws lv (pc + 2) (.long x :: rest)) : xJ p l e R s m args below meth c cells slots Q A D nL ws lv pc rest := fun H locs ls hP hS hl => lv_lload C.ex C.by hdg (lv_at hl j hj) (k H locs ls hP hS hl)
theorem xj_istore_n (C : xC p s m args meth c A D nL tys cc own) {k : Fin 4} {i : Nat} {x : Int32} {lv' : List (Nat × Value)} (hdg : decode cc pc = .ok (.istore_n k, 1)) (hi : (k : Nat) = i) (hn : i < nL) (hl9 : (i, Value.int x) :: lv.filter (fun q => !(q.1 == i) && !(q.1 + 1 == i && q.2.category == 2)) = lv') (k : xJ p l e R s m args below meth c cells slots Q A D nL ws lv' (pc + 1) rest) : xJ p l e R s m args below meth c cells slots Q A D nL ws lv pc (.int x :: rest) := fun H locs ls hP hS hl => lv_istore_n C.ex C.by hdg hi hl hn hl9 (fun ls hl => (k H locs ls hP hS hl))
theorem xj_istore (C : xC p s m args meth c A D nL tys cc own) {i : Nat} {x : Int32} {lv' : List (Nat × Value)} (hdg : decode cc pc = .ok (.istore i, 2)) (hn : i < nL) (hl9 : (i, Value.int x) :: lv.filter (fun q => !(q.1 == i) && !(q.1 + 1 == i && q.2.category == 2)) = lv') (k : xJ p l e R s m args below meth c cells slots Q A D nL ws lv' (pc + 2) rest) : xJ p l e R s m args below meth c cells slots Q A D nL ws lv pc (.int x :: rest) := fun H locs ls hP hS hl => lv_istore C.ex C.by hdg hl hn hl9 (fun ls hl => (k H locs ls hP hS hl))
theorem xj_astore_n (C : xC p s m args meth c A D nL tys cc own) {k : Fin 4} {i : Nat} {x : Nat} {lv' : List (Nat × Value)} (hdg : decode cc pc = .ok (.astore_n k, 1)) (hi : (k : Nat) = i) (hn : i < nL) (hl9 : (i, Value.ref x) :: lv.filter (fun q => !(q.1 == i) && !(q.1 + 1 == i && q.2.category == 2)) = lv') (k : xJ p l e R s m args below meth c cells slots Q A D nL ws lv' (pc + 1) rest) : xJ p l e R s m args below meth c cells slots Q A D nL ws lv pc (.ref x :: rest) := fun H locs ls hP hS hl => lv_astore_n C.ex C.by hdg hi hl hn hl9 (fun ls hl => (k H locs ls hP hS hl))
theorem xj_astore (C : xC p s m args meth c A D nL tys cc own) {i : Nat} {x : Nat} {lv' : List (Nat × Value)} (hdg : decode cc pc = .ok (.astore i, 2)) (hn : i < nL) (hl9 : (i, Value.ref x) :: lv.filter (fun q => !(q.1 == i) && !(q.1 + 1 == i && q.2.category == 2)) = lv') (k : xJ p l e R s m args below meth c cells slots Q A D nL ws lv' (pc + 2) rest) : xJ p l e R s m args below meth c cells slots Q A D nL ws lv pc (.ref x :: rest) := fun H locs ls hP hS hl => lv_astore C.ex C.by hdg hl hn hl9 (fun ls hl => (k H locs ls hP hS hl))
theorem xj_iinc (C : xC p s m args meth c A D nL tys cc own) {i j : Nat} {n : Int} {x v : Int32} {lv' : List (Nat × Value)} (hdg : decode cc pc = .ok (.iinc i n, 3)) (hj : lv[j]? = some (i, .int x)) (hv : x + Int32.ofInt n = v) (hn : i < nL) (hl9 : (i, Value.int v) :: lv.filter (fun q => !(q.1 == i) && !(q.1 + 1 == i && q.2.category == 2)) = lv') (k : xJ p l e R s m args below meth c cells slots Q A D nL ws lv' (pc + 3) rest) : xJ p l e R s m args below meth c cells slots Q A D nL ws lv pc rest := fun H locs ls hP hS hl => lv_iinc C.ex C.by hdg hl hj hv hn hl9 (fun ls hl => (k H locs ls hP hS hl))
theorem xj_iadd (C : xC p s m args meth c A D nL tys cc own) {x y : Int32} (hdg : decode cc pc = .ok (.iadd, 1)) (k : xJ p l e R s m args below meth c cells slots Q A D nL ws lv (pc + 1) (.int (x + y) :: rest)) : xJ p l e R s m args below meth c cells slots Q A D nL ws lv pc (.int y :: .int x :: rest) := fun H locs ls hP hS hl => lv_iadd C.ex C.by hdg (k H locs ls hP hS hl)
theorem xj_isub (C : xC p s m args meth c A D nL tys cc own) {x y : Int32} (hdg : decode cc pc = .ok (.isub, 1)) (k : xJ p l e R s m args below meth c cells slots Q A D nL ws lv (pc + 1) (.int (x - y) :: rest)) : xJ p l e R s m args below meth c cells slots Q A D nL ws lv pc (.int y :: .int x :: rest) := fun H locs ls hP hS hl => lv_isub C.ex C.by hdg (k H locs ls hP hS hl)
theorem xj_imul (C : xC p s m args meth c A D nL tys cc own) {x y : Int32} (hdg : decode cc pc = .ok (.imul, 1)) (k : xJ p l e R s m args below meth c cells slots Q A D nL ws lv (pc + 1) (.int (x * y) :: rest)) : xJ p l e R s m args below meth c cells slots Q A D nL ws lv pc (.int y :: .int x :: rest) := fun H locs ls hP hS hl => lv_imul C.ex C.by hdg (k H locs ls hP hS hl)
theorem xj_iand (C : xC p s m args meth c A D nL tys cc own) {x y : Int32} (hdg : decode cc pc = .ok (.iand, 1)) (k : xJ p l e R s m args below meth c cells slots Q A D nL ws lv (pc + 1) (.int (x &&& y) :: rest)) : xJ p l e R s m args below meth c cells slots Q A D nL ws lv pc (.int y :: .int x :: rest) := fun H locs ls hP hS hl => lv_iand C.ex C.by hdg (k H locs ls hP hS hl)
theorem xj_ior (C : xC p s m args meth c A D nL tys cc own) {x y : Int32} (hdg : decode cc pc = .ok (.ior, 1)) (k : xJ p l e R s m args below meth c cells slots Q A D nL ws lv (pc + 1) (.int (x ||| y) :: rest)) : xJ p l e R s m args below meth c cells slots Q A D nL ws lv pc (.int y :: .int x :: rest) := fun H locs ls hP hS hl => lv_ior C.ex C.by hdg (k H locs ls hP hS hl)
theorem xj_ixor (C : xC p s m args meth c A D nL tys cc own) {x y : Int32} (hdg : decode cc pc = .ok (.ixor, 1)) (k : xJ p l e R s m args below meth c cells slots Q A D nL ws lv (pc + 1) (.int (x ^^^ y) :: rest)) : xJ p l e R s m args below meth c cells slots Q A D nL ws lv pc (.int y :: .int x :: rest) := fun H locs ls hP hS hl => lv_ixor C.ex C.by hdg (k H locs ls hP hS hl)
theorem xj_ishl (C : xC p s m args meth c A D nL tys cc own) {x y : Int32} (hdg : decode cc pc = .ok (.ishl, 1)) (k : xJ p l e R s m args below meth c cells slots Q A D nL ws lv (pc + 1) (.int (x <<< (y &&& 31)) :: rest)) : xJ p l e R s m args below meth c cells slots Q A D nL ws lv pc (.int y :: .int x :: rest) := fun H locs ls hP hS hl => lv_ishl C.ex C.by hdg (k H locs ls hP hS hl)
theorem xj_ishr (C : xC p s m args meth c A D nL tys cc own) {x y : Int32} (hdg : decode cc pc = .ok (.ishr, 1)) (k : xJ p l e R s m args below meth c cells slots Q A D nL ws lv (pc + 1) (.int (x >>> (y &&& 31)) :: rest)) : xJ p l e R s m args below meth c cells slots Q A D nL ws lv pc (.int y :: .int x :: rest) := fun H locs ls hP hS hl => lv_ishr C.ex C.by hdg (k H locs ls hP hS hl)
theorem xj_idiv (C : xC p s m args meth c A D nL tys cc own) {x y : Int32} (hdg : decode cc pc = .ok (.idiv, 1)) (hne : ¬ y = 0) (k : xJ p l e R s m args below meth c cells slots Q A D nL ws lv (pc + 1) (.int (x / y) :: rest)) : xJ p l e R s m args below meth c cells slots Q A D nL ws lv pc (.int y :: .int x :: rest) := fun H locs ls hP hS hl => lv_idiv C.ex C.by hdg hne (k H locs ls hP hS hl)
theorem xj_irem (C : xC p s m args meth c A D nL tys cc own) {x y : Int32} (hdg : decode cc pc = .ok (.irem, 1)) (hne : ¬ y = 0) (k : xJ p l e R s m args below meth c cells slots Q A D nL ws lv (pc + 1) (.int (x - x / y * y) :: rest)) : xJ p l e R s m args below meth c cells slots Q A D nL ws lv pc (.int y :: .int x :: rest) := fun H locs ls hP hS hl => lv_irem C.ex C.by hdg hne (k H locs ls hP hS hl)
theorem xj_ineg (C : xC p s m args meth c A D nL tys cc own) {x : Int32} (hdg : decode cc pc = .ok (.ineg, 1)) (k : xJ p l e R s m args below meth c cells slots Q A D nL ws lv (pc + 1) (.int (-x) :: rest)) : xJ p l e R s m args below meth c cells slots Q A D nL ws lv pc (.int x :: rest) := fun H locs ls hP hS hl => lv_ineg C.ex C.by hdg (k H locs ls hP hS hl)
theorem xj_iushr (C : xC p s m args meth c A D nL tys cc own) {x y v : Int32} (hdg : decode cc pc = .ok (.iushr, 1)) (hv : (x.toUInt32 >>> (y.toUInt32 &&& Int32.toUInt32 31)).toInt32 = v) (k : xJ p l e R s m args below meth c cells slots Q A D nL ws lv (pc + 1) (.int v :: rest)) : xJ p l e R s m args below meth c cells slots Q A D nL ws lv pc (.int y :: .int x :: rest) := fun H locs ls hP hS hl => lv_iushr C.ex C.by hdg hv (k H locs ls hP hS hl)
theorem xj_i2l (C : xC p s m args meth c A D nL tys cc own) {x : Int32} {v : Int64} (hdg : decode cc pc = .ok (.i2l, 1)) (hv : x.toInt64 = v) (k : xJ p l e R s m args below meth c cells slots Q A D nL ws lv (pc + 1) (.long v :: rest)) : xJ p l e R s m args below meth c cells slots Q A D nL ws lv pc (.int x :: rest) := fun H locs ls hP hS hl => lv_i2l C.ex C.by hdg hv (k H locs ls hP hS hl)
theorem xj_lcmp (C : xC p s m args meth c A D nL tys cc own) {x y : Int64} (hdg : decode cc pc = .ok (.lcmp, 1)) (k : xJ p l e R s m args below meth c cells slots Q A D nL ws lv (pc + 1) (.int (lg_cmp x y) :: rest)) : xJ p l e R s m args below meth c cells slots Q A D nL ws lv pc (.long y :: .long x :: rest) := fun H locs ls hP hS hl => W.lcmp C.ex C.by hdg (k H locs ls hP hS hl)
theorem xj_lconst (C : xC p s m args meth c A D nL tys cc own) {n : Fin 2} {v : Int64} (hdg : decode cc pc = .ok (.lconst n, 1)) (hv : Int64.ofNat (n : Nat) = v) (k : xJ p l e R s m args below meth c cells slots Q A D nL ws lv (pc + 1) (.long v :: rest)) : xJ p l e R s m args below meth c cells slots Q A D nL ws lv pc rest := fun H locs ls hP hS hl => lv_lconst C.ex C.by hdg hv (k H locs ls hP hS hl)
theorem xj_null (C : xC p s m args meth c A D nL tys cc own)  (hdg : decode cc pc = .ok (.aconst_null, 1)) (k : xJ p l e R s m args below meth c cells slots Q A D nL ws lv (pc + 1) (.null :: rest)) : xJ p l e R s m args below meth c cells slots Q A D nL ws lv pc rest := fun H locs ls hP hS hl => lv_null C.ex C.by hdg (k H locs ls hP hS hl)
theorem xj_dup (C : xC p s m args meth c A D nL tys cc own) {va : Value} (hdg : decode cc pc = .ok (.dup, 1)) (hva : va.category = 1) (k : xJ p l e R s m args below meth c cells slots Q A D nL ws lv (pc + 1) (va :: va :: rest)) : xJ p l e R s m args below meth c cells slots Q A D nL ws lv pc (va :: rest) := fun H locs ls hP hS hl => lv_dup C.ex C.by hdg hva (k H locs ls hP hS hl)
theorem xj_pop (C : xC p s m args meth c A D nL tys cc own) {va : Value} (hdg : decode cc pc = .ok (.pop, 1)) (hva : va.category = 1) (k : xJ p l e R s m args below meth c cells slots Q A D nL ws lv (pc + 1) rest) : xJ p l e R s m args below meth c cells slots Q A D nL ws lv pc (va :: rest) := fun H locs ls hP hS hl => lv_pop C.ex C.by hdg hva (k H locs ls hP hS hl)
theorem xj_dup_x1 (C : xC p s m args meth c A D nL tys cc own) {va vb : Value} (hdg : decode cc pc = .ok (.dup_x1, 1)) (hva : va.category = 1) (hvb : vb.category = 1) (k : xJ p l e R s m args below meth c cells slots Q A D nL ws lv (pc + 1) (va :: vb :: va :: rest)) : xJ p l e R s m args below meth c cells slots Q A D nL ws lv pc (va :: vb :: rest) := fun H locs ls hP hS hl => lv_dup_x1 C.ex C.by hdg hva hvb (k H locs ls hP hS hl)
theorem xj_dup_x2 (C : xC p s m args meth c A D nL tys cc own) {va vb vd : Value} (hdg : decode cc pc = .ok (.dup_x2, 1)) (hva : va.category = 1) (hvb : vb.category = 1) (hvd : vd.category = 1) (k : xJ p l e R s m args below meth c cells slots Q A D nL ws lv (pc + 1) (va :: vb :: vd :: va :: rest)) : xJ p l e R s m args below meth c cells slots Q A D nL ws lv pc (va :: vb :: vd :: rest) := fun H locs ls hP hS hl => lv_dup_x2 C.ex C.by hdg hva hvb hvd (k H locs ls hP hS hl)
theorem xj_dup2 (C : xC p s m args meth c A D nL tys cc own) {va vb : Value} (hdg : decode cc pc = .ok (.dup2, 1)) (hva : va.category = 1) (hvb : vb.category = 1) (k : xJ p l e R s m args below meth c cells slots Q A D nL ws lv (pc + 1) (va :: vb :: va :: vb :: rest)) : xJ p l e R s m args below meth c cells slots Q A D nL ws lv pc (va :: vb :: rest) := fun H locs ls hP hS hl => lv_dup2_11 C.ex C.by hdg hva hvb (k H locs ls hP hS hl)
theorem xj_if_eq (C : xC p s m args meth c A D nL tys cc own) {x : Int32} {off : Int} {tgt : Nat} (hdg : decode cc pc = .ok (.ifCond .eq off, 3)) (ht : (pc : Int) + off = (tgt : Int)) (kt : x = 0 → xJ p l e R s m args below meth c cells slots Q A D nL ws lv tgt rest) (kf : ¬ x = 0 → xJ p l e R s m args below meth c cells slots Q A D nL ws lv (pc + 3) rest) : xJ p l e R s m args below meth c cells slots Q A D nL ws lv pc (.int x :: rest) := fun H locs ls hP hS hl => lv_if_eq C.ex C.by hdg ht (fun h9 => kt h9 H locs ls hP hS hl) (fun h9 => kf h9 H locs ls hP hS hl)
theorem xj_icmp_eq (C : xC p s m args meth c A D nL tys cc own) {x y : Int32} {off : Int} {tgt : Nat} (hdg : decode cc pc = .ok (.if_icmp .eq off, 3)) (ht : (pc : Int) + off = (tgt : Int)) (kt : x = y → xJ p l e R s m args below meth c cells slots Q A D nL ws lv tgt rest) (kf : ¬ x = y → xJ p l e R s m args below meth c cells slots Q A D nL ws lv (pc + 3) rest) : xJ p l e R s m args below meth c cells slots Q A D nL ws lv pc (.int y :: .int x :: rest) := fun H locs ls hP hS hl => lv_icmp_eq C.ex C.by hdg ht (fun h9 => kt h9 H locs ls hP hS hl) (fun h9 => kf h9 H locs ls hP hS hl)
theorem xj_if_ne (C : xC p s m args meth c A D nL tys cc own) {x : Int32} {off : Int} {tgt : Nat} (hdg : decode cc pc = .ok (.ifCond .ne off, 3)) (ht : (pc : Int) + off = (tgt : Int)) (kt : ¬ x = 0 → xJ p l e R s m args below meth c cells slots Q A D nL ws lv tgt rest) (kf : x = 0 → xJ p l e R s m args below meth c cells slots Q A D nL ws lv (pc + 3) rest) : xJ p l e R s m args below meth c cells slots Q A D nL ws lv pc (.int x :: rest) := fun H locs ls hP hS hl => lv_if_ne C.ex C.by hdg ht (fun h9 => kt h9 H locs ls hP hS hl) (fun h9 => kf h9 H locs ls hP hS hl)
theorem xj_icmp_ne (C : xC p s m args meth c A D nL tys cc own) {x y : Int32} {off : Int} {tgt : Nat} (hdg : decode cc pc = .ok (.if_icmp .ne off, 3)) (ht : (pc : Int) + off = (tgt : Int)) (kt : ¬ x = y → xJ p l e R s m args below meth c cells slots Q A D nL ws lv tgt rest) (kf : x = y → xJ p l e R s m args below meth c cells slots Q A D nL ws lv (pc + 3) rest) : xJ p l e R s m args below meth c cells slots Q A D nL ws lv pc (.int y :: .int x :: rest) := fun H locs ls hP hS hl => lv_icmp_ne C.ex C.by hdg ht (fun h9 => kt h9 H locs ls hP hS hl) (fun h9 => kf h9 H locs ls hP hS hl)
theorem xj_if_lt (C : xC p s m args meth c A D nL tys cc own) {x : Int32} {off : Int} {tgt : Nat} (hdg : decode cc pc = .ok (.ifCond .lt off, 3)) (ht : (pc : Int) + off = (tgt : Int)) (kt : x < 0 → xJ p l e R s m args below meth c cells slots Q A D nL ws lv tgt rest) (kf : ¬ x < 0 → xJ p l e R s m args below meth c cells slots Q A D nL ws lv (pc + 3) rest) : xJ p l e R s m args below meth c cells slots Q A D nL ws lv pc (.int x :: rest) := fun H locs ls hP hS hl => lv_if_lt C.ex C.by hdg ht (fun h9 => kt h9 H locs ls hP hS hl) (fun h9 => kf h9 H locs ls hP hS hl)
theorem xj_icmp_lt (C : xC p s m args meth c A D nL tys cc own) {x y : Int32} {off : Int} {tgt : Nat} (hdg : decode cc pc = .ok (.if_icmp .lt off, 3)) (ht : (pc : Int) + off = (tgt : Int)) (kt : x < y → xJ p l e R s m args below meth c cells slots Q A D nL ws lv tgt rest) (kf : ¬ x < y → xJ p l e R s m args below meth c cells slots Q A D nL ws lv (pc + 3) rest) : xJ p l e R s m args below meth c cells slots Q A D nL ws lv pc (.int y :: .int x :: rest) := fun H locs ls hP hS hl => lv_icmp_lt C.ex C.by hdg ht (fun h9 => kt h9 H locs ls hP hS hl) (fun h9 => kf h9 H locs ls hP hS hl)
theorem xj_if_ge (C : xC p s m args meth c A D nL tys cc own) {x : Int32} {off : Int} {tgt : Nat} (hdg : decode cc pc = .ok (.ifCond .ge off, 3)) (ht : (pc : Int) + off = (tgt : Int)) (kt : 0 ≤ x → xJ p l e R s m args below meth c cells slots Q A D nL ws lv tgt rest) (kf : ¬ 0 ≤ x → xJ p l e R s m args below meth c cells slots Q A D nL ws lv (pc + 3) rest) : xJ p l e R s m args below meth c cells slots Q A D nL ws lv pc (.int x :: rest) := fun H locs ls hP hS hl => lv_if_ge C.ex C.by hdg ht (fun h9 => kt h9 H locs ls hP hS hl) (fun h9 => kf h9 H locs ls hP hS hl)
theorem xj_icmp_ge (C : xC p s m args meth c A D nL tys cc own) {x y : Int32} {off : Int} {tgt : Nat} (hdg : decode cc pc = .ok (.if_icmp .ge off, 3)) (ht : (pc : Int) + off = (tgt : Int)) (kt : y ≤ x → xJ p l e R s m args below meth c cells slots Q A D nL ws lv tgt rest) (kf : ¬ y ≤ x → xJ p l e R s m args below meth c cells slots Q A D nL ws lv (pc + 3) rest) : xJ p l e R s m args below meth c cells slots Q A D nL ws lv pc (.int y :: .int x :: rest) := fun H locs ls hP hS hl => lv_icmp_ge C.ex C.by hdg ht (fun h9 => kt h9 H locs ls hP hS hl) (fun h9 => kf h9 H locs ls hP hS hl)
theorem xj_if_gt (C : xC p s m args meth c A D nL tys cc own) {x : Int32} {off : Int} {tgt : Nat} (hdg : decode cc pc = .ok (.ifCond .gt off, 3)) (ht : (pc : Int) + off = (tgt : Int)) (kt : 0 < x → xJ p l e R s m args below meth c cells slots Q A D nL ws lv tgt rest) (kf : ¬ 0 < x → xJ p l e R s m args below meth c cells slots Q A D nL ws lv (pc + 3) rest) : xJ p l e R s m args below meth c cells slots Q A D nL ws lv pc (.int x :: rest) := fun H locs ls hP hS hl => lv_if_gt C.ex C.by hdg ht (fun h9 => kt h9 H locs ls hP hS hl) (fun h9 => kf h9 H locs ls hP hS hl)
theorem xj_icmp_gt (C : xC p s m args meth c A D nL tys cc own) {x y : Int32} {off : Int} {tgt : Nat} (hdg : decode cc pc = .ok (.if_icmp .gt off, 3)) (ht : (pc : Int) + off = (tgt : Int)) (kt : y < x → xJ p l e R s m args below meth c cells slots Q A D nL ws lv tgt rest) (kf : ¬ y < x → xJ p l e R s m args below meth c cells slots Q A D nL ws lv (pc + 3) rest) : xJ p l e R s m args below meth c cells slots Q A D nL ws lv pc (.int y :: .int x :: rest) := fun H locs ls hP hS hl => lv_icmp_gt C.ex C.by hdg ht (fun h9 => kt h9 H locs ls hP hS hl) (fun h9 => kf h9 H locs ls hP hS hl)
theorem xj_if_le (C : xC p s m args meth c A D nL tys cc own) {x : Int32} {off : Int} {tgt : Nat} (hdg : decode cc pc = .ok (.ifCond .le off, 3)) (ht : (pc : Int) + off = (tgt : Int)) (kt : x ≤ 0 → xJ p l e R s m args below meth c cells slots Q A D nL ws lv tgt rest) (kf : ¬ x ≤ 0 → xJ p l e R s m args below meth c cells slots Q A D nL ws lv (pc + 3) rest) : xJ p l e R s m args below meth c cells slots Q A D nL ws lv pc (.int x :: rest) := fun H locs ls hP hS hl => lv_if_le C.ex C.by hdg ht (fun h9 => kt h9 H locs ls hP hS hl) (fun h9 => kf h9 H locs ls hP hS hl)
theorem xj_icmp_le (C : xC p s m args meth c A D nL tys cc own) {x y : Int32} {off : Int} {tgt : Nat} (hdg : decode cc pc = .ok (.if_icmp .le off, 3)) (ht : (pc : Int) + off = (tgt : Int)) (kt : x ≤ y → xJ p l e R s m args below meth c cells slots Q A D nL ws lv tgt rest) (kf : ¬ x ≤ y → xJ p l e R s m args below meth c cells slots Q A D nL ws lv (pc + 3) rest) : xJ p l e R s m args below meth c cells slots Q A D nL ws lv pc (.int y :: .int x :: rest) := fun H locs ls hP hS hl => lv_icmp_le C.ex C.by hdg ht (fun h9 => kt h9 H locs ls hP hS hl) (fun h9 => kf h9 H locs ls hP hS hl)
theorem xj_goto (C : xC p s m args meth c A D nL tys cc own) {off : Int} {tgt : Nat} (hdg : decode cc pc = .ok (.goto off, 3)) (ht : (pc : Int) + off = (tgt : Int)) (k : xJ p l e R s m args below meth c cells slots Q A D nL ws lv tgt rest) : xJ p l e R s m args below meth c cells slots Q A D nL ws lv pc rest := fun H locs ls hP hS hl => lv_goto C.ex C.by hdg ht (k H locs ls hP hS hl)
theorem xj_tableOut (C : xC p s m args meth c A D nL tys cc own) {dflt lo hi : Int} {offs : Array Int} {len : Nat} {x : Int32} {tgt : Nat} (hdg : decode cc pc = .ok (.tableswitch dflt lo hi offs, len)) (h : x.toInt < lo ∨ hi < x.toInt) (ht : (pc : Int) + dflt = (tgt : Int)) (k : xJ p l e R s m args below meth c cells slots Q A D nL ws lv tgt rest) : xJ p l e R s m args below meth c cells slots Q A D nL ws lv pc (.int x :: rest) := fun H locs ls hP hS hl => lv_tableOut C.ex C.by hdg h ht (k H locs ls hP hS hl)
theorem xj_tableIn (C : xC p s m args meth c A D nL tys cc own) {dflt lo hi : Int} {offs : Array Int} {len : Nat} {x : Int32} {off : Int} {tgt : Nat} (hdg : decode cc pc = .ok (.tableswitch dflt lo hi offs, len)) (h1 : ¬ x.toInt < lo) (h2 : ¬ hi < x.toInt) (ho : offs[(x.toInt - lo).toNat]? = some off) (ht : (pc : Int) + off = (tgt : Int)) (k : xJ p l e R s m args below meth c cells slots Q A D nL ws lv tgt rest) : xJ p l e R s m args below meth c cells slots Q A D nL ws lv pc (.int x :: rest) := fun H locs ls hP hS hl => lv_tableIn C.ex C.by hdg h1 h2 ho ht (k H locs ls hP hS hl)
theorem xj_lookup (C : xC p s m args meth c A D nL tys cc own) {dflt : Int} {ps : Array (Int × Int)} {len : Nat} {x : Int32} {off : Int} {tgt : Nat} (hdg : decode cc pc = .ok (.lookupswitch dflt ps, len)) (hp : (ps.toList.zip (ps.toList.drop 1)).all (fun (a, next) => a.1 < next.1) = true) (ho : Op.lookupswitch.offset ps.toList dflt x.toInt = off) (ht : (pc : Int) + off = (tgt : Int)) (k : xJ p l e R s m args below meth c cells slots Q A D nL ws lv tgt rest) : xJ p l e R s m args below meth c cells slots Q A D nL ws lv pc (.int x :: rest) := fun H locs ls hP hS hl => lv_lookup C.ex C.by hdg hp ho ht (k H locs ls hP hS hl)
theorem xj_ldc (C : xC p s m args meth c A D nL tys cc own) {index : Nat} {v : Int32} (hconst : Jvm.Cond.constant own index v ∈ BIG) (hdg : decode cc pc = .ok (.ldc index, 2)) (k : xJ p l e R s m args below meth c cells slots Q A D nL ws lv (pc + 2) (.int v :: rest)) : xJ p l e R s m args below meth c cells slots Q A D nL ws lv pc rest := fun H locs ls hP hS hl => lv_ldc C.ex C.by C.ow (C.ts _ hconst) hdg (k H locs ls hP hS hl)
/-- reorder or drop locals -/
theorem xj_lv (ks : List Nat) {lv' : List (Nat × Value)} (h : lv_pick lv ks = lv') (k : xJ p l e R s m args below meth c cells slots Q A D nL ws lv' pc rest) : xJ p l e R s m args below meth c cells slots Q A D nL ws lv pc rest := fun H locs ls hP hS hl => k H locs ls hP hS (lv_sub hl ks h)
/-- an entry of own's pool names field k of the class at place ci of 'classes' -/
def xF (own : String) (index ci k : Nat) : Prop := ∃ (C : String) (T : u_T) (N : Nat), classes[ci]? = some (C, T, N) ∧ (∀ w ∈ u_ws C T N, w ∈ BIG) ∧ k < N ∧ Cond.fieldLink own index (T k).1 (T k).2.1 (T k).2.2.1 ∈ BIG
/-- the same by a nest mate -/
def xFN (own : String) (index ci k : Nat) : Prop := ∃ (C : String) (T : u_T) (N : Nat) (host : String), classes[ci]? = some (C, T, N) ∧ (∀ w ∈ u_ws C T N, w ∈ BIG) ∧ k < N ∧ Cond.fieldLinkNest own index (T k).1 (T k).2.1 (T k).2.2.1 host ∈ BIG
/-- what a store wants besides: the field isn't final, its type -/
def xFW (ci k : Nat) (ty : FieldType) : Prop := ∃ (C : String) (T : u_T) (N : Nat) (t0 : Nat → FieldType), classes[ci]? = some (C, T, N) ∧ (∀ k, k < N → parseFieldDescriptor (T k).2.2.1 = some (t0 k)) ∧ (∀ a, a < N → ∀ b, b < N → a ≠ b → (T a).2.1 ≠ (T b).2.1) ∧ (T k).2.2.2 = false ∧ parseFieldDescriptor (T k).2.2.1 = some ty
theorem xj_get (C : xC p s m args meth c A D nL tys cc own) {index ci k a : Nat} (F : xF own index ci k) (q0 : Nat) {fs : List Value} {v : Value} (he : ws[q0]? = some (a, .inr (ci, fs))) (hv : fs[k]? = some v) (hdg : decode cc pc = .ok (.getfield index, 3)) (kk : xJ p l e R s m args below meth c cells slots Q A D nL ws lv (pc + 3) (v :: rest)) : xJ p l e R s m args below meth c cells slots Q A D nL ws lv pc (.ref a :: rest) := by
  intro H locs ls hP hS hl
  obtain ⟨C9, T9, N9, hc, hin, hk, hlk⟩ := F
  exact va_get (D := D) (ci := ci) (C := C9) (T := T9) (N := N9) C.ex C.by C.ts hin C.ow C.K hP q0 he hc k hk (C.ts _ hlk) (fun _ h9 => h9) hv hdg (kk H locs ls hP hS hl)
theorem xj_put (C : xC p s m args meth c A D nL tys cc own) {index ci k a : Nat} {ty : FieldType} (F : xF own index ci k) (G : xFW ci k ty) (hD : va_D A ws) (q0 : Nat) {fs : List Value} {v : Value} {ws' : va_W} (he : ws[q0]? = some (a, .inr (ci, fs))) (hn : narrow ty v = v) (hfit : fits ty v = true) (hl9 : k < fs.length) (hdg : decode cc pc = .ok (.putfield index, 3)) (hws : ws.set q0 (a, .inr (ci, fs.set k v)) = ws') (kk : xJ p l e R s m args below meth c cells slots Q A D nL ws' lv (pc + 3) rest) : xJ p l e R s m args below meth c cells slots Q A D nL ws lv pc (v :: .ref a :: rest) := by
  intro H locs ls hP hS hl
  obtain ⟨C9, T9, N9, hc, hin, hk, hlk⟩ := F
  obtain ⟨C8, T8, N8, t0, hc8, ht8, hn8, hf8, hp8⟩ := G
  rw [hc] at hc8
  cases hc8
  refine va_put (D := D) (ci := ci) (C := C9) (T := T9) (N := N9) C.ex C.by C.ts hin t0 ht8 hn8 C.ow C.K hP hD hS q0 he hc k hk (C.ts _ hlk) (fun _ h9 => h9) hf8 hp8 hn hfit hl9 hdg (fun H1 locs1 hP1 hD1 hS1 => ?_)
  rw [hws] at hP1
  exact kk H1 locs1 ls hP1 hS1 hl
theorem xj_getN (C : xC p s m args meth c A D nL tys cc own) {index ci k a : Nat} (F : xFN own index ci k) (q0 : Nat) {fs : List Value} {v : Value} (he : ws[q0]? = some (a, .inr (ci, fs))) (hv : fs[k]? = some v) (hdg : decode cc pc = .ok (.getfield index, 3)) (kk : xJ p l e R s m args below meth c cells slots Q A D nL ws lv (pc + 3) (v :: rest)) : xJ p l e R s m args below meth c cells slots Q A D nL ws lv pc (.ref a :: rest) := by
  intro H locs ls hP hS hl
  obtain ⟨C9, T9, N9, host, hc, hin, hk, hlk⟩ := F
  exact va_getN (D := D) (ci := ci) (C := C9) (T := T9) (N := N9) C.ex C.by C.ts hin C.ow C.K hP q0 he hc k hk (C.ts _ hlk) (fun _ h9 => h9) hv hdg (kk H locs ls hP hS hl)
theorem xj_putN (C : xC p s m args meth c A D nL tys cc own) {index ci k a : Nat} {ty : FieldType} (F : xFN own index ci k) (G : xFW ci k ty) (hD : va_D A ws) (q0 : Nat) {fs : List Value} {v : Value} {ws' : va_W} (he : ws[q0]? = some (a, .inr (ci, fs))) (hn : narrow ty v = v) (hfit : fits ty v = true) (hl9 : k < fs.length) (hdg : decode cc pc = .ok (.putfield index, 3)) (hws : ws.set q0 (a, .inr (ci, fs.set k v)) = ws') (kk : xJ p l e R s m args below meth c cells slots Q A D nL ws' lv (pc + 3) rest) : xJ p l e R s m args below meth c cells slots Q A D nL ws lv pc (v :: .ref a :: rest) := by
  intro H locs ls hP hS hl
  obtain ⟨C9, T9, N9, host, hc, hin, hk, hlk⟩ := F
  obtain ⟨C8, T8, N8, t0, hc8, ht8, hn8, hf8, hp8⟩ := G
  rw [hc] at hc8
  cases hc8
  refine va_putN (D := D) (ci := ci) (C := C9) (T := T9) (N := N9) C.ex C.by C.ts hin t0 ht8 hn8 C.ow C.K hP hD hS q0 he hc k hk (C.ts _ hlk) (fun _ h9 => h9) hf8 hp8 hn hfit hl9 hdg (fun H1 locs1 hP1 hD1 hS1 => ?_)
  rw [hws] at hP1
  exact kk H1 locs1 ls hP1 hS1 hl
theorem xj_iald (C : xC p s m args meth c A D nL tys cc own) (q0 t0 : Nat) {a n : Nat} {cA : ClassId} {f : Nat → Int32} {i : Int32} (ha : ws[q0]? = some (a, .inl (cA, n, .inl f))) (ht : tys[t0]? = some (cA, .int)) (hin : vp_in i n) (hdg : decode cc pc = .ok (.iaload, 1)) (kk : xJ p l e R s m args below meth c cells slots Q A D nL ws lv (pc + 1) (.int (f i.toNatClampNeg) :: rest)) : xJ p l e R s m args below meth c cells slots Q A D nL ws lv pc (.int i :: .ref a :: rest) := fun H locs ls hP hS hl => va_iald C.ex C.by C.K hP q0 t0 ha ht hin hdg (kk H locs ls hP hS hl)
theorem xj_iast (C : xC p s m args meth c A D nL tys cc own) (hD : va_D A ws) (q0 t0 : Nat) {a n : Nat} {cA : ClassId} {f : Nat → Int32} {i x : Int32} {ws' : va_W} (ha : ws[q0]? = some (a, .inl (cA, n, .inl f))) (ht : tys[t0]? = some (cA, .int)) (hin : vp_in i n) (hdg : decode cc pc = .ok (.iastore, 1)) (hws : ws.set q0 (a, .inl (cA, n, .inl (upd f i.toNatClampNeg x))) = ws') (kk : xJ p l e R s m args below meth c cells slots Q A D nL ws' lv (pc + 1) rest) : xJ p l e R s m args below meth c cells slots Q A D nL ws lv pc (.int x :: .int i :: .ref a :: rest) := by
  intro H locs ls hP hS hl
  refine va_iast C.ex C.by C.K hP hD hS q0 t0 ha ht hin hdg (fun H1 locs1 hP1 _ hS1 => ?_)
  rw [hws] at hP1
  exact kk H1 locs1 ls hP1 hS1 hl
theorem xj_alen (C : xC p s m args meth c A D nL tys cc own) (q0 t0 : Nat) {a : Nat} {cA : ClassId} {x : vp_A} {ty : FieldType} {v : Int32} (ha : ws[q0]? = some (a, .inl (cA, x))) (ht : tys[t0]? = some (cA, ty)) (hv : Int32.ofNat x.1 = v) (hdg : decode cc pc = .ok (.arraylength, 1)) (kk : xJ p l e R s m args below meth c cells slots Q A D nL ws lv (pc + 1) (.int v :: rest)) : xJ p l e R s m args below meth c cells slots Q A D nL ws lv pc (.ref a :: rest) := fun H locs ls hP hS hl => va_alen C.ex C.by C.K hP q0 t0 ha ht hv hdg (kk H locs ls hP hS hl)
theorem xj_topi {x : Int32} (k : ∀ z : Int32, z = x → xJ p l e R s m args below meth c cells slots Q A D nL ws lv pc (.int z :: rest)) : xJ p l e R s m args below meth c cells slots Q A D nL ws lv pc (.int x :: rest) := k x rfl
def xMM (own : String) (index : Nat) (y : MethodName) (b : ByteArray) : Prop := Cond.methodLink own index y ∈ BIG ∧ Cond.static y ∈ BIG ∧ Cond.initialized "java/lang/Math" ∈ BIG ∧ Cond.code y b 2 (some .int) ∈ BIG
theorem xj_mmax (C : xC p s m args meth c A D nL tys cc own) {index : Nat} {x y : Int32} (h : xMM own index Lib.Math.max.name Lib.Math.max.code) (hf : 1 ≤ R.frames) (hlo : (rest.map fun v => v.category).sum + 13 ≤ R.locals) (hdg : decode cc pc = .ok (.invokestatic index, 3)) (k : xJ p l e R s m args below meth c 0 0 Q A D nL ws lv (pc + 3) (.int (if x < y then y else x) :: rest)) : xJ p l e R s m args below meth c 0 0 Q A D nL ws lv pc (.int y :: .int x :: rest) := fun H locs ls hP hS hl => va_mmax C.ex C.by (C.1.2.2.1.trans hl.1.symm) C.ow (C.ts _ h.1) (C.ts _ h.2.1) (C.ts _ h.2.2.1) (C.ts _ h.2.2.2) hf hlo (Nat.zero_le _) (Nat.zero_le _) hdg (k H locs ls hP hS hl)
theorem xj_mmin (C : xC p s m args meth c A D nL tys cc own) {index : Nat} {x y : Int32} (h : xMM own index Lib.Math.min.name Lib.Math.min.code) (hf : 1 ≤ R.frames) (hlo : (rest.map fun v => v.category).sum + 13 ≤ R.locals) (hdg : decode cc pc = .ok (.invokestatic index, 3)) (k : xJ p l e R s m args below meth c 0 0 Q A D nL ws lv (pc + 3) (.int (if y < x then y else x) :: rest)) : xJ p l e R s m args below meth c 0 0 Q A D nL ws lv pc (.int y :: .int x :: rest) := fun H locs ls hP hS hl => va_mmin C.ex C.by (C.1.2.2.1.trans hl.1.symm) C.ow (C.ts _ h.1) (C.ts _ h.2.1) (C.ts _ h.2.2.1) (C.ts _ h.2.2.2) hf hlo (Nat.zero_le _) (Nat.zero_le _) hdg (k H locs ls hP hS hl)
end XJ
end
section
/-! CONTRACTS over a pure state: the method's answer and its world behind it are 'out', which a pure function gives. -/
def xA (L : List Nat) (sz : Nat) : Nat → Prop := fun q => q ∈ L ∨ sz ≤ q
theorem xD_of {A : Nat → Prop} {ws : va_W} (hn : (ws.map (·.1)).Nodup) (hA : ∀ a ∈ ws.map (·.1), A a) : va_D A ws := by
  refine ⟨fun i j p q hi hj h => ?_, fun k q h => hA _ (List.mem_map.mpr ⟨q, List.mem_of_getElem? h, rfl⟩)⟩
  have h1 : (ws.map (·.1))[i]? = some p.1 := by rw [List.getElem?_map, hi]; rfl
  have h2 : (ws.map (·.1))[j]? = some q.1 := by rw [List.getElem?_map, hj]; rfl
  rw [h] at h1
  exact (List.getElem?_inj (List.getElem?_eq_some_iff.mp h1).1 hn).mp (h1.trans h2.symm)
theorem xD_L {S : Type} {wf : S → va_W} {L : List Nat} (hL : ∀ st, (wf st).map (·.1) = L) (hN : L.Nodup) (sz : Nat) (st : S) : va_D (xA L sz) (wf st) :=
  xD_of (by rw [hL]; exact hN) (fun a h => Or.inl (by rw [← hL st]; exact h))
/-- the tables, as a contract hands them on -/
def xK (D : va_G) (tys : List (ClassId × FieldType)) (U : State) : Prop := va_K D classes tys U ∧ ∀ w ∈ NESTW, va_Nw w U
theorem xK.moved {D : va_G} {tys : List (ClassId × FieldType)} {s U : State} (hW : s.WarmedH U.vm) (h : xK D tys s) : xK D tys U := ⟨va_K.moved hW.alike h.1, fun w hw => NESTW_warm w hw hW (h.2 w hw)⟩
theorem xK.blind {D : va_G} {tys : List (ClassId × FieldType)} {s U : State} (hv : s.vm = U.vm) (h : xK D tys s) : xK D tys U := ⟨va_K.moved (hv ▸ Vm.Alike.refl s.vm) h.1, fun w hw => va_Nw.same (NESTW_tab w hw) hv (h.2 w hw)⟩
abbrev xPc {S : Type} (D : va_G) (tys : List (ClassId × FieldType)) (wf : S → va_W) (av : List Value) (st : S) (sz : Nat) : Array Value → State → Prop := va_Pc av (fun U => U.heap.size = sz ∧ va_P D classes (wf st) U.heap ∧ xK D tys U)
abbrev xQi {S : Type} (D : va_G) (wf : S → va_W) (L : List Nat) (out : Int32 × S) (sz : Nat) : Array Value → State → Outcome → State → Prop := va_Qi (fun r u => out = (r, u)) (fun u t => va_P D classes (wf u) t.heap) (xA L sz)
abbrev xQv {S : Type} (D : va_G) (wf : S → va_W) (L : List Nat) (out : S) (sz : Nat) : Array Value → State → Outcome → State → Prop := va_Qv (fun u => out = u) (fun u t => va_P D classes (wf u) t.heap) (xA L sz)
def xMi {S : Type} (l : Launch) (y : MethodName) (b : ByteArray) (n : Nat) (rt : Option FieldType) (rm : Room) (D : va_G) (tys : List (ClassId × FieldType)) (wf : S → va_W) (L : List Nat) (av : List Value) (st : S) (out : Int32 × S) : Prop :=
  ∀ sz : Nat, Met l y (.code y b n rt :: BIG) rm (xPc D tys wf av st sz) (xQi D wf L out sz) 0 0 (xA L sz)
def xMv {S : Type} (l : Launch) (y : MethodName) (b : ByteArray) (n : Nat) (rt : Option FieldType) (rm : Room) (D : va_G) (tys : List (ClassId × FieldType)) (wf : S → va_W) (L : List Nat) (av : List Value) (st : S) (out : S) : Prop :=
  ∀ sz : Nat, Met l y (.code y b n rt :: BIG) rm (xPc D tys wf av st sz) (xQv D wf L out sz) 0 0 (xA L sz)
section XM
variable {l : Launch} {y : MethodName} {b : ByteArray} {n : Nat} {rt : Option FieldType} {rm : Room} {D : va_G} {tys : List (ClassId × FieldType)} {S : Type} {wf : S → va_W} {L : List Nat} {av : List Value} {st : S}
theorem xM_of {Qc : Array Value → State → Outcome → State → Prop} {mc ms sz : Nat} {free : Addr → Prop} (hy : plainName y.cls = true) (hn : (lg_sl av).length ≤ n)
    (body : ∀ (p : Program) (e : Env) (s : State) (m : MethodId) (below : List Frame) (meth : Method) (c : Code), s.heap.size = sz → meth.sig.returnType = rt → xC p s m av.toArray meth c (xA L sz) D n tys b y.cls → xJ p l e rm s m av.toArray below meth c 0 0 (MQ below Qc av.toArray s mc ms free) (xA L sz) D n (wf st) (lv_args 0 av) 0 []) :
    Met l y (.code y b n rt :: BIG) rm (xPc D tys wf av st sz) Qc mc ms free := by
  refine Met.ofW (cc := b) (maxL := n) (ret := rt) hy rfl ?_
  intro p e s m args below meth c s₁ B hml hv
  obtain ⟨rfl, hsz, hP, hK, hNw⟩ := hv
  have hts := atoms_spec (ws := .code y b n rt :: BIG) B.pre
  have hl := lv_entry av (n := n) hn
  rw [lg_entry_eq]
  exact body p e s m below meth c hsz B.returns ⟨⟨B.exec, B.bytes, hml, findClass_of_methodNamed B.named, fun w h => hts w (List.mem_cons_of_mem _ h)⟩, hK, fun q h => Or.inr (by rw [← hsz]; exact h), B.notSynchronized, hNw⟩ s.heap [] _ hP va_S.rf hl
end XM
section XR
variable {p : Program} {l : Launch} {e : Env} {R : Room} {s : State} {m : MethodId} {args : Array Value} {below : List Frame} {meth : Method} {c : Code} {Q : State → Prop} {cells slots : Nat}
variable {A : Nat → Prop} {D : va_G} {tys : List (ClassId × FieldType)} {nL : Nat} {lv : List (Nat × Value)} {pc : Nat} {rest st0 : List Value} {cc : ByteArray} {own : String} {S : Type} {wf : S → va_W} {L : List Nat} {sz : Nat} {st : S}
theorem xj_iret (C : xC p s m args meth c (xA L sz) D nL tys cc own) (hr : meth.sig.returnType = some .int) {out : Int32 × S} {v : Int32} (ho : some (v, st) = some out) (hdg : decode cc pc = .ok (.ireturn, 1)) : xJ p l e R s m args below meth c cells slots (MQ below (xQi D wf L out sz) args s cells slots (xA L sz)) (xA L sz) D nL (wf st) lv pc [.int v] :=
  fun H locs ls hP hS hl => W.iret (v := v) C.ex C.by hr (fun t ht hW => ⟨⟨v, st, rfl, (Option.some.inj ho).symm, (show va_P D classes (wf st) t.heap by rw [ht]; exact hP)⟩, hS.F ht⟩) hS.2.2 hdg C.lk
theorem xj_zret (C : xC p s m args meth c (xA L sz) D nL tys cc own) {ty : FieldType} (hr : meth.sig.returnType = some ty) {out : Int32 × S} {v : Int32} (hn : narrow ty (.int v) = .int v) (ho : some (v, st) = some out) (hdg : decode cc pc = .ok (.ireturn, 1)) : xJ p l e R s m args below meth c cells slots (MQ below (xQi D wf L out sz) args s cells slots (xA L sz)) (xA L sz) D nL (wf st) lv pc [.int v] :=
  fun H locs ls hP hS hl => W.zret (v := v) C.ex C.by hr hn (fun t ht hW => ⟨⟨v, st, rfl, (Option.some.inj ho).symm, (show va_P D classes (wf st) t.heap by rw [ht]; exact hP)⟩, hS.F ht⟩) hS.2.2 hdg C.lk
theorem xj_vret (C : xC p s m args meth c (xA L sz) D nL tys cc own) (hr : meth.sig.returnType = none) {out : S} (ho : some st = some out) (hdg : decode cc pc = .ok (.return_, 1)) : xJ p l e R s m args below meth c cells slots (MQ below (xQv D wf L out sz) args s cells slots (xA L sz)) (xA L sz) D nL (wf st) lv pc [] :=
  fun H locs ls hP hS hl => W.vret C.ex C.by hr (fun t ht hW => ⟨⟨st, rfl, (Option.some.inj ho).symm, (show va_P D classes (wf st) t.heap by rw [ht]; exact hP)⟩, hS.F ht⟩) hS.2.2 hdg C.lk
/-- what the tables say of a callee -/
def xY (y : MethodName) (b : ByteArray) (n : Nat) (rt : Option FieldType) (np : Nat) : Prop := Cond.code y b n rt ∈ BIG ∧ Cond.initialized y.cls ∈ BIG ∧ (y.cls ≠ "java/lang/invoke/MethodHandle" ∧ y.cls ≠ "java/lang/invoke/VarHandle" ∧ (parseMethodDescriptor y.desc).map (fun d => d.parameters.length) = some np)
theorem xGood {y : MethodName} {b : ByteArray} {n : Nat} {rt : Option FieldType} {np : Nat} (h : xY y b n rt np) : GoodIn BIG (.code y b n rt :: BIG) := by
  intro w hw
  rcases List.mem_cons.mp hw with rfl | hw
  · exact BIG_good _ h.1
  · exact BIG_good w hw
theorem xB (C : xC p s m args meth c A D nL tys cc own) {y : MethodName} {b : ByteArray} {n np index : Nat} {rt : Option FieldType} {rm : Room} {mc ms : Nat} (h : xY y b n rt np) (hl : Cond.methodLink own index y ∈ BIG) (hrc : rm.cells = mc) (hrs : rm.slots = ms) (hR : rm.frames + 1 ≤ R.frames ∧ 8 + (n + 11) + rm.locals ≤ R.locals) : CallB R s args own index y b n rt (.code y b n rt :: BIG) rm mc ms np :=
  callB_of (Ts := BIG) (ws' := BIG) np C.ts (xGood h) rfl hrc hrs (C.ts _ h.2.1) (C.ts _ hl) h.2.2 hR
/-- the callee stands in the receiver's class -/
def xIV (own : String) (index : Nat) (y : MethodName) : Prop := Cond.methodLink own index y ∈ BIG ∧ Cond.instanceMethod y ∈ BIG ∧ Cond.selects y.cls y y ∈ BIG
def xIS (own : String) (index : Nat) (y : MethodName) : Prop := Cond.methodLink own index y ∈ BIG ∧ Cond.static y ∈ BIG
def xISN (own : String) (index : Nat) (y : MethodName) : Prop := ∃ host : String, Cond.methodLinkNest own index y host ∈ NESTW ∧ Cond.static y ∈ BIG
def xIVN (own : String) (index : Nat) (y : MethodName) : Prop := ∃ host : String, Cond.methodLinkNest own index y host ∈ NESTW ∧ Cond.instanceMethod y ∈ BIG ∧ Cond.selects y.cls y y ∈ BIG
theorem xBlind {av : List Value} : FrameBlind (xPc D tys wf av st sz) := fun a U g mk q => by
  obtain ⟨q0, q1, qP, qK⟩ := q
  exact ⟨q0, q1, qP, xK.blind (s := U) (U := U.calling g mk a) rfl qK⟩
theorem xPre (C : xC p s m args meth c A D nL tys cc own) {av : List Value} {H : Heap} (hP : va_P D classes (wf st) H) : ∀ U : State, U.heap = H → s.WarmedH U.vm → xPc D tys wf av st H.size av.toArray U :=
  fun U hU hW => ⟨rfl, by rw [hU], by rw [hU]; exact hP, xK.moved hW ⟨C.K, C.nw⟩⟩
theorem xRecv (C : xC p s m args meth c A D nL tys cc own) {ws : va_W} {H : Heap} (hP : va_P D classes ws H) {a q0 ci : Nat} {fs : List Value} {Cn : String} (he : ws[q0]? = some (a, .inr (ci, fs))) (hc : (classes[ci]?).map (·.1) = some Cn) : ∃ cell : Cell, H[a]? = some cell ∧ cell.vm.isStatics = false ∧ s.vm.findClass Cn = some cell.cls := by
  obtain ⟨q, hq, rfl⟩ := Option.map_eq_some_iff.mp hc
  exact va_recv C.K hP hq he
theorem xFree (C : xC p s m args meth c A D nL tys cc own) {H : Heap} {locs : List Loc} (hS : va_S A s.heap H locs) (hA : ∀ q, q ∈ L → A q) : ∀ q, xA L H.size q → A q := fun q h => h.elim (hA q) (fun h => C.fA q (Nat.le_trans hS.1 h))
theorem xj_callVi (C : xC p s m args meth c A D nL tys cc own) {y : MethodName} {b : ByteArray} {n np index : Nat} {rt : Option FieldType} {rm : Room} {out : Int32 × S} {a : Nat} {As : List Value} (hM : xMi l y b n rt rm D tys wf L (.ref a :: As) st out) (hY : xY y b n rt np) (hI : xIV own index y) (q0 : Nat) {ci : Nat} {fs : List Value} (he : (wf st)[q0]? = some (a, .inr (ci, fs))) (hcl : (classes[ci]?).map (·.1) = some y.cls) (hR : rm.frames + 1 ≤ R.frames ∧ 8 + (n + 11) + rm.locals ≤ R.locals) (hrm : rm.cells = 0 ∧ rm.slots = 0) (hnp : As.length = np) (hs : st0 = As.reverse ++ .ref a :: rest) (hw : (rest.map fun v => v.category).sum ≤ 8) (hdg : decode cc pc = .ok (.invokevirtual index, 3)) (hA : ∀ q, q ∈ L → A q) (k : xJ p l e R s m args below meth c 0 0 Q A D nL (wf out.2) lv (pc + 3) (.int out.1 :: rest)) : xJ p l e R s m args below meth c 0 0 Q A D nL (wf st) lv pc st0 := by
  intro H locs ls hP hS hl
  have hAA := xFree C hS hA
  refine va_calli (va_runV (As := As) (rest := rest) C.1 (hM H.size) ⟨xB C hY hI.1 hrm.1 hrm.2 hR, C.ts _ hI.2.1, C.ts _ hI.2.2⟩ ⟨xBlind, xRecv C hP he hcl, xPre C hP⟩ rfl hnp hl.1 hs (lv_room hw) hdg ⟨Nat.zero_le _, Nat.zero_le _⟩) hS (fun q _ h => hAA q h) hAA (fun r u t H1 locs1 ht hvm hw2 hB hz1 hk1 hS1 => ?_)
  subst hw2
  rw [ht] at hB
  exact k H1 locs1 ls hB hS1 hl
theorem xj_callVv (C : xC p s m args meth c A D nL tys cc own) {y : MethodName} {b : ByteArray} {n np index : Nat} {rt : Option FieldType} {rm : Room} {out : S} {a : Nat} {As : List Value} (hM : xMv l y b n rt rm D tys wf L (.ref a :: As) st out) (hY : xY y b n rt np) (hI : xIV own index y) (q0 : Nat) {ci : Nat} {fs : List Value} (he : (wf st)[q0]? = some (a, .inr (ci, fs))) (hcl : (classes[ci]?).map (·.1) = some y.cls) (hR : rm.frames + 1 ≤ R.frames ∧ 8 + (n + 11) + rm.locals ≤ R.locals) (hrm : rm.cells = 0 ∧ rm.slots = 0) (hnp : As.length = np) (hs : st0 = As.reverse ++ .ref a :: rest) (hw : (rest.map fun v => v.category).sum ≤ 8) (hdg : decode cc pc = .ok (.invokevirtual index, 3)) (hA : ∀ q, q ∈ L → A q) (k : xJ p l e R s m args below meth c 0 0 Q A D nL (wf out) lv (pc + 3) rest) : xJ p l e R s m args below meth c 0 0 Q A D nL (wf st) lv pc st0 := by
  intro H locs ls hP hS hl
  have hAA := xFree C hS hA
  refine va_callv (va_runV (As := As) (rest := rest) C.1 (hM H.size) ⟨xB C hY hI.1 hrm.1 hrm.2 hR, C.ts _ hI.2.1, C.ts _ hI.2.2⟩ ⟨xBlind, xRecv C hP he hcl, xPre C hP⟩ rfl hnp hl.1 hs (lv_room hw) hdg ⟨Nat.zero_le _, Nat.zero_le _⟩) hS (fun q _ h => hAA q h) hAA (fun u t H1 locs1 ht hvm hw2 hB hz1 hk1 hS1 => ?_)
  subst hw2
  rw [ht] at hB
  exact k H1 locs1 ls hB hS1 hl
theorem xj_callSi (C : xC p s m args meth c A D nL tys cc own) {y : MethodName} {b : ByteArray} {n np index : Nat} {rt : Option FieldType} {rm : Room} {out : Int32 × S} {As : List Value} (hM : xMi l y b n rt rm D tys wf L As st out) (hY : xY y b n rt np) (hI : xIS own index y) (hR : rm.frames + 1 ≤ R.frames ∧ 8 + (n + 11) + rm.locals ≤ R.locals) (hrm : rm.cells = 0 ∧ rm.slots = 0) (hnp : As.length = np) (hs : st0 = As.reverse ++ rest) (hw : (rest.map fun v => v.category).sum ≤ 8) (hdg : decode cc pc = .ok (.invokestatic index, 3)) (hA : ∀ q, q ∈ L → A q) (k : xJ p l e R s m args below meth c 0 0 Q A D nL (wf out.2) lv (pc + 3) (.int out.1 :: rest)) : xJ p l e R s m args below meth c 0 0 Q A D nL (wf st) lv pc st0 := by
  intro H locs ls hP hS hl
  have hAA := xFree C hS hA
  refine va_calli (va_runS (As := As) (rest := rest) C.1 (hM H.size) ⟨xB C hY hI.1 hrm.1 hrm.2 hR, C.ts _ hI.2⟩ ⟨xBlind, xPre C hP⟩ rfl hnp hl.1 hs (lv_room hw) hdg ⟨Nat.zero_le _, Nat.zero_le _⟩) hS (fun q _ h => hAA q h) hAA (fun r u t H1 locs1 ht hvm hw2 hB hz1 hk1 hS1 => ?_)
  subst hw2
  rw [ht] at hB
  exact k H1 locs1 ls hB hS1 hl
theorem xj_callSv (C : xC p s m args meth c A D nL tys cc own) {y : MethodName} {b : ByteArray} {n np index : Nat} {rt : Option FieldType} {rm : Room} {out : S} {As : List Value} (hM : xMv l y b n rt rm D tys wf L As st out) (hY : xY y b n rt np) (hI : xIS own index y) (hR : rm.frames + 1 ≤ R.frames ∧ 8 + (n + 11) + rm.locals ≤ R.locals) (hrm : rm.cells = 0 ∧ rm.slots = 0) (hnp : As.length = np) (hs : st0 = As.reverse ++ rest) (hw : (rest.map fun v => v.category).sum ≤ 8) (hdg : decode cc pc = .ok (.invokestatic index, 3)) (hA : ∀ q, q ∈ L → A q) (k : xJ p l e R s m args below meth c 0 0 Q A D nL (wf out) lv (pc + 3) rest) : xJ p l e R s m args below meth c 0 0 Q A D nL (wf st) lv pc st0 := by
  intro H locs ls hP hS hl
  have hAA := xFree C hS hA
  refine va_callv (va_runS (As := As) (rest := rest) C.1 (hM H.size) ⟨xB C hY hI.1 hrm.1 hrm.2 hR, C.ts _ hI.2⟩ ⟨xBlind, xPre C hP⟩ rfl hnp hl.1 hs (lv_room hw) hdg ⟨Nat.zero_le _, Nat.zero_le _⟩) hS (fun q _ h => hAA q h) hAA (fun u t H1 locs1 ht hvm hw2 hB hz1 hk1 hS1 => ?_)
  subst hw2
  rw [ht] at hB
  exact k H1 locs1 ls hB hS1 hl
theorem xj_callVNi (C : xC p s m args meth c A D nL tys cc own) {y : MethodName} {b : ByteArray} {n np index : Nat} {rt : Option FieldType} {rm : Room} {out : Int32 × S} {a : Nat} {As : List Value} (hM : xMi l y b n rt rm D tys wf L (.ref a :: As) st out) (hY : xY y b n rt np) (hI : xIVN own index y) (q0 : Nat) {ci : Nat} {fs : List Value} (he : (wf st)[q0]? = some (a, .inr (ci, fs))) (hcl : (classes[ci]?).map (·.1) = some y.cls) (hR : rm.frames + 1 ≤ R.frames ∧ 8 + (n + 11) + rm.locals ≤ R.locals) (hrm : rm.cells = 0 ∧ rm.slots = 0) (hnp : As.length = np) (hs : st0 = As.reverse ++ .ref a :: rest) (hw : (rest.map fun v => v.category).sum ≤ 8) (hdg : decode cc pc = .ok (.invokevirtual index, 3)) (hA : ∀ q, q ∈ L → A q) (k : xJ p l e R s m args below meth c 0 0 Q A D nL (wf out.2) lv (pc + 3) (.int out.1 :: rest)) : xJ p l e R s m args below meth c 0 0 Q A D nL (wf st) lv pc st0 := by
  intro H locs ls hP hS hl
  have hAA := xFree C hS hA
  obtain ⟨host, hI1, hI2⟩ := hI
  refine va_calli (va_runVN (As := As) (rest := rest) C.1 (hM H.size) ⟨va_cnB (Ts := BIG) (ws' := BIG) np C.ts (xGood hY) rfl hrm.1 hrm.2 (C.nw _ hI1) (C.ts _ hY.2.1) hY.2.2 hR, C.ts _ hI2.1, C.ts _ hI2.2⟩ ⟨xBlind, xRecv C hP he hcl, xPre C hP⟩ rfl hnp hl.1 hs (lv_room hw) hdg ⟨Nat.zero_le _, Nat.zero_le _⟩) hS (fun q _ h => hAA q h) hAA (fun r u t H1 locs1 ht hvm hw2 hB hz1 hk1 hS1 => ?_)
  subst hw2
  rw [ht] at hB
  exact k H1 locs1 ls hB hS1 hl
theorem xj_callVNv (C : xC p s m args meth c A D nL tys cc own) {y : MethodName} {b : ByteArray} {n np index : Nat} {rt : Option FieldType} {rm : Room} {out : S} {a : Nat} {As : List Value} (hM : xMv l y b n rt rm D tys wf L (.ref a :: As) st out) (hY : xY y b n rt np) (hI : xIVN own index y) (q0 : Nat) {ci : Nat} {fs : List Value} (he : (wf st)[q0]? = some (a, .inr (ci, fs))) (hcl : (classes[ci]?).map (·.1) = some y.cls) (hR : rm.frames + 1 ≤ R.frames ∧ 8 + (n + 11) + rm.locals ≤ R.locals) (hrm : rm.cells = 0 ∧ rm.slots = 0) (hnp : As.length = np) (hs : st0 = As.reverse ++ .ref a :: rest) (hw : (rest.map fun v => v.category).sum ≤ 8) (hdg : decode cc pc = .ok (.invokevirtual index, 3)) (hA : ∀ q, q ∈ L → A q) (k : xJ p l e R s m args below meth c 0 0 Q A D nL (wf out) lv (pc + 3) rest) : xJ p l e R s m args below meth c 0 0 Q A D nL (wf st) lv pc st0 := by
  intro H locs ls hP hS hl
  have hAA := xFree C hS hA
  obtain ⟨host, hI1, hI2⟩ := hI
  refine va_callv (va_runVN (As := As) (rest := rest) C.1 (hM H.size) ⟨va_cnB (Ts := BIG) (ws' := BIG) np C.ts (xGood hY) rfl hrm.1 hrm.2 (C.nw _ hI1) (C.ts _ hY.2.1) hY.2.2 hR, C.ts _ hI2.1, C.ts _ hI2.2⟩ ⟨xBlind, xRecv C hP he hcl, xPre C hP⟩ rfl hnp hl.1 hs (lv_room hw) hdg ⟨Nat.zero_le _, Nat.zero_le _⟩) hS (fun q _ h => hAA q h) hAA (fun u t H1 locs1 ht hvm hw2 hB hz1 hk1 hS1 => ?_)
  subst hw2
  rw [ht] at hB
  exact k H1 locs1 ls hB hS1 hl
theorem xj_callSNi (C : xC p s m args meth c A D nL tys cc own) {y : MethodName} {b : ByteArray} {n np index : Nat} {rt : Option FieldType} {rm : Room} {out : Int32 × S} {As : List Value} (hM : xMi l y b n rt rm D tys wf L As st out) (hY : xY y b n rt np) (hI : xISN own index y) (hR : rm.frames + 1 ≤ R.frames ∧ 8 + (n + 11) + rm.locals ≤ R.locals) (hrm : rm.cells = 0 ∧ rm.slots = 0) (hnp : As.length = np) (hs : st0 = As.reverse ++ rest) (hw : (rest.map fun v => v.category).sum ≤ 8) (hdg : decode cc pc = .ok (.invokestatic index, 3)) (hA : ∀ q, q ∈ L → A q) (k : xJ p l e R s m args below meth c 0 0 Q A D nL (wf out.2) lv (pc + 3) (.int out.1 :: rest)) : xJ p l e R s m args below meth c 0 0 Q A D nL (wf st) lv pc st0 := by
  intro H locs ls hP hS hl
  have hAA := xFree C hS hA
  obtain ⟨host, hI1, hI2⟩ := hI
  refine va_calli (va_runSN (As := As) (rest := rest) C.1 (hM H.size) ⟨va_cnB (Ts := BIG) (ws' := BIG) np C.ts (xGood hY) rfl hrm.1 hrm.2 (C.nw _ hI1) (C.ts _ hY.2.1) hY.2.2 hR, C.ts _ hI2, trivial⟩ ⟨xBlind, xPre C hP⟩ rfl hnp hl.1 hs (lv_room hw) hdg ⟨Nat.zero_le _, Nat.zero_le _⟩) hS (fun q _ h => hAA q h) hAA (fun r u t H1 locs1 ht hvm hw2 hB hz1 hk1 hS1 => ?_)
  subst hw2
  rw [ht] at hB
  exact k H1 locs1 ls hB hS1 hl
theorem xj_callSNv (C : xC p s m args meth c A D nL tys cc own) {y : MethodName} {b : ByteArray} {n np index : Nat} {rt : Option FieldType} {rm : Room} {out : S} {As : List Value} (hM : xMv l y b n rt rm D tys wf L As st out) (hY : xY y b n rt np) (hI : xISN own index y) (hR : rm.frames + 1 ≤ R.frames ∧ 8 + (n + 11) + rm.locals ≤ R.locals) (hrm : rm.cells = 0 ∧ rm.slots = 0) (hnp : As.length = np) (hs : st0 = As.reverse ++ rest) (hw : (rest.map fun v => v.category).sum ≤ 8) (hdg : decode cc pc = .ok (.invokestatic index, 3)) (hA : ∀ q, q ∈ L → A q) (k : xJ p l e R s m args below meth c 0 0 Q A D nL (wf out) lv (pc + 3) rest) : xJ p l e R s m args below meth c 0 0 Q A D nL (wf st) lv pc st0 := by
  intro H locs ls hP hS hl
  have hAA := xFree C hS hA
  obtain ⟨host, hI1, hI2⟩ := hI
  refine va_callv (va_runSN (As := As) (rest := rest) C.1 (hM H.size) ⟨va_cnB (Ts := BIG) (ws' := BIG) np C.ts (xGood hY) rfl hrm.1 hrm.2 (C.nw _ hI1) (C.ts _ hY.2.1) hY.2.2 hR, C.ts _ hI2, trivial⟩ ⟨xBlind, xPre C hP⟩ rfl hnp hl.1 hs (lv_room hw) hdg ⟨Nat.zero_le _, Nat.zero_le _⟩) hS (fun q _ h => hAA q h) hAA (fun u t H1 locs1 ht hvm hw2 hB hz1 hk1 hS1 => ?_)
  subst hw2
  rw [ht] at hB
  exact k H1 locs1 ls hB hS1 hl
end XR
abbrev j_i {S : Type} (p : Program) (l : Launch) (e : Env) (R : Room) (s : State) (m : MethodId) (args : Array Value) (below : List Frame) (meth : Method) (c : Code) (sz : Nat) (D : va_G) (wf : S → va_W) (L : List Nat) (out : Int32 × S) (nL : Nat) (ws : va_W) (lv : List (Nat × Value)) (pc : Nat) (st : List Value) : Prop := xJ p l e R s m args below meth c 0 0 (MQ below (xQi D wf L out sz) args s 0 0 (xA L sz)) (xA L sz) D nL ws lv pc st
abbrev j_v {S : Type} (p : Program) (l : Launch) (e : Env) (R : Room) (s : State) (m : MethodId) (args : Array Value) (below : List Frame) (meth : Method) (c : Code) (sz : Nat) (D : va_G) (wf : S → va_W) (L : List Nat) (out : S) (nL : Nat) (ws : va_W) (lv : List (Nat × Value)) (pc : Nat) (st : List Value) : Prop := xJ p l e R s m args below meth c 0 0 (MQ below (xQv D wf L out sz) args s 0 0 (xA L sz)) (xA L sz) D nL ws lv pc st
end
section
theorem d_LR_canMeasure_0 : decode b_LR_canMeasure 0 = .ok (.iload_n 0, 1) := by decide +kernel
theorem d_LR_canMeasure_1 : decode b_LR_canMeasure 1 = .ok (.iconst 1, 1) := by decide +kernel
theorem d_LR_canMeasure_2 : decode b_LR_canMeasure 2 = .ok (.bipush 8, 2) := by decide +kernel
theorem d_LR_canMeasure_4 : decode b_LR_canMeasure 4 = .ok (.invokestatic 45, 3) := by decide +kernel
theorem d_LR_canMeasure_7 : decode b_LR_canMeasure 7 = .ok (.ifCond .eq 16, 3) := by decide +kernel
theorem d_LR_canMeasure_10 : decode b_LR_canMeasure 10 = .ok (.iload_n 1, 1) := by decide +kernel
theorem d_LR_canMeasure_11 : decode b_LR_canMeasure 11 = .ok (.iconst 1, 1) := by decide +kernel
theorem d_LR_canMeasure_12 : decode b_LR_canMeasure 12 = .ok (.iconst 3, 1) := by decide +kernel
theorem d_LR_canMeasure_13 : decode b_LR_canMeasure 13 = .ok (.invokestatic 45, 3) := by decide +kernel
theorem d_LR_canMeasure_16 : decode b_LR_canMeasure 16 = .ok (.ifCond .eq 7, 3) := by decide +kernel
theorem d_LR_canMeasure_19 : decode b_LR_canMeasure 19 = .ok (.iconst 1, 1) := by decide +kernel
theorem d_LR_canMeasure_20 : decode b_LR_canMeasure 20 = .ok (.goto 4, 3) := by decide +kernel
theorem d_LR_canMeasure_23 : decode b_LR_canMeasure 23 = .ok (.iconst 0, 1) := by decide +kernel
theorem d_LR_canMeasure_24 : decode b_LR_canMeasure 24 = .ok (.ireturn, 1) := by decide +kernel
theorem d_LR_closed_0 : decode b_LR_closed 0 = .ok (.aload_n 0, 1) := by decide +kernel
theorem d_LR_closed_1 : decode b_LR_closed 1 = .ok (.getfield 12, 3) := by decide +kernel
theorem d_LR_closed_4 : decode b_LR_closed 4 = .ok (.iload_n 1, 1) := by decide +kernel
theorem d_LR_closed_5 : decode b_LR_closed 5 = .ok (.invokevirtual 75, 3) := by decide +kernel
theorem d_LR_closed_8 : decode b_LR_closed 8 = .ok (.ifCond .eq 19, 3) := by decide +kernel
theorem d_LR_closed_11 : decode b_LR_closed 11 = .ok (.iload_n 2, 1) := by decide +kernel
theorem d_LR_closed_12 : decode b_LR_closed 12 = .ok (.ifCond .lt 15, 3) := by decide +kernel
theorem d_LR_closed_15 : decode b_LR_closed 15 = .ok (.iload_n 2, 1) := by decide +kernel
theorem d_LR_closed_16 : decode b_LR_closed 16 = .ok (.iload_n 3, 1) := by decide +kernel
theorem d_LR_closed_17 : decode b_LR_closed 17 = .ok (.if_icmp .ge 10, 3) := by decide +kernel
theorem d_LR_closed_20 : decode b_LR_closed 20 = .ok (.iload_n 3, 1) := by decide +kernel
theorem d_LR_closed_21 : decode b_LR_closed 21 = .ok (.sipush 10000, 3) := by decide +kernel
theorem d_LR_closed_24 : decode b_LR_closed 24 = .ok (.if_icmp .le 5, 3) := by decide +kernel
theorem d_LR_closed_27 : decode b_LR_closed 27 = .ok (.iconst 0, 1) := by decide +kernel
theorem d_LR_closed_28 : decode b_LR_closed 28 = .ok (.ireturn, 1) := by decide +kernel
theorem d_LR_closed_29 : decode b_LR_closed 29 = .ok (.aload_n 0, 1) := by decide +kernel
theorem d_LR_closed_30 : decode b_LR_closed 30 = .ok (.getfield 12, 3) := by decide +kernel
theorem d_LR_closed_33 : decode b_LR_closed 33 = .ok (.iload_n 1, 1) := by decide +kernel
theorem d_LR_closed_34 : decode b_LR_closed 34 = .ok (.iload_n 2, 1) := by decide +kernel
theorem d_LR_closed_35 : decode b_LR_closed 35 = .ok (.iload_n 3, 1) := by decide +kernel
theorem d_LR_closed_36 : decode b_LR_closed 36 = .ok (.invokevirtual 79, 3) := by decide +kernel
theorem d_LR_closed_39 : decode b_LR_closed 39 = .ok (.ifCond .ne 5, 3) := by decide +kernel
theorem d_LR_closed_42 : decode b_LR_closed 42 = .ok (.iconst 0, 1) := by decide +kernel
theorem d_LR_closed_43 : decode b_LR_closed 43 = .ok (.ireturn, 1) := by decide +kernel
theorem d_LR_closed_44 : decode b_LR_closed 44 = .ok (.aload_n 0, 1) := by decide +kernel
theorem d_LR_closed_45 : decode b_LR_closed 45 = .ok (.getfield 37, 3) := by decide +kernel
theorem d_LR_closed_48 : decode b_LR_closed 48 = .ok (.invokevirtual 65, 3) := by decide +kernel
theorem d_LR_closed_51 : decode b_LR_closed 51 = .ok (.iconst 1, 1) := by decide +kernel
theorem d_LR_closed_52 : decode b_LR_closed 52 = .ok (.ireturn, 1) := by decide +kernel
theorem d_LR_count_0 : decode b_LR_count 0 = .ok (.iload_n 1, 1) := by decide +kernel
theorem d_LR_count_1 : decode b_LR_count 1 = .ok (.tableswitch 115 0 7 #[47, 55, 63, 71, 87, 95, 103, 109], 47) := by decide +kernel
theorem d_LR_count_48 : decode b_LR_count 48 = .ok (.aload_n 0, 1) := by decide +kernel
theorem d_LR_count_49 : decode b_LR_count 49 = .ok (.getfield 12, 3) := by decide +kernel
theorem d_LR_count_52 : decode b_LR_count 52 = .ok (.invokevirtual 141, 3) := by decide +kernel
theorem d_LR_count_55 : decode b_LR_count 55 = .ok (.ireturn, 1) := by decide +kernel
theorem d_LR_count_56 : decode b_LR_count 56 = .ok (.aload_n 0, 1) := by decide +kernel
theorem d_LR_count_57 : decode b_LR_count 57 = .ok (.getfield 19, 3) := by decide +kernel
theorem d_LR_count_60 : decode b_LR_count 60 = .ok (.invokevirtual 151, 3) := by decide +kernel
theorem d_LR_count_63 : decode b_LR_count 63 = .ok (.ireturn, 1) := by decide +kernel
theorem d_LR_count_64 : decode b_LR_count 64 = .ok (.aload_n 0, 1) := by decide +kernel
theorem d_LR_count_65 : decode b_LR_count 65 = .ok (.getfield 12, 3) := by decide +kernel
theorem d_LR_count_68 : decode b_LR_count 68 = .ok (.invokevirtual 152, 3) := by decide +kernel
theorem d_LR_count_71 : decode b_LR_count 71 = .ok (.ireturn, 1) := by decide +kernel
theorem d_LR_count_72 : decode b_LR_count 72 = .ok (.aload_n 0, 1) := by decide +kernel
theorem d_LR_count_73 : decode b_LR_count 73 = .ok (.getfield 37, 3) := by decide +kernel
theorem d_LR_count_76 : decode b_LR_count 76 = .ok (.invokevirtual 113, 3) := by decide +kernel
theorem d_LR_count_79 : decode b_LR_count 79 = .ok (.ifCond .eq 7, 3) := by decide +kernel
theorem d_LR_count_82 : decode b_LR_count 82 = .ok (.iconst 1, 1) := by decide +kernel
theorem d_LR_count_83 : decode b_LR_count 83 = .ok (.goto 4, 3) := by decide +kernel
theorem d_LR_count_86 : decode b_LR_count 86 = .ok (.iconst 0, 1) := by decide +kernel
theorem d_LR_count_87 : decode b_LR_count 87 = .ok (.ireturn, 1) := by decide +kernel
theorem d_LR_count_88 : decode b_LR_count 88 = .ok (.aload_n 0, 1) := by decide +kernel
theorem d_LR_count_89 : decode b_LR_count 89 = .ok (.getfield 28, 3) := by decide +kernel
theorem d_LR_count_92 : decode b_LR_count 92 = .ok (.invokevirtual 155, 3) := by decide +kernel
theorem d_LR_count_95 : decode b_LR_count 95 = .ok (.ireturn, 1) := by decide +kernel
theorem d_LR_count_96 : decode b_LR_count 96 = .ok (.aload_n 0, 1) := by decide +kernel
theorem d_LR_count_97 : decode b_LR_count 97 = .ok (.getfield 37, 3) := by decide +kernel
theorem d_LR_count_100 : decode b_LR_count 100 = .ok (.invokevirtual 158, 3) := by decide +kernel
theorem d_LR_count_103 : decode b_LR_count 103 = .ok (.ireturn, 1) := by decide +kernel
theorem d_LR_count_104 : decode b_LR_count 104 = .ok (.aload_n 0, 1) := by decide +kernel
theorem d_LR_count_105 : decode b_LR_count 105 = .ok (.iconst 0, 1) := by decide +kernel
theorem d_LR_count_106 : decode b_LR_count 106 = .ok (.invokevirtual 161, 3) := by decide +kernel
theorem d_LR_count_109 : decode b_LR_count 109 = .ok (.ireturn, 1) := by decide +kernel
theorem d_LR_count_110 : decode b_LR_count 110 = .ok (.aload_n 0, 1) := by decide +kernel
theorem d_LR_count_111 : decode b_LR_count 111 = .ok (.iconst 1, 1) := by decide +kernel
theorem d_LR_count_112 : decode b_LR_count 112 = .ok (.invokevirtual 161, 3) := by decide +kernel
theorem d_LR_count_115 : decode b_LR_count 115 = .ok (.ireturn, 1) := by decide +kernel
theorem d_LR_count_116 : decode b_LR_count 116 = .ok (.iconst (-1), 1) := by decide +kernel
theorem d_LR_count_117 : decode b_LR_count 117 = .ok (.ireturn, 1) := by decide +kernel
theorem d_LR_holds_0 : decode b_LR_holds 0 = .ok (.iload_n 0, 1) := by decide +kernel
theorem d_LR_holds_1 : decode b_LR_holds 1 = .ok (.iconst 1, 1) := by decide +kernel
theorem d_LR_holds_2 : decode b_LR_holds 2 = .ok (.iload_n 1, 1) := by decide +kernel
theorem d_LR_holds_3 : decode b_LR_holds 3 = .ok (.ishl, 1) := by decide +kernel
theorem d_LR_holds_4 : decode b_LR_holds 4 = .ok (.iand, 1) := by decide +kernel
theorem d_LR_holds_5 : decode b_LR_holds 5 = .ok (.ifCond .eq 7, 3) := by decide +kernel
theorem d_LR_holds_8 : decode b_LR_holds 8 = .ok (.iconst 1, 1) := by decide +kernel
theorem d_LR_holds_9 : decode b_LR_holds 9 = .ok (.goto 4, 3) := by decide +kernel
theorem d_LR_holds_12 : decode b_LR_holds 12 = .ok (.iconst 0, 1) := by decide +kernel
theorem d_LR_holds_13 : decode b_LR_holds 13 = .ok (.ireturn, 1) := by decide +kernel
theorem d_LR_plan_0 : decode b_LR_plan 0 = .ok (.aload_n 0, 1) := by decide +kernel
theorem d_LR_plan_1 : decode b_LR_plan 1 = .ok (.getfield 37, 3) := by decide +kernel
theorem d_LR_plan_4 : decode b_LR_plan 4 = .ok (.invokevirtual 89, 3) := by decide +kernel
theorem d_LR_plan_7 : decode b_LR_plan 7 = .ok (.ifCond .eq 13, 3) := by decide +kernel
theorem d_LR_plan_10 : decode b_LR_plan 10 = .ok (.aload_n 0, 1) := by decide +kernel
theorem d_LR_plan_11 : decode b_LR_plan 11 = .ok (.getfield 37, 3) := by decide +kernel
theorem d_LR_plan_14 : decode b_LR_plan 14 = .ok (.invokevirtual 93, 3) := by decide +kernel
theorem d_LR_plan_17 : decode b_LR_plan 17 = .ok (.goto 4, 3) := by decide +kernel
theorem d_LR_plan_20 : decode b_LR_plan 20 = .ok (.iconst (-1), 1) := by decide +kernel
theorem d_LR_plan_21 : decode b_LR_plan 21 = .ok (.ireturn, 1) := by decide +kernel
theorem d_LR_rule_0 : decode b_LR_rule 0 = .ok (.iload_n 1, 1) := by decide +kernel
theorem d_LR_rule_1 : decode b_LR_rule 1 = .ok (.iconst 0, 1) := by decide +kernel
theorem d_LR_rule_2 : decode b_LR_rule 2 = .ok (.iconst 3, 1) := by decide +kernel
theorem d_LR_rule_3 : decode b_LR_rule 3 = .ok (.invokestatic 45, 3) := by decide +kernel
theorem d_LR_rule_6 : decode b_LR_rule 6 = .ok (.ifCond .eq 12, 3) := by decide +kernel
theorem d_LR_rule_9 : decode b_LR_rule 9 = .ok (.iload_n 2, 1) := by decide +kernel
theorem d_LR_rule_10 : decode b_LR_rule 10 = .ok (.iconst 0, 1) := by decide +kernel
theorem d_LR_rule_11 : decode b_LR_rule 11 = .ok (.iconst 3, 1) := by decide +kernel
theorem d_LR_rule_12 : decode b_LR_rule 12 = .ok (.invokestatic 45, 3) := by decide +kernel
theorem d_LR_rule_15 : decode b_LR_rule 15 = .ok (.ifCond .ne 5, 3) := by decide +kernel
theorem d_LR_rule_18 : decode b_LR_rule 18 = .ok (.iconst 0, 1) := by decide +kernel
theorem d_LR_rule_19 : decode b_LR_rule 19 = .ok (.ireturn, 1) := by decide +kernel
theorem d_LR_rule_20 : decode b_LR_rule 20 = .ok (.aload_n 0, 1) := by decide +kernel
theorem d_LR_rule_21 : decode b_LR_rule 21 = .ok (.getfield 28, 3) := by decide +kernel
theorem d_LR_rule_24 : decode b_LR_rule 24 = .ok (.iload_n 1, 1) := by decide +kernel
theorem d_LR_rule_25 : decode b_LR_rule 25 = .ok (.invokevirtual 82, 3) := by decide +kernel
theorem d_LR_rule_28 : decode b_LR_rule 28 = .ok (.aload_n 0, 1) := by decide +kernel
theorem d_LR_rule_29 : decode b_LR_rule 29 = .ok (.getfield 37, 3) := by decide +kernel
theorem d_LR_rule_32 : decode b_LR_rule 32 = .ok (.iload_n 2, 1) := by decide +kernel
theorem d_LR_rule_33 : decode b_LR_rule 33 = .ok (.invokevirtual 86, 3) := by decide +kernel
theorem d_LR_rule_36 : decode b_LR_rule 36 = .ok (.aload_n 0, 1) := by decide +kernel
theorem d_LR_rule_37 : decode b_LR_rule 37 = .ok (.getfield 37, 3) := by decide +kernel
theorem d_LR_rule_40 : decode b_LR_rule 40 = .ok (.invokevirtual 65, 3) := by decide +kernel
theorem d_LR_rule_43 : decode b_LR_rule 43 = .ok (.iconst 1, 1) := by decide +kernel
theorem d_LR_rule_44 : decode b_LR_rule 44 = .ok (.ireturn, 1) := by decide +kernel
theorem d_LR_runsOf_0 : decode b_LR_runsOf 0 = .ok (.aload_n 0, 1) := by decide +kernel
theorem d_LR_runsOf_1 : decode b_LR_runsOf 1 = .ok (.getfield 12, 3) := by decide +kernel
theorem d_LR_runsOf_4 : decode b_LR_runsOf 4 = .ok (.iload_n 1, 1) := by decide +kernel
theorem d_LR_runsOf_5 : decode b_LR_runsOf 5 = .ok (.invokevirtual 75, 3) := by decide +kernel
theorem d_LR_runsOf_8 : decode b_LR_runsOf 8 = .ok (.ifCond .eq 24, 3) := by decide +kernel
theorem d_LR_runsOf_11 : decode b_LR_runsOf 11 = .ok (.aload_n 0, 1) := by decide +kernel
theorem d_LR_runsOf_12 : decode b_LR_runsOf 12 = .ok (.getfield 37, 3) := by decide +kernel
theorem d_LR_runsOf_15 : decode b_LR_runsOf 15 = .ok (.invokevirtual 113, 3) := by decide +kernel
theorem d_LR_runsOf_18 : decode b_LR_runsOf 18 = .ok (.ifCond .eq 14, 3) := by decide +kernel
theorem d_LR_runsOf_21 : decode b_LR_runsOf 21 = .ok (.aload_n 0, 1) := by decide +kernel
theorem d_LR_runsOf_22 : decode b_LR_runsOf 22 = .ok (.getfield 37, 3) := by decide +kernel
theorem d_LR_runsOf_25 : decode b_LR_runsOf 25 = .ok (.iload_n 1, 1) := by decide +kernel
theorem d_LR_runsOf_26 : decode b_LR_runsOf 26 = .ok (.invokevirtual 165, 3) := by decide +kernel
theorem d_LR_runsOf_29 : decode b_LR_runsOf 29 = .ok (.goto 4, 3) := by decide +kernel
theorem d_LR_runsOf_32 : decode b_LR_runsOf 32 = .ok (.iconst (-1), 1) := by decide +kernel
theorem d_LR_runsOf_33 : decode b_LR_runsOf 33 = .ok (.ireturn, 1) := by decide +kernel
theorem d_LR_within_0 : decode b_LR_within 0 = .ok (.iload_n 0, 1) := by decide +kernel
theorem d_LR_within_1 : decode b_LR_within 1 = .ok (.iload_n 1, 1) := by decide +kernel
theorem d_LR_within_2 : decode b_LR_within 2 = .ok (.if_icmp .lt 12, 3) := by decide +kernel
theorem d_LR_within_5 : decode b_LR_within 5 = .ok (.iload_n 0, 1) := by decide +kernel
theorem d_LR_within_6 : decode b_LR_within 6 = .ok (.iload_n 2, 1) := by decide +kernel
theorem d_LR_within_7 : decode b_LR_within 7 = .ok (.if_icmp .gt 7, 3) := by decide +kernel
theorem d_LR_within_10 : decode b_LR_within 10 = .ok (.iconst 1, 1) := by decide +kernel
theorem d_LR_within_11 : decode b_LR_within 11 = .ok (.goto 4, 3) := by decide +kernel
theorem d_LR_within_14 : decode b_LR_within 14 = .ok (.iconst 0, 1) := by decide +kernel
theorem d_LR_within_15 : decode b_LR_within 15 = .ok (.ireturn, 1) := by decide +kernel
theorem d_Be_canLay_0 : decode b_Be_canLay 0 = .ok (.aload_n 0, 1) := by decide +kernel
theorem d_Be_canLay_1 : decode b_Be_canLay 1 = .ok (.getfield 29, 3) := by decide +kernel
theorem d_Be_canLay_4 : decode b_Be_canLay 4 = .ok (.iconst 2, 1) := by decide +kernel
theorem d_Be_canLay_5 : decode b_Be_canLay 5 = .ok (.imul, 1) := by decide +kernel
theorem d_Be_canLay_6 : decode b_Be_canLay 6 = .ok (.iload_n 1, 1) := by decide +kernel
theorem d_Be_canLay_7 : decode b_Be_canLay 7 = .ok (.iadd, 1) := by decide +kernel
theorem d_Be_canLay_8 : decode b_Be_canLay 8 = .ok (.bipush 16, 2) := by decide +kernel
theorem d_Be_canLay_10 : decode b_Be_canLay 10 = .ok (.imul, 1) := by decide +kernel
theorem d_Be_canLay_11 : decode b_Be_canLay 11 = .ok (.iload_n 2, 1) := by decide +kernel
theorem d_Be_canLay_12 : decode b_Be_canLay 12 = .ok (.iadd, 1) := by decide +kernel
theorem d_Be_canLay_13 : decode b_Be_canLay 13 = .ok (.istore_n 3, 1) := by decide +kernel
theorem d_Be_canLay_14 : decode b_Be_canLay 14 = .ok (.iload_n 3, 1) := by decide +kernel
theorem d_Be_canLay_15 : decode b_Be_canLay 15 = .ok (.ifCond .lt 12, 3) := by decide +kernel
theorem d_Be_canLay_18 : decode b_Be_canLay 18 = .ok (.iload_n 3, 1) := by decide +kernel
theorem d_Be_canLay_19 : decode b_Be_canLay 19 = .ok (.aload_n 0, 1) := by decide +kernel
theorem d_Be_canLay_20 : decode b_Be_canLay 20 = .ok (.getfield 18, 3) := by decide +kernel
theorem d_Be_canLay_23 : decode b_Be_canLay 23 = .ok (.arraylength, 1) := by decide +kernel
theorem d_Be_canLay_24 : decode b_Be_canLay 24 = .ok (.if_icmp .lt 5, 3) := by decide +kernel
theorem d_Be_canLay_27 : decode b_Be_canLay 27 = .ok (.iconst 0, 1) := by decide +kernel
theorem d_Be_canLay_28 : decode b_Be_canLay 28 = .ok (.ireturn, 1) := by decide +kernel
theorem d_Be_canLay_29 : decode b_Be_canLay 29 = .ok (.aload_n 0, 1) := by decide +kernel
theorem d_Be_canLay_30 : decode b_Be_canLay 30 = .ok (.getfield 18, 3) := by decide +kernel
theorem d_Be_canLay_33 : decode b_Be_canLay 33 = .ok (.iload_n 3, 1) := by decide +kernel
theorem d_Be_canLay_34 : decode b_Be_canLay 34 = .ok (.iaload, 1) := by decide +kernel
theorem d_Be_canLay_35 : decode b_Be_canLay 35 = .ok (.ifCond .ne 25, 3) := by decide +kernel
theorem d_Be_canLay_38 : decode b_Be_canLay 38 = .ok (.aload_n 0, 1) := by decide +kernel
theorem d_Be_canLay_39 : decode b_Be_canLay 39 = .ok (.getfield 18, 3) := by decide +kernel
theorem d_Be_canLay_42 : decode b_Be_canLay 42 = .ok (.iload_n 3, 1) := by decide +kernel
theorem d_Be_canLay_43 : decode b_Be_canLay 43 = .ok (.aload_n 0, 1) := by decide +kernel
theorem d_Be_canLay_44 : decode b_Be_canLay 44 = .ok (.iconst 0, 1) := by decide +kernel
theorem d_Be_canLay_45 : decode b_Be_canLay 45 = .ok (.iload_n 1, 1) := by decide +kernel
theorem d_Be_canLay_46 : decode b_Be_canLay 46 = .ok (.iload_n 2, 1) := by decide +kernel
theorem d_Be_canLay_47 : decode b_Be_canLay 47 = .ok (.iconst 0, 1) := by decide +kernel
theorem d_Be_canLay_48 : decode b_Be_canLay 48 = .ok (.invokevirtual 33, 3) := by decide +kernel
theorem d_Be_canLay_51 : decode b_Be_canLay 51 = .ok (.ifCond .eq 7, 3) := by decide +kernel
theorem d_Be_canLay_54 : decode b_Be_canLay 54 = .ok (.iconst 1, 1) := by decide +kernel
theorem d_Be_canLay_55 : decode b_Be_canLay 55 = .ok (.goto 4, 3) := by decide +kernel
theorem d_Be_canLay_58 : decode b_Be_canLay 58 = .ok (.iconst 2, 1) := by decide +kernel
theorem d_Be_canLay_59 : decode b_Be_canLay 59 = .ok (.iastore, 1) := by decide +kernel
theorem d_Be_canLay_60 : decode b_Be_canLay 60 = .ok (.aload_n 0, 1) := by decide +kernel
theorem d_Be_canLay_61 : decode b_Be_canLay 61 = .ok (.getfield 18, 3) := by decide +kernel
theorem d_Be_canLay_64 : decode b_Be_canLay 64 = .ok (.iload_n 3, 1) := by decide +kernel
theorem d_Be_canLay_65 : decode b_Be_canLay 65 = .ok (.iaload, 1) := by decide +kernel
theorem d_Be_canLay_66 : decode b_Be_canLay 66 = .ok (.iconst 1, 1) := by decide +kernel
theorem d_Be_canLay_67 : decode b_Be_canLay 67 = .ok (.if_icmp .ne 7, 3) := by decide +kernel
theorem d_Be_canLay_70 : decode b_Be_canLay 70 = .ok (.iconst 1, 1) := by decide +kernel
theorem d_Be_canLay_71 : decode b_Be_canLay 71 = .ok (.goto 4, 3) := by decide +kernel
theorem d_Be_canLay_74 : decode b_Be_canLay 74 = .ok (.iconst 0, 1) := by decide +kernel
theorem d_Be_canLay_75 : decode b_Be_canLay 75 = .ok (.ireturn, 1) := by decide +kernel
theorem d_Be_cells_0 : decode b_Be_cells 0 = .ok (.iconst 0, 1) := by decide +kernel
theorem d_Be_cells_1 : decode b_Be_cells 1 = .ok (.istore 4, 2) := by decide +kernel
theorem d_Be_cells_3 : decode b_Be_cells 3 = .ok (.iload_n 0, 1) := by decide +kernel
theorem d_Be_cells_4 : decode b_Be_cells 4 = .ok (.iconst 0, 1) := by decide +kernel
theorem d_Be_cells_5 : decode b_Be_cells 5 = .ok (.invokestatic 61, 3) := by decide +kernel
theorem d_Be_cells_8 : decode b_Be_cells 8 = .ok (.istore 5, 2) := by decide +kernel
theorem d_Be_cells_10 : decode b_Be_cells 10 = .ok (.iload 5, 2) := by decide +kernel
theorem d_Be_cells_12 : decode b_Be_cells 12 = .ok (.iload_n 1, 1) := by decide +kernel
theorem d_Be_cells_13 : decode b_Be_cells 13 = .ok (.if_icmp .ge 55, 3) := by decide +kernel
theorem d_Be_cells_16 : decode b_Be_cells 16 = .ok (.iload 5, 2) := by decide +kernel
theorem d_Be_cells_18 : decode b_Be_cells 18 = .ok (.bipush 8, 2) := by decide +kernel
theorem d_Be_cells_20 : decode b_Be_cells 20 = .ok (.if_icmp .ge 48, 3) := by decide +kernel
theorem d_Be_cells_23 : decode b_Be_cells 23 = .ok (.iload_n 2, 1) := by decide +kernel
theorem d_Be_cells_24 : decode b_Be_cells 24 = .ok (.iconst 0, 1) := by decide +kernel
theorem d_Be_cells_25 : decode b_Be_cells 25 = .ok (.invokestatic 61, 3) := by decide +kernel
theorem d_Be_cells_28 : decode b_Be_cells 28 = .ok (.istore 6, 2) := by decide +kernel
theorem d_Be_cells_30 : decode b_Be_cells 30 = .ok (.iload 6, 2) := by decide +kernel
theorem d_Be_cells_32 : decode b_Be_cells 32 = .ok (.iload_n 3, 1) := by decide +kernel
theorem d_Be_cells_33 : decode b_Be_cells 33 = .ok (.if_icmp .ge 29, 3) := by decide +kernel
theorem d_Be_cells_36 : decode b_Be_cells 36 = .ok (.iload 6, 2) := by decide +kernel
theorem d_Be_cells_38 : decode b_Be_cells 38 = .ok (.iconst 3, 1) := by decide +kernel
theorem d_Be_cells_39 : decode b_Be_cells 39 = .ok (.if_icmp .ge 23, 3) := by decide +kernel
theorem d_Be_cells_42 : decode b_Be_cells 42 = .ok (.iload 4, 2) := by decide +kernel
theorem d_Be_cells_44 : decode b_Be_cells 44 = .ok (.iconst 1, 1) := by decide +kernel
theorem d_Be_cells_45 : decode b_Be_cells 45 = .ok (.iconst 3, 1) := by decide +kernel
theorem d_Be_cells_46 : decode b_Be_cells 46 = .ok (.iload 5, 2) := by decide +kernel
theorem d_Be_cells_48 : decode b_Be_cells 48 = .ok (.imul, 1) := by decide +kernel
theorem d_Be_cells_49 : decode b_Be_cells 49 = .ok (.iload 6, 2) := by decide +kernel
theorem d_Be_cells_51 : decode b_Be_cells 51 = .ok (.iadd, 1) := by decide +kernel
theorem d_Be_cells_52 : decode b_Be_cells 52 = .ok (.ishl, 1) := by decide +kernel
theorem d_Be_cells_53 : decode b_Be_cells 53 = .ok (.ior, 1) := by decide +kernel
theorem d_Be_cells_54 : decode b_Be_cells 54 = .ok (.istore 4, 2) := by decide +kernel
theorem d_Be_cells_56 : decode b_Be_cells 56 = .ok (.iinc 6 1, 3) := by decide +kernel
theorem d_Be_cells_59 : decode b_Be_cells 59 = .ok (.goto (-29), 3) := by decide +kernel
theorem d_Be_cells_62 : decode b_Be_cells 62 = .ok (.iinc 5 1, 3) := by decide +kernel
theorem d_Be_cells_65 : decode b_Be_cells 65 = .ok (.goto (-55), 3) := by decide +kernel
theorem d_Be_cells_68 : decode b_Be_cells 68 = .ok (.iload 4, 2) := by decide +kernel
theorem d_Be_cells_70 : decode b_Be_cells 70 = .ok (.ireturn, 1) := by decide +kernel
theorem d_Be_gap_0 : decode b_Be_gap 0 = .ok (.aload_n 0, 1) := by decide +kernel
theorem d_Be_gap_1 : decode b_Be_gap 1 = .ok (.getfield 29, 3) := by decide +kernel
theorem d_Be_gap_4 : decode b_Be_gap 4 = .ok (.ireturn, 1) := by decide +kernel
theorem d_Be_lay_0 : decode b_Be_lay 0 = .ok (.aload_n 0, 1) := by decide +kernel
theorem d_Be_lay_1 : decode b_Be_lay 1 = .ok (.iconst 0, 1) := by decide +kernel
theorem d_Be_lay_2 : decode b_Be_lay 2 = .ok (.iload_n 1, 1) := by decide +kernel
theorem d_Be_lay_3 : decode b_Be_lay 3 = .ok (.iload_n 2, 1) := by decide +kernel
theorem d_Be_lay_4 : decode b_Be_lay 4 = .ok (.iconst 0, 1) := by decide +kernel
theorem d_Be_lay_5 : decode b_Be_lay 5 = .ok (.invokevirtual 33, 3) := by decide +kernel
theorem d_Be_lay_8 : decode b_Be_lay 8 = .ok (.ireturn, 1) := by decide +kernel
theorem d_Be_layFrom_0 : decode b_Be_layFrom 0 = .ok (.iload_n 1, 1) := by decide +kernel
theorem d_Be_layFrom_1 : decode b_Be_layFrom 1 = .ok (.ifCond .lt 8, 3) := by decide +kernel
theorem d_Be_layFrom_4 : decode b_Be_layFrom 4 = .ok (.iload_n 1, 1) := by decide +kernel
theorem d_Be_layFrom_5 : decode b_Be_layFrom 5 = .ok (.iconst 4, 1) := by decide +kernel
theorem d_Be_layFrom_6 : decode b_Be_layFrom 6 = .ok (.if_icmp .lt 5, 3) := by decide +kernel
theorem d_Be_layFrom_9 : decode b_Be_layFrom 9 = .ok (.iconst 1, 1) := by decide +kernel
theorem d_Be_layFrom_10 : decode b_Be_layFrom 10 = .ok (.ireturn, 1) := by decide +kernel
theorem d_Be_layFrom_11 : decode b_Be_layFrom 11 = .ok (.iload_n 3, 1) := by decide +kernel
theorem d_Be_layFrom_12 : decode b_Be_layFrom 12 = .ok (.iload_n 1, 1) := by decide +kernel
theorem d_Be_layFrom_13 : decode b_Be_layFrom 13 = .ok (.invokestatic 37, 3) := by decide +kernel
theorem d_Be_layFrom_16 : decode b_Be_layFrom 16 = .ok (.ifCond .ne 15, 3) := by decide +kernel
theorem d_Be_layFrom_19 : decode b_Be_layFrom 19 = .ok (.aload_n 0, 1) := by decide +kernel
theorem d_Be_layFrom_20 : decode b_Be_layFrom 20 = .ok (.iload_n 1, 1) := by decide +kernel
theorem d_Be_layFrom_21 : decode b_Be_layFrom 21 = .ok (.iconst 1, 1) := by decide +kernel
theorem d_Be_layFrom_22 : decode b_Be_layFrom 22 = .ok (.iadd, 1) := by decide +kernel
theorem d_Be_layFrom_23 : decode b_Be_layFrom 23 = .ok (.iload_n 2, 1) := by decide +kernel
theorem d_Be_layFrom_24 : decode b_Be_layFrom 24 = .ok (.iload_n 3, 1) := by decide +kernel
theorem d_Be_layFrom_25 : decode b_Be_layFrom 25 = .ok (.iload 4, 2) := by decide +kernel
theorem d_Be_layFrom_27 : decode b_Be_layFrom 27 = .ok (.invokevirtual 33, 3) := by decide +kernel
theorem d_Be_layFrom_30 : decode b_Be_layFrom 30 = .ok (.ireturn, 1) := by decide +kernel
theorem d_Be_layFrom_31 : decode b_Be_layFrom 31 = .ok (.aload_n 0, 1) := by decide +kernel
theorem d_Be_layFrom_32 : decode b_Be_layFrom 32 = .ok (.getfield 25, 3) := by decide +kernel
theorem d_Be_layFrom_35 : decode b_Be_layFrom 35 = .ok (.iload_n 1, 1) := by decide +kernel
theorem d_Be_layFrom_36 : decode b_Be_layFrom 36 = .ok (.invokevirtual 41, 3) := by decide +kernel
theorem d_Be_layFrom_39 : decode b_Be_layFrom 39 = .ok (.istore 5, 2) := by decide +kernel
theorem d_Be_layFrom_41 : decode b_Be_layFrom 41 = .ok (.aload_n 0, 1) := by decide +kernel
theorem d_Be_layFrom_42 : decode b_Be_layFrom 42 = .ok (.getfield 25, 3) := by decide +kernel
theorem d_Be_layFrom_45 : decode b_Be_layFrom 45 = .ok (.iload_n 1, 1) := by decide +kernel
theorem d_Be_layFrom_46 : decode b_Be_layFrom 46 = .ok (.invokevirtual 47, 3) := by decide +kernel
theorem d_Be_layFrom_49 : decode b_Be_layFrom 49 = .ok (.istore 6, 2) := by decide +kernel
theorem d_Be_layFrom_51 : decode b_Be_layFrom 51 = .ok (.aload_n 0, 1) := by decide +kernel
theorem d_Be_layFrom_52 : decode b_Be_layFrom 52 = .ok (.getfield 21, 3) := by decide +kernel
theorem d_Be_layFrom_55 : decode b_Be_layFrom 55 = .ok (.iload_n 2, 1) := by decide +kernel
theorem d_Be_layFrom_56 : decode b_Be_layFrom 56 = .ok (.invokevirtual 50, 3) := by decide +kernel
theorem d_Be_layFrom_59 : decode b_Be_layFrom 59 = .ok (.iload 5, 2) := by decide +kernel
theorem d_Be_layFrom_61 : decode b_Be_layFrom 61 = .ok (.isub, 1) := by decide +kernel
theorem d_Be_layFrom_62 : decode b_Be_layFrom 62 = .ok (.istore 7, 2) := by decide +kernel
theorem d_Be_layFrom_64 : decode b_Be_layFrom 64 = .ok (.aload_n 0, 1) := by decide +kernel
theorem d_Be_layFrom_65 : decode b_Be_layFrom 65 = .ok (.getfield 21, 3) := by decide +kernel
theorem d_Be_layFrom_68 : decode b_Be_layFrom 68 = .ok (.iload_n 2, 1) := by decide +kernel
theorem d_Be_layFrom_69 : decode b_Be_layFrom 69 = .ok (.invokevirtual 53, 3) := by decide +kernel
theorem d_Be_layFrom_72 : decode b_Be_layFrom 72 = .ok (.iload 6, 2) := by decide +kernel
theorem d_Be_layFrom_74 : decode b_Be_layFrom 74 = .ok (.isub, 1) := by decide +kernel
theorem d_Be_layFrom_75 : decode b_Be_layFrom 75 = .ok (.istore 8, 2) := by decide +kernel
theorem d_Be_layFrom_77 : decode b_Be_layFrom 77 = .ok (.iload 8, 2) := by decide +kernel
theorem d_Be_layFrom_79 : decode b_Be_layFrom 79 = .ok (.ifCond .ge 5, 3) := by decide +kernel
theorem d_Be_layFrom_82 : decode b_Be_layFrom 82 = .ok (.iconst 0, 1) := by decide +kernel
theorem d_Be_layFrom_83 : decode b_Be_layFrom 83 = .ok (.ireturn, 1) := by decide +kernel
theorem d_Be_layFrom_84 : decode b_Be_layFrom 84 = .ok (.aload_n 0, 1) := by decide +kernel
theorem d_Be_layFrom_85 : decode b_Be_layFrom 85 = .ok (.getfield 25, 3) := by decide +kernel
theorem d_Be_layFrom_88 : decode b_Be_layFrom 88 = .ok (.iload_n 1, 1) := by decide +kernel
theorem d_Be_layFrom_89 : decode b_Be_layFrom 89 = .ok (.invokevirtual 54, 3) := by decide +kernel
theorem d_Be_layFrom_92 : decode b_Be_layFrom 92 = .ok (.iconst 1, 1) := by decide +kernel
theorem d_Be_layFrom_93 : decode b_Be_layFrom 93 = .ok (.if_icmp .ne 8, 3) := by decide +kernel
theorem d_Be_layFrom_96 : decode b_Be_layFrom 96 = .ok (.iload 8, 2) := by decide +kernel
theorem d_Be_layFrom_98 : decode b_Be_layFrom 98 = .ok (.goto 4, 3) := by decide +kernel
theorem d_Be_layFrom_101 : decode b_Be_layFrom 101 = .ok (.iconst 0, 1) := by decide +kernel
theorem d_Be_layFrom_102 : decode b_Be_layFrom 102 = .ok (.istore 9, 2) := by decide +kernel
theorem d_Be_layFrom_104 : decode b_Be_layFrom 104 = .ok (.aload_n 0, 1) := by decide +kernel
theorem d_Be_layFrom_105 : decode b_Be_layFrom 105 = .ok (.getfield 25, 3) := by decide +kernel
theorem d_Be_layFrom_108 : decode b_Be_layFrom 108 = .ok (.iload_n 1, 1) := by decide +kernel
theorem d_Be_layFrom_109 : decode b_Be_layFrom 109 = .ok (.invokevirtual 54, 3) := by decide +kernel
theorem d_Be_layFrom_112 : decode b_Be_layFrom 112 = .ok (.ifCond .ne 6, 3) := by decide +kernel
theorem d_Be_layFrom_115 : decode b_Be_layFrom 115 = .ok (.iconst 0, 1) := by decide +kernel
theorem d_Be_layFrom_116 : decode b_Be_layFrom 116 = .ok (.istore 8, 2) := by decide +kernel
theorem d_Be_layFrom_118 : decode b_Be_layFrom 118 = .ok (.iconst 0, 1) := by decide +kernel
theorem d_Be_layFrom_119 : decode b_Be_layFrom 119 = .ok (.iload 5, 2) := by decide +kernel
theorem d_Be_layFrom_121 : decode b_Be_layFrom 121 = .ok (.iconst 0, 1) := by decide +kernel
theorem d_Be_layFrom_122 : decode b_Be_layFrom 122 = .ok (.iload 6, 2) := by decide +kernel
theorem d_Be_layFrom_124 : decode b_Be_layFrom 124 = .ok (.invokestatic 57, 3) := by decide +kernel
theorem d_Be_layFrom_127 : decode b_Be_layFrom 127 = .ok (.istore 10, 2) := by decide +kernel
theorem d_Be_layFrom_129 : decode b_Be_layFrom 129 = .ok (.iconst 0, 1) := by decide +kernel
theorem d_Be_layFrom_130 : decode b_Be_layFrom 130 = .ok (.istore 11, 2) := by decide +kernel
theorem d_Be_layFrom_132 : decode b_Be_layFrom 132 = .ok (.iload 11, 2) := by decide +kernel
theorem d_Be_layFrom_134 : decode b_Be_layFrom 134 = .ok (.iload 7, 2) := by decide +kernel
theorem d_Be_layFrom_136 : decode b_Be_layFrom 136 = .ok (.if_icmp .gt 116, 3) := by decide +kernel
theorem d_Be_layFrom_139 : decode b_Be_layFrom 139 = .ok (.iload 9, 2) := by decide +kernel
theorem d_Be_layFrom_141 : decode b_Be_layFrom 141 = .ok (.istore 12, 2) := by decide +kernel
theorem d_Be_layFrom_143 : decode b_Be_layFrom 143 = .ok (.iload 12, 2) := by decide +kernel
theorem d_Be_layFrom_145 : decode b_Be_layFrom 145 = .ok (.iload 8, 2) := by decide +kernel
theorem d_Be_layFrom_147 : decode b_Be_layFrom 147 = .ok (.if_icmp .gt 99, 3) := by decide +kernel
theorem d_Be_layFrom_150 : decode b_Be_layFrom 150 = .ok (.iload 10, 2) := by decide +kernel
theorem d_Be_layFrom_152 : decode b_Be_layFrom 152 = .ok (.iconst 3, 1) := by decide +kernel
theorem d_Be_layFrom_153 : decode b_Be_layFrom 153 = .ok (.iload 11, 2) := by decide +kernel
theorem d_Be_layFrom_155 : decode b_Be_layFrom 155 = .ok (.imul, 1) := by decide +kernel
theorem d_Be_layFrom_156 : decode b_Be_layFrom 156 = .ok (.iload 12, 2) := by decide +kernel
theorem d_Be_layFrom_158 : decode b_Be_layFrom 158 = .ok (.iadd, 1) := by decide +kernel
theorem d_Be_layFrom_159 : decode b_Be_layFrom 159 = .ok (.ishl, 1) := by decide +kernel
theorem d_Be_layFrom_160 : decode b_Be_layFrom 160 = .ok (.iload 4, 2) := by decide +kernel
theorem d_Be_layFrom_162 : decode b_Be_layFrom 162 = .ok (.iand, 1) := by decide +kernel
theorem d_Be_layFrom_163 : decode b_Be_layFrom 163 = .ok (.ifCond .ne 77, 3) := by decide +kernel
theorem d_Be_layFrom_166 : decode b_Be_layFrom 166 = .ok (.aload_n 0, 1) := by decide +kernel
theorem d_Be_layFrom_167 : decode b_Be_layFrom 167 = .ok (.getfield 9, 3) := by decide +kernel
theorem d_Be_layFrom_170 : decode b_Be_layFrom 170 = .ok (.iload_n 1, 1) := by decide +kernel
theorem d_Be_layFrom_171 : decode b_Be_layFrom 171 = .ok (.iload 11, 2) := by decide +kernel
theorem d_Be_layFrom_173 : decode b_Be_layFrom 173 = .ok (.iastore, 1) := by decide +kernel
theorem d_Be_layFrom_174 : decode b_Be_layFrom 174 = .ok (.aload_n 0, 1) := by decide +kernel
theorem d_Be_layFrom_175 : decode b_Be_layFrom 175 = .ok (.getfield 15, 3) := by decide +kernel
theorem d_Be_layFrom_178 : decode b_Be_layFrom 178 = .ok (.iload_n 1, 1) := by decide +kernel
theorem d_Be_layFrom_179 : decode b_Be_layFrom 179 = .ok (.iload 12, 2) := by decide +kernel
theorem d_Be_layFrom_181 : decode b_Be_layFrom 181 = .ok (.iastore, 1) := by decide +kernel
theorem d_Be_layFrom_182 : decode b_Be_layFrom 182 = .ok (.iload 11, 2) := by decide +kernel
theorem d_Be_layFrom_184 : decode b_Be_layFrom 184 = .ok (.aload_n 0, 1) := by decide +kernel
theorem d_Be_layFrom_185 : decode b_Be_layFrom 185 = .ok (.getfield 29, 3) := by decide +kernel
theorem d_Be_layFrom_188 : decode b_Be_layFrom 188 = .ok (.isub, 1) := by decide +kernel
theorem d_Be_layFrom_189 : decode b_Be_layFrom 189 = .ok (.iload 11, 2) := by decide +kernel
theorem d_Be_layFrom_191 : decode b_Be_layFrom 191 = .ok (.iload 5, 2) := by decide +kernel
theorem d_Be_layFrom_193 : decode b_Be_layFrom 193 = .ok (.iadd, 1) := by decide +kernel
theorem d_Be_layFrom_194 : decode b_Be_layFrom 194 = .ok (.aload_n 0, 1) := by decide +kernel
theorem d_Be_layFrom_195 : decode b_Be_layFrom 195 = .ok (.getfield 29, 3) := by decide +kernel
theorem d_Be_layFrom_198 : decode b_Be_layFrom 198 = .ok (.iadd, 1) := by decide +kernel
theorem d_Be_layFrom_199 : decode b_Be_layFrom 199 = .ok (.iload 12, 2) := by decide +kernel
theorem d_Be_layFrom_201 : decode b_Be_layFrom 201 = .ok (.aload_n 0, 1) := by decide +kernel
theorem d_Be_layFrom_202 : decode b_Be_layFrom 202 = .ok (.getfield 29, 3) := by decide +kernel
theorem d_Be_layFrom_205 : decode b_Be_layFrom 205 = .ok (.isub, 1) := by decide +kernel
theorem d_Be_layFrom_206 : decode b_Be_layFrom 206 = .ok (.iload 12, 2) := by decide +kernel
theorem d_Be_layFrom_208 : decode b_Be_layFrom 208 = .ok (.iload 6, 2) := by decide +kernel
theorem d_Be_layFrom_210 : decode b_Be_layFrom 210 = .ok (.iadd, 1) := by decide +kernel
theorem d_Be_layFrom_211 : decode b_Be_layFrom 211 = .ok (.aload_n 0, 1) := by decide +kernel
theorem d_Be_layFrom_212 : decode b_Be_layFrom 212 = .ok (.getfield 29, 3) := by decide +kernel
theorem d_Be_layFrom_215 : decode b_Be_layFrom 215 = .ok (.iadd, 1) := by decide +kernel
theorem d_Be_layFrom_216 : decode b_Be_layFrom 216 = .ok (.invokestatic 57, 3) := by decide +kernel
theorem d_Be_layFrom_219 : decode b_Be_layFrom 219 = .ok (.istore 13, 2) := by decide +kernel
theorem d_Be_layFrom_221 : decode b_Be_layFrom 221 = .ok (.aload_n 0, 1) := by decide +kernel
theorem d_Be_layFrom_222 : decode b_Be_layFrom 222 = .ok (.iload_n 1, 1) := by decide +kernel
theorem d_Be_layFrom_223 : decode b_Be_layFrom 223 = .ok (.iconst 1, 1) := by decide +kernel
theorem d_Be_layFrom_224 : decode b_Be_layFrom 224 = .ok (.iadd, 1) := by decide +kernel
theorem d_Be_layFrom_225 : decode b_Be_layFrom 225 = .ok (.iload_n 2, 1) := by decide +kernel
theorem d_Be_layFrom_226 : decode b_Be_layFrom 226 = .ok (.iload_n 3, 1) := by decide +kernel
theorem d_Be_layFrom_227 : decode b_Be_layFrom 227 = .ok (.iload 4, 2) := by decide +kernel
theorem d_Be_layFrom_229 : decode b_Be_layFrom 229 = .ok (.iload 13, 2) := by decide +kernel
theorem d_Be_layFrom_231 : decode b_Be_layFrom 231 = .ok (.ior, 1) := by decide +kernel
theorem d_Be_layFrom_232 : decode b_Be_layFrom 232 = .ok (.invokevirtual 33, 3) := by decide +kernel
theorem d_Be_layFrom_235 : decode b_Be_layFrom 235 = .ok (.ifCond .eq 5, 3) := by decide +kernel
theorem d_Be_layFrom_238 : decode b_Be_layFrom 238 = .ok (.iconst 1, 1) := by decide +kernel
theorem d_Be_layFrom_239 : decode b_Be_layFrom 239 = .ok (.ireturn, 1) := by decide +kernel
theorem d_Be_layFrom_240 : decode b_Be_layFrom 240 = .ok (.iinc 12 1, 3) := by decide +kernel
theorem d_Be_layFrom_243 : decode b_Be_layFrom 243 = .ok (.goto (-100), 3) := by decide +kernel
theorem d_Be_layFrom_246 : decode b_Be_layFrom 246 = .ok (.iinc 11 1, 3) := by decide +kernel
theorem d_Be_layFrom_249 : decode b_Be_layFrom 249 = .ok (.goto (-117), 3) := by decide +kernel
theorem d_Be_layFrom_252 : decode b_Be_layFrom 252 = .ok (.iconst 0, 1) := by decide +kernel
theorem d_Be_layFrom_253 : decode b_Be_layFrom 253 = .ok (.ireturn, 1) := by decide +kernel
theorem d_Be_setGap_0 : decode b_Be_setGap 0 = .ok (.aload_n 0, 1) := by decide +kernel
theorem d_Be_setGap_1 : decode b_Be_setGap 1 = .ok (.iload_n 1, 1) := by decide +kernel
theorem d_Be_setGap_2 : decode b_Be_setGap 2 = .ok (.putfield 29, 3) := by decide +kernel
theorem d_Be_setGap_5 : decode b_Be_setGap 5 = .ok (.return_, 1) := by decide +kernel
theorem d_Be_x_0 : decode b_Be_x 0 = .ok (.iload_n 1, 1) := by decide +kernel
theorem d_Be_x_1 : decode b_Be_x 1 = .ok (.ifCond .lt 17, 3) := by decide +kernel
theorem d_Be_x_4 : decode b_Be_x 4 = .ok (.iload_n 1, 1) := by decide +kernel
end
section
theorem d_Be_x_5 : decode b_Be_x 5 = .ok (.iconst 4, 1) := by decide +kernel
theorem d_Be_x_6 : decode b_Be_x 6 = .ok (.if_icmp .ge 12, 3) := by decide +kernel
theorem d_Be_x_9 : decode b_Be_x 9 = .ok (.aload_n 0, 1) := by decide +kernel
theorem d_Be_x_10 : decode b_Be_x 10 = .ok (.getfield 9, 3) := by decide +kernel
theorem d_Be_x_13 : decode b_Be_x 13 = .ok (.iload_n 1, 1) := by decide +kernel
theorem d_Be_x_14 : decode b_Be_x 14 = .ok (.iaload, 1) := by decide +kernel
theorem d_Be_x_15 : decode b_Be_x 15 = .ok (.goto 4, 3) := by decide +kernel
theorem d_Be_x_18 : decode b_Be_x 18 = .ok (.iconst (-1), 1) := by decide +kernel
theorem d_Be_x_19 : decode b_Be_x 19 = .ok (.ireturn, 1) := by decide +kernel
theorem d_Be_y_0 : decode b_Be_y 0 = .ok (.iload_n 1, 1) := by decide +kernel
theorem d_Be_y_1 : decode b_Be_y 1 = .ok (.ifCond .lt 17, 3) := by decide +kernel
theorem d_Be_y_4 : decode b_Be_y 4 = .ok (.iload_n 1, 1) := by decide +kernel
theorem d_Be_y_5 : decode b_Be_y 5 = .ok (.iconst 4, 1) := by decide +kernel
theorem d_Be_y_6 : decode b_Be_y 6 = .ok (.if_icmp .ge 12, 3) := by decide +kernel
theorem d_Be_y_9 : decode b_Be_y 9 = .ok (.aload_n 0, 1) := by decide +kernel
theorem d_Be_y_10 : decode b_Be_y 10 = .ok (.getfield 15, 3) := by decide +kernel
theorem d_Be_y_13 : decode b_Be_y 13 = .ok (.iload_n 1, 1) := by decide +kernel
theorem d_Be_y_14 : decode b_Be_y 14 = .ok (.iaload, 1) := by decide +kernel
theorem d_Be_y_15 : decode b_Be_y 15 = .ok (.goto 4, 3) := by decide +kernel
theorem d_Be_y_18 : decode b_Be_y 18 = .ok (.iconst (-1), 1) := by decide +kernel
theorem d_Be_y_19 : decode b_Be_y 19 = .ok (.ireturn, 1) := by decide +kernel
theorem d_Ch_add_0 : decode b_Ch_add 0 = .ok (.aload_n 0, 1) := by decide +kernel
theorem d_Ch_add_1 : decode b_Ch_add 1 = .ok (.getfield 30, 3) := by decide +kernel
theorem d_Ch_add_4 : decode b_Ch_add 4 = .ok (.istore 4, 2) := by decide +kernel
theorem d_Ch_add_6 : decode b_Ch_add 6 = .ok (.iload 4, 2) := by decide +kernel
theorem d_Ch_add_8 : decode b_Ch_add 8 = .ok (.ifCond .lt 9, 3) := by decide +kernel
theorem d_Ch_add_11 : decode b_Ch_add 11 = .ok (.iload 4, 2) := by decide +kernel
theorem d_Ch_add_13 : decode b_Ch_add 13 = .ok (.iconst 2, 1) := by decide +kernel
theorem d_Ch_add_14 : decode b_Ch_add 14 = .ok (.if_icmp .lt 5, 3) := by decide +kernel
theorem d_Ch_add_17 : decode b_Ch_add 17 = .ok (.iconst (-1), 1) := by decide +kernel
theorem d_Ch_add_18 : decode b_Ch_add 18 = .ok (.ireturn, 1) := by decide +kernel
theorem d_Ch_add_19 : decode b_Ch_add 19 = .ok (.aload_n 0, 1) := by decide +kernel
theorem d_Ch_add_20 : decode b_Ch_add 20 = .ok (.getfield 9, 3) := by decide +kernel
theorem d_Ch_add_23 : decode b_Ch_add 23 = .ok (.iload 4, 2) := by decide +kernel
theorem d_Ch_add_25 : decode b_Ch_add 25 = .ok (.iload_n 1, 1) := by decide +kernel
theorem d_Ch_add_26 : decode b_Ch_add 26 = .ok (.iastore, 1) := by decide +kernel
theorem d_Ch_add_27 : decode b_Ch_add 27 = .ok (.aload_n 0, 1) := by decide +kernel
theorem d_Ch_add_28 : decode b_Ch_add 28 = .ok (.getfield 15, 3) := by decide +kernel
theorem d_Ch_add_31 : decode b_Ch_add 31 = .ok (.iload 4, 2) := by decide +kernel
theorem d_Ch_add_33 : decode b_Ch_add 33 = .ok (.iload_n 2, 1) := by decide +kernel
theorem d_Ch_add_34 : decode b_Ch_add 34 = .ok (.iastore, 1) := by decide +kernel
theorem d_Ch_add_35 : decode b_Ch_add 35 = .ok (.aload_n 0, 1) := by decide +kernel
theorem d_Ch_add_36 : decode b_Ch_add 36 = .ok (.getfield 18, 3) := by decide +kernel
theorem d_Ch_add_39 : decode b_Ch_add 39 = .ok (.iload 4, 2) := by decide +kernel
theorem d_Ch_add_41 : decode b_Ch_add 41 = .ok (.iload_n 3, 1) := by decide +kernel
theorem d_Ch_add_42 : decode b_Ch_add 42 = .ok (.iastore, 1) := by decide +kernel
theorem d_Ch_add_43 : decode b_Ch_add 43 = .ok (.aload_n 0, 1) := by decide +kernel
theorem d_Ch_add_44 : decode b_Ch_add 44 = .ok (.iload 4, 2) := by decide +kernel
theorem d_Ch_add_46 : decode b_Ch_add 46 = .ok (.iconst 1, 1) := by decide +kernel
theorem d_Ch_add_47 : decode b_Ch_add 47 = .ok (.iadd, 1) := by decide +kernel
theorem d_Ch_add_48 : decode b_Ch_add 48 = .ok (.putfield 30, 3) := by decide +kernel
theorem d_Ch_add_51 : decode b_Ch_add 51 = .ok (.iload 4, 2) := by decide +kernel
theorem d_Ch_add_53 : decode b_Ch_add 53 = .ok (.ireturn, 1) := by decide +kernel
theorem d_Ch_addSpan_0 : decode b_Ch_addSpan 0 = .ok (.aload_n 0, 1) := by decide +kernel
theorem d_Ch_addSpan_1 : decode b_Ch_addSpan 1 = .ok (.getfield 34, 3) := by decide +kernel
theorem d_Ch_addSpan_4 : decode b_Ch_addSpan 4 = .ok (.istore 4, 2) := by decide +kernel
theorem d_Ch_addSpan_6 : decode b_Ch_addSpan 6 = .ok (.iload 4, 2) := by decide +kernel
theorem d_Ch_addSpan_8 : decode b_Ch_addSpan 8 = .ok (.ifCond .lt 10, 3) := by decide +kernel
theorem d_Ch_addSpan_11 : decode b_Ch_addSpan 11 = .ok (.iload 4, 2) := by decide +kernel
theorem d_Ch_addSpan_13 : decode b_Ch_addSpan 13 = .ok (.bipush 8, 2) := by decide +kernel
theorem d_Ch_addSpan_15 : decode b_Ch_addSpan 15 = .ok (.if_icmp .lt 5, 3) := by decide +kernel
theorem d_Ch_addSpan_18 : decode b_Ch_addSpan 18 = .ok (.iconst 0, 1) := by decide +kernel
theorem d_Ch_addSpan_19 : decode b_Ch_addSpan 19 = .ok (.ireturn, 1) := by decide +kernel
theorem d_Ch_addSpan_20 : decode b_Ch_addSpan 20 = .ok (.aload_n 0, 1) := by decide +kernel
theorem d_Ch_addSpan_21 : decode b_Ch_addSpan 21 = .ok (.getfield 21, 3) := by decide +kernel
theorem d_Ch_addSpan_24 : decode b_Ch_addSpan 24 = .ok (.iload 4, 2) := by decide +kernel
theorem d_Ch_addSpan_26 : decode b_Ch_addSpan 26 = .ok (.iload_n 1, 1) := by decide +kernel
theorem d_Ch_addSpan_27 : decode b_Ch_addSpan 27 = .ok (.iastore, 1) := by decide +kernel
theorem d_Ch_addSpan_28 : decode b_Ch_addSpan 28 = .ok (.aload_n 0, 1) := by decide +kernel
theorem d_Ch_addSpan_29 : decode b_Ch_addSpan 29 = .ok (.getfield 24, 3) := by decide +kernel
theorem d_Ch_addSpan_32 : decode b_Ch_addSpan 32 = .ok (.iload 4, 2) := by decide +kernel
theorem d_Ch_addSpan_34 : decode b_Ch_addSpan 34 = .ok (.iload_n 2, 1) := by decide +kernel
theorem d_Ch_addSpan_35 : decode b_Ch_addSpan 35 = .ok (.iastore, 1) := by decide +kernel
theorem d_Ch_addSpan_36 : decode b_Ch_addSpan 36 = .ok (.aload_n 0, 1) := by decide +kernel
theorem d_Ch_addSpan_37 : decode b_Ch_addSpan 37 = .ok (.getfield 27, 3) := by decide +kernel
theorem d_Ch_addSpan_40 : decode b_Ch_addSpan 40 = .ok (.iload 4, 2) := by decide +kernel
theorem d_Ch_addSpan_42 : decode b_Ch_addSpan 42 = .ok (.iload_n 3, 1) := by decide +kernel
theorem d_Ch_addSpan_43 : decode b_Ch_addSpan 43 = .ok (.iastore, 1) := by decide +kernel
theorem d_Ch_addSpan_44 : decode b_Ch_addSpan 44 = .ok (.aload_n 0, 1) := by decide +kernel
theorem d_Ch_addSpan_45 : decode b_Ch_addSpan 45 = .ok (.iload 4, 2) := by decide +kernel
theorem d_Ch_addSpan_47 : decode b_Ch_addSpan 47 = .ok (.iconst 1, 1) := by decide +kernel
theorem d_Ch_addSpan_48 : decode b_Ch_addSpan 48 = .ok (.iadd, 1) := by decide +kernel
theorem d_Ch_addSpan_49 : decode b_Ch_addSpan 49 = .ok (.putfield 34, 3) := by decide +kernel
theorem d_Ch_addSpan_52 : decode b_Ch_addSpan 52 = .ok (.iconst 1, 1) := by decide +kernel
theorem d_Ch_addSpan_53 : decode b_Ch_addSpan 53 = .ok (.ireturn, 1) := by decide +kernel
theorem d_Ch_fill_0 : decode b_Ch_fill 0 = .ok (.aload_n 0, 1) := by decide +kernel
theorem d_Ch_fill_1 : decode b_Ch_fill 1 = .ok (.iload_n 1, 1) := by decide +kernel
theorem d_Ch_fill_2 : decode b_Ch_fill 2 = .ok (.invokevirtual 37, 3) := by decide +kernel
theorem d_Ch_fill_5 : decode b_Ch_fill 5 = .ok (.ifCond .eq 12, 3) := by decide +kernel
theorem d_Ch_fill_8 : decode b_Ch_fill 8 = .ok (.aload_n 0, 1) := by decide +kernel
theorem d_Ch_fill_9 : decode b_Ch_fill 9 = .ok (.getfield 18, 3) := by decide +kernel
theorem d_Ch_fill_12 : decode b_Ch_fill 12 = .ok (.iload_n 1, 1) := by decide +kernel
theorem d_Ch_fill_13 : decode b_Ch_fill 13 = .ok (.iaload, 1) := by decide +kernel
theorem d_Ch_fill_14 : decode b_Ch_fill 14 = .ok (.goto 4, 3) := by decide +kernel
theorem d_Ch_fill_17 : decode b_Ch_fill 17 = .ok (.iconst 0, 1) := by decide +kernel
theorem d_Ch_fill_18 : decode b_Ch_fill 18 = .ok (.ireturn, 1) := by decide +kernel
theorem d_Ch_firstOpen_0 : decode b_Ch_firstOpen 0 = .ok (.iload_n 2, 1) := by decide +kernel
theorem d_Ch_firstOpen_1 : decode b_Ch_firstOpen 1 = .ok (.istore_n 3, 1) := by decide +kernel
theorem d_Ch_firstOpen_2 : decode b_Ch_firstOpen 2 = .ok (.iconst 0, 1) := by decide +kernel
theorem d_Ch_firstOpen_3 : decode b_Ch_firstOpen 3 = .ok (.istore 4, 2) := by decide +kernel
theorem d_Ch_firstOpen_5 : decode b_Ch_firstOpen 5 = .ok (.iload 4, 2) := by decide +kernel
theorem d_Ch_firstOpen_7 : decode b_Ch_firstOpen 7 = .ok (.bipush 8, 2) := by decide +kernel
theorem d_Ch_firstOpen_9 : decode b_Ch_firstOpen 9 = .ok (.if_icmp .ge 29, 3) := by decide +kernel
theorem d_Ch_firstOpen_12 : decode b_Ch_firstOpen 12 = .ok (.aload_n 0, 1) := by decide +kernel
theorem d_Ch_firstOpen_13 : decode b_Ch_firstOpen 13 = .ok (.iload_n 1, 1) := by decide +kernel
theorem d_Ch_firstOpen_14 : decode b_Ch_firstOpen 14 = .ok (.iload_n 3, 1) := by decide +kernel
theorem d_Ch_firstOpen_15 : decode b_Ch_firstOpen 15 = .ok (.invokevirtual 41, 3) := by decide +kernel
theorem d_Ch_firstOpen_18 : decode b_Ch_firstOpen 18 = .ok (.istore 5, 2) := by decide +kernel
theorem d_Ch_firstOpen_20 : decode b_Ch_firstOpen 20 = .ok (.iload 5, 2) := by decide +kernel
theorem d_Ch_firstOpen_22 : decode b_Ch_firstOpen 22 = .ok (.iload_n 3, 1) := by decide +kernel
theorem d_Ch_firstOpen_23 : decode b_Ch_firstOpen 23 = .ok (.if_icmp .ne 6, 3) := by decide +kernel
theorem d_Ch_firstOpen_26 : decode b_Ch_firstOpen 26 = .ok (.goto 12, 3) := by decide +kernel
theorem d_Ch_firstOpen_29 : decode b_Ch_firstOpen 29 = .ok (.iload 5, 2) := by decide +kernel
theorem d_Ch_firstOpen_31 : decode b_Ch_firstOpen 31 = .ok (.istore_n 3, 1) := by decide +kernel
theorem d_Ch_firstOpen_32 : decode b_Ch_firstOpen 32 = .ok (.iinc 4 1, 3) := by decide +kernel
theorem d_Ch_firstOpen_35 : decode b_Ch_firstOpen 35 = .ok (.goto (-30), 3) := by decide +kernel
theorem d_Ch_firstOpen_38 : decode b_Ch_firstOpen 38 = .ok (.iload_n 3, 1) := by decide +kernel
theorem d_Ch_firstOpen_39 : decode b_Ch_firstOpen 39 = .ok (.ireturn, 1) := by decide +kernel
theorem d_Ch_has_0 : decode b_Ch_has 0 = .ok (.iload_n 1, 1) := by decide +kernel
theorem d_Ch_has_1 : decode b_Ch_has 1 = .ok (.ifCond .lt 20, 3) := by decide +kernel
theorem d_Ch_has_4 : decode b_Ch_has 4 = .ok (.iload_n 1, 1) := by decide +kernel
theorem d_Ch_has_5 : decode b_Ch_has 5 = .ok (.aload_n 0, 1) := by decide +kernel
theorem d_Ch_has_6 : decode b_Ch_has 6 = .ok (.getfield 30, 3) := by decide +kernel
theorem d_Ch_has_9 : decode b_Ch_has 9 = .ok (.if_icmp .ge 12, 3) := by decide +kernel
theorem d_Ch_has_12 : decode b_Ch_has 12 = .ok (.iload_n 1, 1) := by decide +kernel
theorem d_Ch_has_13 : decode b_Ch_has 13 = .ok (.iconst 2, 1) := by decide +kernel
theorem d_Ch_has_14 : decode b_Ch_has 14 = .ok (.if_icmp .ge 7, 3) := by decide +kernel
theorem d_Ch_has_17 : decode b_Ch_has 17 = .ok (.iconst 1, 1) := by decide +kernel
theorem d_Ch_has_18 : decode b_Ch_has 18 = .ok (.goto 4, 3) := by decide +kernel
theorem d_Ch_has_21 : decode b_Ch_has 21 = .ok (.iconst 0, 1) := by decide +kernel
theorem d_Ch_has_22 : decode b_Ch_has 22 = .ok (.ireturn, 1) := by decide +kernel
theorem d_Ch_length_0 : decode b_Ch_length 0 = .ok (.aload_n 0, 1) := by decide +kernel
theorem d_Ch_length_1 : decode b_Ch_length 1 = .ok (.iload_n 1, 1) := by decide +kernel
theorem d_Ch_length_2 : decode b_Ch_length 2 = .ok (.invokevirtual 37, 3) := by decide +kernel
theorem d_Ch_length_5 : decode b_Ch_length 5 = .ok (.ifCond .eq 12, 3) := by decide +kernel
theorem d_Ch_length_8 : decode b_Ch_length 8 = .ok (.aload_n 0, 1) := by decide +kernel
theorem d_Ch_length_9 : decode b_Ch_length 9 = .ok (.getfield 9, 3) := by decide +kernel
theorem d_Ch_length_12 : decode b_Ch_length 12 = .ok (.iload_n 1, 1) := by decide +kernel
theorem d_Ch_length_13 : decode b_Ch_length 13 = .ok (.iaload, 1) := by decide +kernel
theorem d_Ch_length_14 : decode b_Ch_length 14 = .ok (.goto 4, 3) := by decide +kernel
theorem d_Ch_length_17 : decode b_Ch_length 17 = .ok (.iconst 0, 1) := by decide +kernel
theorem d_Ch_length_18 : decode b_Ch_length 18 = .ok (.ireturn, 1) := by decide +kernel
theorem d_Ch_pastSpans_0 : decode b_Ch_pastSpans 0 = .ok (.aload_n 0, 1) := by decide +kernel
theorem d_Ch_pastSpans_1 : decode b_Ch_pastSpans 1 = .ok (.iload_n 1, 1) := by decide +kernel
theorem d_Ch_pastSpans_2 : decode b_Ch_pastSpans 2 = .ok (.invokevirtual 45, 3) := by decide +kernel
theorem d_Ch_pastSpans_5 : decode b_Ch_pastSpans 5 = .ok (.istore_n 3, 1) := by decide +kernel
theorem d_Ch_pastSpans_6 : decode b_Ch_pastSpans 6 = .ok (.iload_n 2, 1) := by decide +kernel
theorem d_Ch_pastSpans_7 : decode b_Ch_pastSpans 7 = .ok (.istore 4, 2) := by decide +kernel
theorem d_Ch_pastSpans_9 : decode b_Ch_pastSpans 9 = .ok (.iconst 0, 1) := by decide +kernel
theorem d_Ch_pastSpans_10 : decode b_Ch_pastSpans 10 = .ok (.istore 5, 2) := by decide +kernel
theorem d_Ch_pastSpans_12 : decode b_Ch_pastSpans 12 = .ok (.iload 5, 2) := by decide +kernel
theorem d_Ch_pastSpans_14 : decode b_Ch_pastSpans 14 = .ok (.bipush 8, 2) := by decide +kernel
theorem d_Ch_pastSpans_16 : decode b_Ch_pastSpans 16 = .ok (.if_icmp .ge 64, 3) := by decide +kernel
theorem d_Ch_pastSpans_19 : decode b_Ch_pastSpans 19 = .ok (.iload 5, 2) := by decide +kernel
theorem d_Ch_pastSpans_21 : decode b_Ch_pastSpans 21 = .ok (.aload_n 0, 1) := by decide +kernel
theorem d_Ch_pastSpans_22 : decode b_Ch_pastSpans 22 = .ok (.getfield 34, 3) := by decide +kernel
theorem d_Ch_pastSpans_25 : decode b_Ch_pastSpans 25 = .ok (.if_icmp .ge 55, 3) := by decide +kernel
theorem d_Ch_pastSpans_28 : decode b_Ch_pastSpans 28 = .ok (.aload_n 0, 1) := by decide +kernel
theorem d_Ch_pastSpans_29 : decode b_Ch_pastSpans 29 = .ok (.getfield 21, 3) := by decide +kernel
theorem d_Ch_pastSpans_32 : decode b_Ch_pastSpans 32 = .ok (.iload 5, 2) := by decide +kernel
theorem d_Ch_pastSpans_34 : decode b_Ch_pastSpans 34 = .ok (.iaload, 1) := by decide +kernel
theorem d_Ch_pastSpans_35 : decode b_Ch_pastSpans 35 = .ok (.iload_n 1, 1) := by decide +kernel
theorem d_Ch_pastSpans_36 : decode b_Ch_pastSpans 36 = .ok (.if_icmp .ne 38, 3) := by decide +kernel
theorem d_Ch_pastSpans_39 : decode b_Ch_pastSpans 39 = .ok (.iload 4, 2) := by decide +kernel
theorem d_Ch_pastSpans_41 : decode b_Ch_pastSpans 41 = .ok (.aload_n 0, 1) := by decide +kernel
theorem d_Ch_pastSpans_42 : decode b_Ch_pastSpans 42 = .ok (.getfield 27, 3) := by decide +kernel
theorem d_Ch_pastSpans_45 : decode b_Ch_pastSpans 45 = .ok (.iload 5, 2) := by decide +kernel
theorem d_Ch_pastSpans_47 : decode b_Ch_pastSpans 47 = .ok (.iaload, 1) := by decide +kernel
theorem d_Ch_pastSpans_48 : decode b_Ch_pastSpans 48 = .ok (.if_icmp .ge 26, 3) := by decide +kernel
theorem d_Ch_pastSpans_51 : decode b_Ch_pastSpans 51 = .ok (.iload 4, 2) := by decide +kernel
theorem d_Ch_pastSpans_53 : decode b_Ch_pastSpans 53 = .ok (.iload_n 3, 1) := by decide +kernel
theorem d_Ch_pastSpans_54 : decode b_Ch_pastSpans 54 = .ok (.iadd, 1) := by decide +kernel
theorem d_Ch_pastSpans_55 : decode b_Ch_pastSpans 55 = .ok (.aload_n 0, 1) := by decide +kernel
theorem d_Ch_pastSpans_56 : decode b_Ch_pastSpans 56 = .ok (.getfield 24, 3) := by decide +kernel
theorem d_Ch_pastSpans_59 : decode b_Ch_pastSpans 59 = .ok (.iload 5, 2) := by decide +kernel
theorem d_Ch_pastSpans_61 : decode b_Ch_pastSpans 61 = .ok (.iaload, 1) := by decide +kernel
theorem d_Ch_pastSpans_62 : decode b_Ch_pastSpans 62 = .ok (.if_icmp .le 12, 3) := by decide +kernel
theorem d_Ch_pastSpans_65 : decode b_Ch_pastSpans 65 = .ok (.aload_n 0, 1) := by decide +kernel
theorem d_Ch_pastSpans_66 : decode b_Ch_pastSpans 66 = .ok (.getfield 27, 3) := by decide +kernel
theorem d_Ch_pastSpans_69 : decode b_Ch_pastSpans 69 = .ok (.iload 5, 2) := by decide +kernel
theorem d_Ch_pastSpans_71 : decode b_Ch_pastSpans 71 = .ok (.iaload, 1) := by decide +kernel
theorem d_Ch_pastSpans_72 : decode b_Ch_pastSpans 72 = .ok (.istore 4, 2) := by decide +kernel
theorem d_Ch_pastSpans_74 : decode b_Ch_pastSpans 74 = .ok (.iinc 5 1, 3) := by decide +kernel
theorem d_Ch_pastSpans_77 : decode b_Ch_pastSpans 77 = .ok (.goto (-65), 3) := by decide +kernel
theorem d_Ch_pastSpans_80 : decode b_Ch_pastSpans 80 = .ok (.iload 4, 2) := by decide +kernel
theorem d_Ch_pastSpans_82 : decode b_Ch_pastSpans 82 = .ok (.ireturn, 1) := by decide +kernel
theorem d_Ch_size_0 : decode b_Ch_size 0 = .ok (.aload_n 0, 1) := by decide +kernel
theorem d_Ch_size_1 : decode b_Ch_size 1 = .ok (.getfield 30, 3) := by decide +kernel
theorem d_Ch_size_4 : decode b_Ch_size 4 = .ok (.ireturn, 1) := by decide +kernel
theorem d_Ch_spans_0 : decode b_Ch_spans 0 = .ok (.aload_n 0, 1) := by decide +kernel
theorem d_Ch_spans_1 : decode b_Ch_spans 1 = .ok (.getfield 34, 3) := by decide +kernel
theorem d_Ch_spans_4 : decode b_Ch_spans 4 = .ok (.ireturn, 1) := by decide +kernel
theorem d_Ch_width_0 : decode b_Ch_width 0 = .ok (.aload_n 0, 1) := by decide +kernel
theorem d_Ch_width_1 : decode b_Ch_width 1 = .ok (.iload_n 1, 1) := by decide +kernel
theorem d_Ch_width_2 : decode b_Ch_width 2 = .ok (.invokevirtual 37, 3) := by decide +kernel
theorem d_Ch_width_5 : decode b_Ch_width 5 = .ok (.ifCond .eq 12, 3) := by decide +kernel
theorem d_Ch_width_8 : decode b_Ch_width 8 = .ok (.aload_n 0, 1) := by decide +kernel
theorem d_Ch_width_9 : decode b_Ch_width 9 = .ok (.getfield 15, 3) := by decide +kernel
theorem d_Ch_width_12 : decode b_Ch_width 12 = .ok (.iload_n 1, 1) := by decide +kernel
theorem d_Ch_width_13 : decode b_Ch_width 13 = .ok (.iaload, 1) := by decide +kernel
theorem d_Ch_width_14 : decode b_Ch_width 14 = .ok (.goto 4, 3) := by decide +kernel
theorem d_Ch_width_17 : decode b_Ch_width 17 = .ok (.iconst 0, 1) := by decide +kernel
theorem d_Ch_width_18 : decode b_Ch_width 18 = .ok (.ireturn, 1) := by decide +kernel
theorem d_Fl_add_0 : decode b_Fl_add 0 = .ok (.aload_n 0, 1) := by decide +kernel
theorem d_Fl_add_1 : decode b_Fl_add 1 = .ok (.getfield 27, 3) := by decide +kernel
theorem d_Fl_add_4 : decode b_Fl_add 4 = .ok (.istore 6, 2) := by decide +kernel
theorem d_Fl_add_6 : decode b_Fl_add 6 = .ok (.iload 6, 2) := by decide +kernel
theorem d_Fl_add_8 : decode b_Fl_add 8 = .ok (.ifCond .lt 9, 3) := by decide +kernel
theorem d_Fl_add_11 : decode b_Fl_add 11 = .ok (.iload 6, 2) := by decide +kernel
theorem d_Fl_add_13 : decode b_Fl_add 13 = .ok (.iconst 4, 1) := by decide +kernel
theorem d_Fl_add_14 : decode b_Fl_add 14 = .ok (.if_icmp .lt 5, 3) := by decide +kernel
theorem d_Fl_add_17 : decode b_Fl_add 17 = .ok (.iconst (-1), 1) := by decide +kernel
theorem d_Fl_add_18 : decode b_Fl_add 18 = .ok (.ireturn, 1) := by decide +kernel
theorem d_Fl_add_19 : decode b_Fl_add 19 = .ok (.aload_n 0, 1) := by decide +kernel
theorem d_Fl_add_20 : decode b_Fl_add 20 = .ok (.getfield 9, 3) := by decide +kernel
theorem d_Fl_add_23 : decode b_Fl_add 23 = .ok (.iload 6, 2) := by decide +kernel
theorem d_Fl_add_25 : decode b_Fl_add 25 = .ok (.iload_n 1, 1) := by decide +kernel
theorem d_Fl_add_26 : decode b_Fl_add 26 = .ok (.iastore, 1) := by decide +kernel
theorem d_Fl_add_27 : decode b_Fl_add 27 = .ok (.aload_n 0, 1) := by decide +kernel
theorem d_Fl_add_28 : decode b_Fl_add 28 = .ok (.getfield 15, 3) := by decide +kernel
theorem d_Fl_add_31 : decode b_Fl_add 31 = .ok (.iload 6, 2) := by decide +kernel
theorem d_Fl_add_33 : decode b_Fl_add 33 = .ok (.iload_n 2, 1) := by decide +kernel
theorem d_Fl_add_34 : decode b_Fl_add 34 = .ok (.iastore, 1) := by decide +kernel
theorem d_Fl_add_35 : decode b_Fl_add 35 = .ok (.aload_n 0, 1) := by decide +kernel
theorem d_Fl_add_36 : decode b_Fl_add 36 = .ok (.getfield 18, 3) := by decide +kernel
theorem d_Fl_add_39 : decode b_Fl_add 39 = .ok (.iload 6, 2) := by decide +kernel
theorem d_Fl_add_41 : decode b_Fl_add 41 = .ok (.iload_n 3, 1) := by decide +kernel
theorem d_Fl_add_42 : decode b_Fl_add 42 = .ok (.iastore, 1) := by decide +kernel
theorem d_Fl_add_43 : decode b_Fl_add 43 = .ok (.aload_n 0, 1) := by decide +kernel
theorem d_Fl_add_44 : decode b_Fl_add 44 = .ok (.getfield 21, 3) := by decide +kernel
theorem d_Fl_add_47 : decode b_Fl_add 47 = .ok (.iload 6, 2) := by decide +kernel
theorem d_Fl_add_49 : decode b_Fl_add 49 = .ok (.iload 4, 2) := by decide +kernel
theorem d_Fl_add_51 : decode b_Fl_add 51 = .ok (.iastore, 1) := by decide +kernel
theorem d_Fl_add_52 : decode b_Fl_add 52 = .ok (.aload_n 0, 1) := by decide +kernel
theorem d_Fl_add_53 : decode b_Fl_add 53 = .ok (.getfield 24, 3) := by decide +kernel
theorem d_Fl_add_56 : decode b_Fl_add 56 = .ok (.iload 6, 2) := by decide +kernel
theorem d_Fl_add_58 : decode b_Fl_add 58 = .ok (.iload 5, 2) := by decide +kernel
theorem d_Fl_add_60 : decode b_Fl_add 60 = .ok (.iastore, 1) := by decide +kernel
theorem d_Fl_add_61 : decode b_Fl_add 61 = .ok (.aload_n 0, 1) := by decide +kernel
theorem d_Fl_add_62 : decode b_Fl_add 62 = .ok (.iload 6, 2) := by decide +kernel
theorem d_Fl_add_64 : decode b_Fl_add 64 = .ok (.iconst 1, 1) := by decide +kernel
theorem d_Fl_add_65 : decode b_Fl_add 65 = .ok (.iadd, 1) := by decide +kernel
theorem d_Fl_add_66 : decode b_Fl_add 66 = .ok (.putfield 27, 3) := by decide +kernel
theorem d_Fl_add_69 : decode b_Fl_add 69 = .ok (.iload 6, 2) := by decide +kernel
theorem d_Fl_add_71 : decode b_Fl_add 71 = .ok (.ireturn, 1) := by decide +kernel
theorem d_Fl_all_0 : decode b_Fl_all 0 = .ok (.iconst 1, 1) := by decide +kernel
theorem d_Fl_all_1 : decode b_Fl_all 1 = .ok (.aload_n 0, 1) := by decide +kernel
theorem d_Fl_all_2 : decode b_Fl_all 2 = .ok (.getfield 27, 3) := by decide +kernel
theorem d_Fl_all_5 : decode b_Fl_all 5 = .ok (.ishl, 1) := by decide +kernel
theorem d_Fl_all_6 : decode b_Fl_all 6 = .ok (.iconst 1, 1) := by decide +kernel
theorem d_Fl_all_7 : decode b_Fl_all 7 = .ok (.isub, 1) := by decide +kernel
theorem d_Fl_all_8 : decode b_Fl_all 8 = .ok (.ireturn, 1) := by decide +kernel
theorem d_Fl_arrival_0 : decode b_Fl_arrival 0 = .ok (.aload_n 0, 1) := by decide +kernel
theorem d_Fl_arrival_1 : decode b_Fl_arrival 1 = .ok (.iload_n 1, 1) := by decide +kernel
theorem d_Fl_arrival_2 : decode b_Fl_arrival 2 = .ok (.invokevirtual 31, 3) := by decide +kernel
theorem d_Fl_arrival_5 : decode b_Fl_arrival 5 = .ok (.ifCond .eq 12, 3) := by decide +kernel
theorem d_Fl_arrival_8 : decode b_Fl_arrival 8 = .ok (.aload_n 0, 1) := by decide +kernel
theorem d_Fl_arrival_9 : decode b_Fl_arrival 9 = .ok (.getfield 18, 3) := by decide +kernel
theorem d_Fl_arrival_12 : decode b_Fl_arrival 12 = .ok (.iload_n 1, 1) := by decide +kernel
theorem d_Fl_arrival_13 : decode b_Fl_arrival 13 = .ok (.iaload, 1) := by decide +kernel
theorem d_Fl_arrival_14 : decode b_Fl_arrival 14 = .ok (.goto 4, 3) := by decide +kernel
theorem d_Fl_arrival_17 : decode b_Fl_arrival 17 = .ok (.iconst 0, 1) := by decide +kernel
theorem d_Fl_arrival_18 : decode b_Fl_arrival 18 = .ok (.ireturn, 1) := by decide +kernel
theorem d_Fl_comesBehind_0 : decode b_Fl_comesBehind 0 = .ok (.aload_n 0, 1) := by decide +kernel
theorem d_Fl_comesBehind_1 : decode b_Fl_comesBehind 1 = .ok (.iload_n 1, 1) := by decide +kernel
theorem d_Fl_comesBehind_2 : decode b_Fl_comesBehind 2 = .ok (.invokevirtual 31, 3) := by decide +kernel
theorem d_Fl_comesBehind_5 : decode b_Fl_comesBehind 5 = .ok (.ifCond .eq 26, 3) := by decide +kernel
theorem d_Fl_comesBehind_8 : decode b_Fl_comesBehind 8 = .ok (.aload_n 0, 1) := by decide +kernel
theorem d_Fl_comesBehind_9 : decode b_Fl_comesBehind 9 = .ok (.iload_n 2, 1) := by decide +kernel
theorem d_Fl_comesBehind_10 : decode b_Fl_comesBehind 10 = .ok (.invokevirtual 31, 3) := by decide +kernel
theorem d_Fl_comesBehind_13 : decode b_Fl_comesBehind 13 = .ok (.ifCond .eq 18, 3) := by decide +kernel
theorem d_Fl_comesBehind_16 : decode b_Fl_comesBehind 16 = .ok (.aload_n 0, 1) := by decide +kernel
theorem d_Fl_comesBehind_17 : decode b_Fl_comesBehind 17 = .ok (.getfield 21, 3) := by decide +kernel
theorem d_Fl_comesBehind_20 : decode b_Fl_comesBehind 20 = .ok (.iload_n 1, 1) := by decide +kernel
theorem d_Fl_comesBehind_21 : decode b_Fl_comesBehind 21 = .ok (.iaload, 1) := by decide +kernel
theorem d_Fl_comesBehind_22 : decode b_Fl_comesBehind 22 = .ok (.aload_n 0, 1) := by decide +kernel
theorem d_Fl_comesBehind_23 : decode b_Fl_comesBehind 23 = .ok (.getfield 21, 3) := by decide +kernel
theorem d_Fl_comesBehind_26 : decode b_Fl_comesBehind 26 = .ok (.iload_n 2, 1) := by decide +kernel
theorem d_Fl_comesBehind_27 : decode b_Fl_comesBehind 27 = .ok (.iaload, 1) := by decide +kernel
theorem d_Fl_comesBehind_28 : decode b_Fl_comesBehind 28 = .ok (.if_icmp .eq 5, 3) := by decide +kernel
theorem d_Fl_comesBehind_31 : decode b_Fl_comesBehind 31 = .ok (.iconst 0, 1) := by decide +kernel
theorem d_Fl_comesBehind_32 : decode b_Fl_comesBehind 32 = .ok (.ireturn, 1) := by decide +kernel
theorem d_Fl_comesBehind_33 : decode b_Fl_comesBehind 33 = .ok (.aload_n 0, 1) := by decide +kernel
theorem d_Fl_comesBehind_34 : decode b_Fl_comesBehind 34 = .ok (.getfield 18, 3) := by decide +kernel
theorem d_Fl_comesBehind_37 : decode b_Fl_comesBehind 37 = .ok (.iload_n 1, 1) := by decide +kernel
theorem d_Fl_comesBehind_38 : decode b_Fl_comesBehind 38 = .ok (.iaload, 1) := by decide +kernel
theorem d_Fl_comesBehind_39 : decode b_Fl_comesBehind 39 = .ok (.aload_n 0, 1) := by decide +kernel
theorem d_Fl_comesBehind_40 : decode b_Fl_comesBehind 40 = .ok (.getfield 18, 3) := by decide +kernel
theorem d_Fl_comesBehind_43 : decode b_Fl_comesBehind 43 = .ok (.iload_n 2, 1) := by decide +kernel
theorem d_Fl_comesBehind_44 : decode b_Fl_comesBehind 44 = .ok (.iaload, 1) := by decide +kernel
theorem d_Fl_comesBehind_45 : decode b_Fl_comesBehind 45 = .ok (.if_icmp .gt 23, 3) := by decide +kernel
theorem d_Fl_comesBehind_48 : decode b_Fl_comesBehind 48 = .ok (.aload_n 0, 1) := by decide +kernel
theorem d_Fl_comesBehind_49 : decode b_Fl_comesBehind 49 = .ok (.getfield 18, 3) := by decide +kernel
theorem d_Fl_comesBehind_52 : decode b_Fl_comesBehind 52 = .ok (.iload_n 1, 1) := by decide +kernel
theorem d_Fl_comesBehind_53 : decode b_Fl_comesBehind 53 = .ok (.iaload, 1) := by decide +kernel
theorem d_Fl_comesBehind_54 : decode b_Fl_comesBehind 54 = .ok (.aload_n 0, 1) := by decide +kernel
theorem d_Fl_comesBehind_55 : decode b_Fl_comesBehind 55 = .ok (.getfield 18, 3) := by decide +kernel
theorem d_Fl_comesBehind_58 : decode b_Fl_comesBehind 58 = .ok (.iload_n 2, 1) := by decide +kernel
theorem d_Fl_comesBehind_59 : decode b_Fl_comesBehind 59 = .ok (.iaload, 1) := by decide +kernel
theorem d_Fl_comesBehind_60 : decode b_Fl_comesBehind 60 = .ok (.if_icmp .ne 12, 3) := by decide +kernel
theorem d_Fl_comesBehind_63 : decode b_Fl_comesBehind 63 = .ok (.iload_n 1, 1) := by decide +kernel
theorem d_Fl_comesBehind_64 : decode b_Fl_comesBehind 64 = .ok (.iload_n 2, 1) := by decide +kernel
theorem d_Fl_comesBehind_65 : decode b_Fl_comesBehind 65 = .ok (.if_icmp .le 7, 3) := by decide +kernel
theorem d_Fl_comesBehind_68 : decode b_Fl_comesBehind 68 = .ok (.iconst 1, 1) := by decide +kernel
theorem d_Fl_comesBehind_69 : decode b_Fl_comesBehind 69 = .ok (.goto 4, 3) := by decide +kernel
theorem d_Fl_comesBehind_72 : decode b_Fl_comesBehind 72 = .ok (.iconst 0, 1) := by decide +kernel
theorem d_Fl_comesBehind_73 : decode b_Fl_comesBehind 73 = .ok (.ireturn, 1) := by decide +kernel
theorem d_Fl_commonDirection_0 : decode b_Fl_commonDirection 0 = .ok (.iconst (-1), 1) := by decide +kernel
theorem d_Fl_commonDirection_1 : decode b_Fl_commonDirection 1 = .ok (.istore_n 2, 1) := by decide +kernel
theorem d_Fl_commonDirection_2 : decode b_Fl_commonDirection 2 = .ok (.iconst 0, 1) := by decide +kernel
theorem d_Fl_commonDirection_3 : decode b_Fl_commonDirection 3 = .ok (.istore_n 3, 1) := by decide +kernel
theorem d_Fl_commonDirection_4 : decode b_Fl_commonDirection 4 = .ok (.iload_n 3, 1) := by decide +kernel
theorem d_Fl_commonDirection_5 : decode b_Fl_commonDirection 5 = .ok (.iconst 4, 1) := by decide +kernel
theorem d_Fl_commonDirection_6 : decode b_Fl_commonDirection 6 = .ok (.if_icmp .ge 41, 3) := by decide +kernel
theorem d_Fl_commonDirection_9 : decode b_Fl_commonDirection 9 = .ok (.iload_n 1, 1) := by decide +kernel
theorem d_Fl_commonDirection_10 : decode b_Fl_commonDirection 10 = .ok (.iload_n 3, 1) := by decide +kernel
theorem d_Fl_commonDirection_11 : decode b_Fl_commonDirection 11 = .ok (.invokestatic 35, 3) := by decide +kernel
theorem d_Fl_commonDirection_14 : decode b_Fl_commonDirection 14 = .ok (.ifCond .eq 27, 3) := by decide +kernel
theorem d_Fl_commonDirection_17 : decode b_Fl_commonDirection 17 = .ok (.iload_n 2, 1) := by decide +kernel
theorem d_Fl_commonDirection_18 : decode b_Fl_commonDirection 18 = .ok (.iconst (-1), 1) := by decide +kernel
theorem d_Fl_commonDirection_19 : decode b_Fl_commonDirection 19 = .ok (.if_icmp .eq 15, 3) := by decide +kernel
theorem d_Fl_commonDirection_22 : decode b_Fl_commonDirection 22 = .ok (.iload_n 2, 1) := by decide +kernel
theorem d_Fl_commonDirection_23 : decode b_Fl_commonDirection 23 = .ok (.aload_n 0, 1) := by decide +kernel
theorem d_Fl_commonDirection_24 : decode b_Fl_commonDirection 24 = .ok (.getfield 21, 3) := by decide +kernel
theorem d_Fl_commonDirection_27 : decode b_Fl_commonDirection 27 = .ok (.iload_n 3, 1) := by decide +kernel
theorem d_Fl_commonDirection_28 : decode b_Fl_commonDirection 28 = .ok (.iaload, 1) := by decide +kernel
theorem d_Fl_commonDirection_29 : decode b_Fl_commonDirection 29 = .ok (.if_icmp .eq 5, 3) := by decide +kernel
theorem d_Fl_commonDirection_32 : decode b_Fl_commonDirection 32 = .ok (.iconst (-1), 1) := by decide +kernel
theorem d_Fl_commonDirection_33 : decode b_Fl_commonDirection 33 = .ok (.ireturn, 1) := by decide +kernel
theorem d_Fl_commonDirection_34 : decode b_Fl_commonDirection 34 = .ok (.aload_n 0, 1) := by decide +kernel
theorem d_Fl_commonDirection_35 : decode b_Fl_commonDirection 35 = .ok (.getfield 21, 3) := by decide +kernel
theorem d_Fl_commonDirection_38 : decode b_Fl_commonDirection 38 = .ok (.iload_n 3, 1) := by decide +kernel
theorem d_Fl_commonDirection_39 : decode b_Fl_commonDirection 39 = .ok (.iaload, 1) := by decide +kernel
theorem d_Fl_commonDirection_40 : decode b_Fl_commonDirection 40 = .ok (.istore_n 2, 1) := by decide +kernel
theorem d_Fl_commonDirection_41 : decode b_Fl_commonDirection 41 = .ok (.iinc 3 1, 3) := by decide +kernel
theorem d_Fl_commonDirection_44 : decode b_Fl_commonDirection 44 = .ok (.goto (-40), 3) := by decide +kernel
theorem d_Fl_commonDirection_47 : decode b_Fl_commonDirection 47 = .ok (.iload_n 2, 1) := by decide +kernel
theorem d_Fl_commonDirection_48 : decode b_Fl_commonDirection 48 = .ok (.ireturn, 1) := by decide +kernel
theorem d_Fl_has_0 : decode b_Fl_has 0 = .ok (.iload_n 1, 1) := by decide +kernel
theorem d_Fl_has_1 : decode b_Fl_has 1 = .ok (.ifCond .lt 20, 3) := by decide +kernel
theorem d_Fl_has_4 : decode b_Fl_has 4 = .ok (.iload_n 1, 1) := by decide +kernel
theorem d_Fl_has_5 : decode b_Fl_has 5 = .ok (.aload_n 0, 1) := by decide +kernel
theorem d_Fl_has_6 : decode b_Fl_has 6 = .ok (.getfield 27, 3) := by decide +kernel
theorem d_Fl_has_9 : decode b_Fl_has 9 = .ok (.if_icmp .ge 12, 3) := by decide +kernel
theorem d_Fl_has_12 : decode b_Fl_has 12 = .ok (.iload_n 1, 1) := by decide +kernel
theorem d_Fl_has_13 : decode b_Fl_has 13 = .ok (.iconst 4, 1) := by decide +kernel
theorem d_Fl_has_14 : decode b_Fl_has 14 = .ok (.if_icmp .ge 7, 3) := by decide +kernel
theorem d_Fl_has_17 : decode b_Fl_has 17 = .ok (.iconst 1, 1) := by decide +kernel
theorem d_Fl_has_18 : decode b_Fl_has 18 = .ok (.goto 4, 3) := by decide +kernel
theorem d_Fl_has_21 : decode b_Fl_has 21 = .ok (.iconst 0, 1) := by decide +kernel
theorem d_Fl_has_22 : decode b_Fl_has 22 = .ok (.ireturn, 1) := by decide +kernel
theorem d_Fl_lastArrival_0 : decode b_Fl_lastArrival 0 = .ok (.iconst 0, 1) := by decide +kernel
theorem d_Fl_lastArrival_1 : decode b_Fl_lastArrival 1 = .ok (.istore_n 2, 1) := by decide +kernel
theorem d_Fl_lastArrival_2 : decode b_Fl_lastArrival 2 = .ok (.iconst 0, 1) := by decide +kernel
theorem d_Fl_lastArrival_3 : decode b_Fl_lastArrival 3 = .ok (.istore_n 3, 1) := by decide +kernel
theorem d_Fl_lastArrival_4 : decode b_Fl_lastArrival 4 = .ok (.iload_n 3, 1) := by decide +kernel
theorem d_Fl_lastArrival_5 : decode b_Fl_lastArrival 5 = .ok (.iconst 4, 1) := by decide +kernel
theorem d_Fl_lastArrival_6 : decode b_Fl_lastArrival 6 = .ok (.if_icmp .ge 28, 3) := by decide +kernel
theorem d_Fl_lastArrival_9 : decode b_Fl_lastArrival 9 = .ok (.iload_n 1, 1) := by decide +kernel
theorem d_Fl_lastArrival_10 : decode b_Fl_lastArrival 10 = .ok (.iload_n 3, 1) := by decide +kernel
theorem d_Fl_lastArrival_11 : decode b_Fl_lastArrival 11 = .ok (.invokestatic 35, 3) := by decide +kernel
theorem d_Fl_lastArrival_14 : decode b_Fl_lastArrival 14 = .ok (.ifCond .eq 14, 3) := by decide +kernel
theorem d_Fl_lastArrival_17 : decode b_Fl_lastArrival 17 = .ok (.iload_n 2, 1) := by decide +kernel
theorem d_Fl_lastArrival_18 : decode b_Fl_lastArrival 18 = .ok (.aload_n 0, 1) := by decide +kernel
theorem d_Fl_lastArrival_19 : decode b_Fl_lastArrival 19 = .ok (.getfield 18, 3) := by decide +kernel
theorem d_Fl_lastArrival_22 : decode b_Fl_lastArrival 22 = .ok (.iload_n 3, 1) := by decide +kernel
theorem d_Fl_lastArrival_23 : decode b_Fl_lastArrival 23 = .ok (.iaload, 1) := by decide +kernel
theorem d_Fl_lastArrival_24 : decode b_Fl_lastArrival 24 = .ok (.invokestatic 39, 3) := by decide +kernel
theorem d_Fl_lastArrival_27 : decode b_Fl_lastArrival 27 = .ok (.istore_n 2, 1) := by decide +kernel
theorem d_Fl_lastArrival_28 : decode b_Fl_lastArrival 28 = .ok (.iinc 3 1, 3) := by decide +kernel
theorem d_Fl_lastArrival_31 : decode b_Fl_lastArrival 31 = .ok (.goto (-27), 3) := by decide +kernel
theorem d_Fl_lastArrival_34 : decode b_Fl_lastArrival 34 = .ok (.iload_n 2, 1) := by decide +kernel
theorem d_Fl_lastArrival_35 : decode b_Fl_lastArrival 35 = .ok (.ireturn, 1) := by decide +kernel
theorem d_Fl_length_0 : decode b_Fl_length 0 = .ok (.aload_n 0, 1) := by decide +kernel
theorem d_Fl_length_1 : decode b_Fl_length 1 = .ok (.iload_n 1, 1) := by decide +kernel
theorem d_Fl_length_2 : decode b_Fl_length 2 = .ok (.invokevirtual 31, 3) := by decide +kernel
theorem d_Fl_length_5 : decode b_Fl_length 5 = .ok (.ifCond .eq 12, 3) := by decide +kernel
theorem d_Fl_length_8 : decode b_Fl_length 8 = .ok (.aload_n 0, 1) := by decide +kernel
theorem d_Fl_length_9 : decode b_Fl_length 9 = .ok (.getfield 9, 3) := by decide +kernel
theorem d_Fl_length_12 : decode b_Fl_length 12 = .ok (.iload_n 1, 1) := by decide +kernel
theorem d_Fl_length_13 : decode b_Fl_length 13 = .ok (.iaload, 1) := by decide +kernel
theorem d_Fl_length_14 : decode b_Fl_length 14 = .ok (.goto 4, 3) := by decide +kernel
theorem d_Fl_length_17 : decode b_Fl_length 17 = .ok (.iconst 0, 1) := by decide +kernel
theorem d_Fl_length_18 : decode b_Fl_length 18 = .ok (.ireturn, 1) := by decide +kernel
theorem d_Fl_setArrival_0 : decode b_Fl_setArrival 0 = .ok (.aload_n 0, 1) := by decide +kernel
theorem d_Fl_setArrival_1 : decode b_Fl_setArrival 1 = .ok (.iload_n 1, 1) := by decide +kernel
theorem d_Fl_setArrival_2 : decode b_Fl_setArrival 2 = .ok (.invokevirtual 31, 3) := by decide +kernel
theorem d_Fl_setArrival_5 : decode b_Fl_setArrival 5 = .ok (.ifCond .eq 10, 3) := by decide +kernel
theorem d_Fl_setArrival_8 : decode b_Fl_setArrival 8 = .ok (.aload_n 0, 1) := by decide +kernel
theorem d_Fl_setArrival_9 : decode b_Fl_setArrival 9 = .ok (.getfield 18, 3) := by decide +kernel
theorem d_Fl_setArrival_12 : decode b_Fl_setArrival 12 = .ok (.iload_n 1, 1) := by decide +kernel
theorem d_Fl_setArrival_13 : decode b_Fl_setArrival 13 = .ok (.iload_n 2, 1) := by decide +kernel
theorem d_Fl_setArrival_14 : decode b_Fl_setArrival 14 = .ok (.iastore, 1) := by decide +kernel
theorem d_Fl_setArrival_15 : decode b_Fl_setArrival 15 = .ok (.return_, 1) := by decide +kernel
theorem d_Fl_side_0 : decode b_Fl_side 0 = .ok (.aload_n 0, 1) := by decide +kernel
theorem d_Fl_side_1 : decode b_Fl_side 1 = .ok (.iload_n 1, 1) := by decide +kernel
theorem d_Fl_side_2 : decode b_Fl_side 2 = .ok (.invokevirtual 31, 3) := by decide +kernel
theorem d_Fl_side_5 : decode b_Fl_side 5 = .ok (.ifCond .eq 12, 3) := by decide +kernel
theorem d_Fl_side_8 : decode b_Fl_side 8 = .ok (.aload_n 0, 1) := by decide +kernel
theorem d_Fl_side_9 : decode b_Fl_side 9 = .ok (.getfield 24, 3) := by decide +kernel
end
section
theorem d_Fl_side_12 : decode b_Fl_side 12 = .ok (.iload_n 1, 1) := by decide +kernel
theorem d_Fl_side_13 : decode b_Fl_side 13 = .ok (.iaload, 1) := by decide +kernel
theorem d_Fl_side_14 : decode b_Fl_side 14 = .ok (.goto 4, 3) := by decide +kernel
theorem d_Fl_side_17 : decode b_Fl_side 17 = .ok (.iconst 2, 1) := by decide +kernel
theorem d_Fl_side_18 : decode b_Fl_side 18 = .ok (.ireturn, 1) := by decide +kernel
theorem d_Fl_size_0 : decode b_Fl_size 0 = .ok (.aload_n 0, 1) := by decide +kernel
theorem d_Fl_size_1 : decode b_Fl_size 1 = .ok (.getfield 27, 3) := by decide +kernel
theorem d_Fl_size_4 : decode b_Fl_size 4 = .ok (.ireturn, 1) := by decide +kernel
theorem d_Fl_waiting_0 : decode b_Fl_waiting 0 = .ok (.iconst 0, 1) := by decide +kernel
theorem d_Fl_waiting_1 : decode b_Fl_waiting 1 = .ok (.istore_n 3, 1) := by decide +kernel
theorem d_Fl_waiting_2 : decode b_Fl_waiting 2 = .ok (.iconst 0, 1) := by decide +kernel
theorem d_Fl_waiting_3 : decode b_Fl_waiting 3 = .ok (.istore 4, 2) := by decide +kernel
theorem d_Fl_waiting_5 : decode b_Fl_waiting 5 = .ok (.iload 4, 2) := by decide +kernel
theorem d_Fl_waiting_7 : decode b_Fl_waiting 7 = .ok (.iconst 4, 1) := by decide +kernel
theorem d_Fl_waiting_8 : decode b_Fl_waiting 8 = .ok (.if_icmp .ge 30, 3) := by decide +kernel
theorem d_Fl_waiting_11 : decode b_Fl_waiting 11 = .ok (.iload_n 1, 1) := by decide +kernel
theorem d_Fl_waiting_12 : decode b_Fl_waiting 12 = .ok (.iload 4, 2) := by decide +kernel
theorem d_Fl_waiting_14 : decode b_Fl_waiting 14 = .ok (.invokestatic 35, 3) := by decide +kernel
theorem d_Fl_waiting_17 : decode b_Fl_waiting 17 = .ok (.ifCond .eq 15, 3) := by decide +kernel
theorem d_Fl_waiting_20 : decode b_Fl_waiting 20 = .ok (.iload_n 3, 1) := by decide +kernel
theorem d_Fl_waiting_21 : decode b_Fl_waiting 21 = .ok (.iload_n 2, 1) := by decide +kernel
theorem d_Fl_waiting_22 : decode b_Fl_waiting 22 = .ok (.aload_n 0, 1) := by decide +kernel
theorem d_Fl_waiting_23 : decode b_Fl_waiting 23 = .ok (.getfield 18, 3) := by decide +kernel
theorem d_Fl_waiting_26 : decode b_Fl_waiting 26 = .ok (.iload 4, 2) := by decide +kernel
theorem d_Fl_waiting_28 : decode b_Fl_waiting 28 = .ok (.iaload, 1) := by decide +kernel
theorem d_Fl_waiting_29 : decode b_Fl_waiting 29 = .ok (.isub, 1) := by decide +kernel
theorem d_Fl_waiting_30 : decode b_Fl_waiting 30 = .ok (.iadd, 1) := by decide +kernel
theorem d_Fl_waiting_31 : decode b_Fl_waiting 31 = .ok (.istore_n 3, 1) := by decide +kernel
theorem d_Fl_waiting_32 : decode b_Fl_waiting 32 = .ok (.iinc 4 1, 3) := by decide +kernel
theorem d_Fl_waiting_35 : decode b_Fl_waiting 35 = .ok (.goto (-30), 3) := by decide +kernel
theorem d_Fl_waiting_38 : decode b_Fl_waiting 38 = .ok (.iload_n 3, 1) := by decide +kernel
theorem d_Fl_waiting_39 : decode b_Fl_waiting 39 = .ok (.ireturn, 1) := by decide +kernel
theorem d_Fl_width_0 : decode b_Fl_width 0 = .ok (.aload_n 0, 1) := by decide +kernel
theorem d_Fl_width_1 : decode b_Fl_width 1 = .ok (.iload_n 1, 1) := by decide +kernel
theorem d_Fl_width_2 : decode b_Fl_width 2 = .ok (.invokevirtual 31, 3) := by decide +kernel
theorem d_Fl_width_5 : decode b_Fl_width 5 = .ok (.ifCond .eq 12, 3) := by decide +kernel
theorem d_Fl_width_8 : decode b_Fl_width 8 = .ok (.aload_n 0, 1) := by decide +kernel
theorem d_Fl_width_9 : decode b_Fl_width 9 = .ok (.getfield 15, 3) := by decide +kernel
theorem d_Fl_width_12 : decode b_Fl_width 12 = .ok (.iload_n 1, 1) := by decide +kernel
theorem d_Fl_width_13 : decode b_Fl_width 13 = .ok (.iaload, 1) := by decide +kernel
theorem d_Fl_width_14 : decode b_Fl_width 14 = .ok (.goto 4, 3) := by decide +kernel
theorem d_Fl_width_17 : decode b_Fl_width 17 = .ok (.iconst 0, 1) := by decide +kernel
theorem d_Fl_width_18 : decode b_Fl_width 18 = .ok (.ireturn, 1) := by decide +kernel
theorem d_Pl_canRun_0 : decode b_Pl_canRun 0 = .ok (.aload_n 0, 1) := by decide +kernel
theorem d_Pl_canRun_1 : decode b_Pl_canRun 1 = .ok (.getfield 32, 3) := by decide +kernel
theorem d_Pl_canRun_4 : decode b_Pl_canRun 4 = .ok (.iload_n 2, 1) := by decide +kernel
theorem d_Pl_canRun_5 : decode b_Pl_canRun 5 = .ok (.invokevirtual 83, 3) := by decide +kernel
theorem d_Pl_canRun_8 : decode b_Pl_canRun 8 = .ok (.iconst (-1), 1) := by decide +kernel
theorem d_Pl_canRun_9 : decode b_Pl_canRun 9 = .ok (.if_icmp .eq 19, 3) := by decide +kernel
theorem d_Pl_canRun_12 : decode b_Pl_canRun 12 = .ok (.aload_n 0, 1) := by decide +kernel
theorem d_Pl_canRun_13 : decode b_Pl_canRun 13 = .ok (.getfield 36, 3) := by decide +kernel
theorem d_Pl_canRun_16 : decode b_Pl_canRun 16 = .ok (.iload_n 1, 1) := by decide +kernel
theorem d_Pl_canRun_17 : decode b_Pl_canRun 17 = .ok (.iload_n 2, 1) := by decide +kernel
theorem d_Pl_canRun_18 : decode b_Pl_canRun 18 = .ok (.invokevirtual 104, 3) := by decide +kernel
theorem d_Pl_canRun_21 : decode b_Pl_canRun 21 = .ok (.ifCond .eq 7, 3) := by decide +kernel
theorem d_Pl_canRun_24 : decode b_Pl_canRun 24 = .ok (.iconst 1, 1) := by decide +kernel
theorem d_Pl_canRun_25 : decode b_Pl_canRun 25 = .ok (.goto 4, 3) := by decide +kernel
theorem d_Pl_canRun_28 : decode b_Pl_canRun 28 = .ok (.iconst 0, 1) := by decide +kernel
theorem d_Pl_canRun_29 : decode b_Pl_canRun 29 = .ok (.ireturn, 1) := by decide +kernel
theorem d_Pl_forget_0 : decode b_Pl_forget 0 = .ok (.aload_n 0, 1) := by decide +kernel
theorem d_Pl_forget_1 : decode b_Pl_forget 1 = .ok (.iconst 0, 1) := by decide +kernel
theorem d_Pl_forget_2 : decode b_Pl_forget 2 = .ok (.putfield 40, 3) := by decide +kernel
theorem d_Pl_forget_5 : decode b_Pl_forget 5 = .ok (.return_, 1) := by decide +kernel
theorem d_Pl_hasPlan_0 : decode b_Pl_hasPlan 0 = .ok (.aload_n 0, 1) := by decide +kernel
theorem d_Pl_hasPlan_1 : decode b_Pl_hasPlan 1 = .ok (.getfield 40, 3) := by decide +kernel
theorem d_Pl_hasPlan_4 : decode b_Pl_hasPlan 4 = .ok (.ireturn, 1) := by decide +kernel
theorem d_Pl_keepForComparison_0 : decode b_Pl_keepForComparison 0 = .ok (.aload_n 0, 1) := by decide +kernel
theorem d_Pl_keepForComparison_1 : decode b_Pl_keepForComparison 1 = .ok (.getfield 21, 3) := by decide +kernel
theorem d_Pl_keepForComparison_4 : decode b_Pl_keepForComparison 4 = .ok (.aload_n 0, 1) := by decide +kernel
theorem d_Pl_keepForComparison_5 : decode b_Pl_keepForComparison 5 = .ok (.getfield 18, 3) := by decide +kernel
theorem d_Pl_keepForComparison_8 : decode b_Pl_keepForComparison 8 = .ok (.invokevirtual 57, 3) := by decide +kernel
theorem d_Pl_keepForComparison_11 : decode b_Pl_keepForComparison 11 = .ok (.return_, 1) := by decide +kernel
theorem d_Pl_layRunOf_0 : decode b_Pl_layRunOf 0 = .ok (.aload_n 0, 1) := by decide +kernel
theorem d_Pl_layRunOf_1 : decode b_Pl_layRunOf 1 = .ok (.getfield 18, 3) := by decide +kernel
theorem d_Pl_layRunOf_4 : decode b_Pl_layRunOf 4 = .ok (.iload_n 1, 1) := by decide +kernel
theorem d_Pl_layRunOf_5 : decode b_Pl_layRunOf 5 = .ok (.invokevirtual 128, 3) := by decide +kernel
theorem d_Pl_layRunOf_8 : decode b_Pl_layRunOf 8 = .ok (.istore_n 2, 1) := by decide +kernel
theorem d_Pl_layRunOf_9 : decode b_Pl_layRunOf 9 = .ok (.aload_n 0, 1) := by decide +kernel
theorem d_Pl_layRunOf_10 : decode b_Pl_layRunOf 10 = .ok (.getfield 36, 3) := by decide +kernel
theorem d_Pl_layRunOf_13 : decode b_Pl_layRunOf 13 = .ok (.iload_n 2, 1) := by decide +kernel
theorem d_Pl_layRunOf_14 : decode b_Pl_layRunOf 14 = .ok (.aload_n 0, 1) := by decide +kernel
theorem d_Pl_layRunOf_15 : decode b_Pl_layRunOf 15 = .ok (.getfield 18, 3) := by decide +kernel
theorem d_Pl_layRunOf_18 : decode b_Pl_layRunOf 18 = .ok (.iload_n 2, 1) := by decide +kernel
theorem d_Pl_layRunOf_19 : decode b_Pl_layRunOf 19 = .ok (.aload_n 0, 1) := by decide +kernel
theorem d_Pl_layRunOf_20 : decode b_Pl_layRunOf 20 = .ok (.getfield 18, 3) := by decide +kernel
theorem d_Pl_layRunOf_23 : decode b_Pl_layRunOf 23 = .ok (.iload_n 1, 1) := by decide +kernel
theorem d_Pl_layRunOf_24 : decode b_Pl_layRunOf 24 = .ok (.invokevirtual 131, 3) := by decide +kernel
theorem d_Pl_layRunOf_27 : decode b_Pl_layRunOf 27 = .ok (.aload_n 0, 1) := by decide +kernel
theorem d_Pl_layRunOf_28 : decode b_Pl_layRunOf 28 = .ok (.getfield 32, 3) := by decide +kernel
theorem d_Pl_layRunOf_31 : decode b_Pl_layRunOf 31 = .ok (.invokevirtual 48, 3) := by decide +kernel
theorem d_Pl_layRunOf_34 : decode b_Pl_layRunOf 34 = .ok (.invokevirtual 146, 3) := by decide +kernel
theorem d_Pl_layRunOf_37 : decode b_Pl_layRunOf 37 = .ok (.invokevirtual 150, 3) := by decide +kernel
theorem d_Pl_layRunOf_40 : decode b_Pl_layRunOf 40 = .ok (.ireturn, 1) := by decide +kernel
theorem d_Pl_moved_0 : decode b_Pl_moved 0 = .ok (.aload_n 0, 1) := by decide +kernel
theorem d_Pl_moved_1 : decode b_Pl_moved 1 = .ok (.getfield 18, 3) := by decide +kernel
theorem d_Pl_moved_4 : decode b_Pl_moved 4 = .ok (.aload_n 0, 1) := by decide +kernel
theorem d_Pl_moved_5 : decode b_Pl_moved 5 = .ok (.getfield 21, 3) := by decide +kernel
theorem d_Pl_moved_8 : decode b_Pl_moved 8 = .ok (.aload_n 0, 1) := by decide +kernel
theorem d_Pl_moved_9 : decode b_Pl_moved 9 = .ok (.getfield 32, 3) := by decide +kernel
theorem d_Pl_moved_12 : decode b_Pl_moved 12 = .ok (.invokevirtual 48, 3) := by decide +kernel
theorem d_Pl_moved_15 : decode b_Pl_moved 15 = .ok (.invokevirtual 61, 3) := by decide +kernel
theorem d_Pl_moved_18 : decode b_Pl_moved 18 = .ok (.ireturn, 1) := by decide +kernel
theorem d_Pl_offerTrial_0 : decode b_Pl_offerTrial 0 = .ok (.iconst 0, 1) := by decide +kernel
theorem d_Pl_offerTrial_1 : decode b_Pl_offerTrial 1 = .ok (.istore_n 2, 1) := by decide +kernel
theorem d_Pl_offerTrial_2 : decode b_Pl_offerTrial 2 = .ok (.iload_n 2, 1) := by decide +kernel
theorem d_Pl_offerTrial_3 : decode b_Pl_offerTrial 3 = .ok (.aload_n 0, 1) := by decide +kernel
theorem d_Pl_offerTrial_4 : decode b_Pl_offerTrial 4 = .ok (.getfield 32, 3) := by decide +kernel
theorem d_Pl_offerTrial_7 : decode b_Pl_offerTrial 7 = .ok (.invokevirtual 109, 3) := by decide +kernel
theorem d_Pl_offerTrial_10 : decode b_Pl_offerTrial 10 = .ok (.if_icmp .ge 26, 3) := by decide +kernel
theorem d_Pl_offerTrial_13 : decode b_Pl_offerTrial 13 = .ok (.aload_n 0, 1) := by decide +kernel
theorem d_Pl_offerTrial_14 : decode b_Pl_offerTrial 14 = .ok (.aload_n 0, 1) := by decide +kernel
theorem d_Pl_offerTrial_15 : decode b_Pl_offerTrial 15 = .ok (.getfield 12, 3) := by decide +kernel
theorem d_Pl_offerTrial_18 : decode b_Pl_offerTrial 18 = .ok (.iload_n 2, 1) := by decide +kernel
theorem d_Pl_offerTrial_19 : decode b_Pl_offerTrial 19 = .ok (.invokevirtual 112, 3) := by decide +kernel
theorem d_Pl_offerTrial_22 : decode b_Pl_offerTrial 22 = .ok (.aload_n 0, 1) := by decide +kernel
theorem d_Pl_offerTrial_23 : decode b_Pl_offerTrial 23 = .ok (.getfield 24, 3) := by decide +kernel
theorem d_Pl_offerTrial_26 : decode b_Pl_offerTrial 26 = .ok (.if_icmp .le 4, 3) := by decide +kernel
theorem d_Pl_offerTrial_29 : decode b_Pl_offerTrial 29 = .ok (.return_, 1) := by decide +kernel
theorem d_Pl_offerTrial_30 : decode b_Pl_offerTrial 30 = .ok (.iinc 2 1, 3) := by decide +kernel
theorem d_Pl_offerTrial_33 : decode b_Pl_offerTrial 33 = .ok (.goto (-31), 3) := by decide +kernel
theorem d_Pl_offerTrial_36 : decode b_Pl_offerTrial 36 = .ok (.aload_n 0, 1) := by decide +kernel
theorem d_Pl_offerTrial_37 : decode b_Pl_offerTrial 37 = .ok (.getfield 12, 3) := by decide +kernel
theorem d_Pl_offerTrial_40 : decode b_Pl_offerTrial 40 = .ok (.iload_n 1, 1) := by decide +kernel
theorem d_Pl_offerTrial_41 : decode b_Pl_offerTrial 41 = .ok (.invokevirtual 115, 3) := by decide +kernel
theorem d_Pl_offerTrial_44 : decode b_Pl_offerTrial 44 = .ok (.aload_n 0, 1) := by decide +kernel
theorem d_Pl_offerTrial_45 : decode b_Pl_offerTrial 45 = .ok (.getfield 40, 3) := by decide +kernel
theorem d_Pl_offerTrial_48 : decode b_Pl_offerTrial 48 = .ok (.ifCond .eq 24, 3) := by decide +kernel
theorem d_Pl_offerTrial_51 : decode b_Pl_offerTrial 51 = .ok (.aload_n 0, 1) := by decide +kernel
theorem d_Pl_offerTrial_52 : decode b_Pl_offerTrial 52 = .ok (.getfield 12, 3) := by decide +kernel
theorem d_Pl_offerTrial_55 : decode b_Pl_offerTrial 55 = .ok (.aload_n 0, 1) := by decide +kernel
theorem d_Pl_offerTrial_56 : decode b_Pl_offerTrial 56 = .ok (.getfield 18, 3) := by decide +kernel
theorem d_Pl_offerTrial_59 : decode b_Pl_offerTrial 59 = .ok (.aload_n 0, 1) := by decide +kernel
theorem d_Pl_offerTrial_60 : decode b_Pl_offerTrial 60 = .ok (.getfield 32, 3) := by decide +kernel
theorem d_Pl_offerTrial_63 : decode b_Pl_offerTrial 63 = .ok (.invokevirtual 48, 3) := by decide +kernel
theorem d_Pl_offerTrial_66 : decode b_Pl_offerTrial 66 = .ok (.invokevirtual 118, 3) := by decide +kernel
theorem d_Pl_offerTrial_69 : decode b_Pl_offerTrial 69 = .ok (.ifCond .eq 19, 3) := by decide +kernel
theorem d_Pl_offerTrial_72 : decode b_Pl_offerTrial 72 = .ok (.aload_n 0, 1) := by decide +kernel
theorem d_Pl_offerTrial_73 : decode b_Pl_offerTrial 73 = .ok (.getfield 18, 3) := by decide +kernel
theorem d_Pl_offerTrial_76 : decode b_Pl_offerTrial 76 = .ok (.aload_n 0, 1) := by decide +kernel
theorem d_Pl_offerTrial_77 : decode b_Pl_offerTrial 77 = .ok (.getfield 12, 3) := by decide +kernel
theorem d_Pl_offerTrial_80 : decode b_Pl_offerTrial 80 = .ok (.invokevirtual 57, 3) := by decide +kernel
theorem d_Pl_offerTrial_83 : decode b_Pl_offerTrial 83 = .ok (.aload_n 0, 1) := by decide +kernel
theorem d_Pl_offerTrial_84 : decode b_Pl_offerTrial 84 = .ok (.iconst 1, 1) := by decide +kernel
theorem d_Pl_offerTrial_85 : decode b_Pl_offerTrial 85 = .ok (.putfield 40, 3) := by decide +kernel
theorem d_Pl_offerTrial_88 : decode b_Pl_offerTrial 88 = .ok (.return_, 1) := by decide +kernel
theorem d_Pl_over_0 : decode b_Pl_over 0 = .ok (.aload_n 0, 1) := by decide +kernel
theorem d_Pl_over_1 : decode b_Pl_over 1 = .ok (.getfield 24, 3) := by decide +kernel
theorem d_Pl_over_4 : decode b_Pl_over 4 = .ok (.ireturn, 1) := by decide +kernel
theorem d_Pl_overtaken_0 : decode b_Pl_overtaken 0 = .ok (.iconst 0, 1) := by decide +kernel
theorem d_Pl_overtaken_1 : decode b_Pl_overtaken 1 = .ok (.istore_n 3, 1) := by decide +kernel
theorem d_Pl_overtaken_2 : decode b_Pl_overtaken 2 = .ok (.iconst 0, 1) := by decide +kernel
theorem d_Pl_overtaken_3 : decode b_Pl_overtaken 3 = .ok (.istore 4, 2) := by decide +kernel
theorem d_Pl_overtaken_5 : decode b_Pl_overtaken 5 = .ok (.iload 4, 2) := by decide +kernel
theorem d_Pl_overtaken_7 : decode b_Pl_overtaken 7 = .ok (.aload_n 0, 1) := by decide +kernel
theorem d_Pl_overtaken_8 : decode b_Pl_overtaken 8 = .ok (.getfield 32, 3) := by decide +kernel
theorem d_Pl_overtaken_11 : decode b_Pl_overtaken 11 = .ok (.invokevirtual 109, 3) := by decide +kernel
theorem d_Pl_overtaken_14 : decode b_Pl_overtaken 14 = .ok (.if_icmp .ge 39, 3) := by decide +kernel
theorem d_Pl_overtaken_17 : decode b_Pl_overtaken 17 = .ok (.aload_n 0, 1) := by decide +kernel
theorem d_Pl_overtaken_18 : decode b_Pl_overtaken 18 = .ok (.getfield 32, 3) := by decide +kernel
theorem d_Pl_overtaken_21 : decode b_Pl_overtaken 21 = .ok (.iload 4, 2) := by decide +kernel
theorem d_Pl_overtaken_23 : decode b_Pl_overtaken 23 = .ok (.iload_n 2, 1) := by decide +kernel
theorem d_Pl_overtaken_24 : decode b_Pl_overtaken 24 = .ok (.invokevirtual 122, 3) := by decide +kernel
theorem d_Pl_overtaken_27 : decode b_Pl_overtaken 27 = .ok (.ifCond .eq 20, 3) := by decide +kernel
theorem d_Pl_overtaken_30 : decode b_Pl_overtaken 30 = .ok (.aload_n 1, 1) := by decide +kernel
theorem d_Pl_overtaken_31 : decode b_Pl_overtaken 31 = .ok (.iload 4, 2) := by decide +kernel
theorem d_Pl_overtaken_33 : decode b_Pl_overtaken 33 = .ok (.invokevirtual 125, 3) := by decide +kernel
theorem d_Pl_overtaken_36 : decode b_Pl_overtaken 36 = .ok (.aload_n 1, 1) := by decide +kernel
theorem d_Pl_overtaken_37 : decode b_Pl_overtaken 37 = .ok (.iload_n 2, 1) := by decide +kernel
theorem d_Pl_overtaken_38 : decode b_Pl_overtaken 38 = .ok (.invokevirtual 125, 3) := by decide +kernel
theorem d_Pl_overtaken_41 : decode b_Pl_overtaken 41 = .ok (.if_icmp .ge 6, 3) := by decide +kernel
theorem d_Pl_overtaken_44 : decode b_Pl_overtaken 44 = .ok (.iinc 3 1, 3) := by decide +kernel
theorem d_Pl_overtaken_47 : decode b_Pl_overtaken 47 = .ok (.iinc 4 1, 3) := by decide +kernel
theorem d_Pl_overtaken_50 : decode b_Pl_overtaken 50 = .ok (.goto (-45), 3) := by decide +kernel
theorem d_Pl_overtaken_53 : decode b_Pl_overtaken 53 = .ok (.iload_n 3, 1) := by decide +kernel
theorem d_Pl_overtaken_54 : decode b_Pl_overtaken 54 = .ok (.ireturn, 1) := by decide +kernel
theorem d_Pl_runs_0 : decode b_Pl_runs 0 = .ok (.iconst 0, 1) := by decide +kernel
theorem d_Pl_runs_1 : decode b_Pl_runs 1 = .ok (.istore_n 2, 1) := by decide +kernel
theorem d_Pl_runs_2 : decode b_Pl_runs 2 = .ok (.iconst 0, 1) := by decide +kernel
theorem d_Pl_runs_3 : decode b_Pl_runs 3 = .ok (.istore_n 3, 1) := by decide +kernel
theorem d_Pl_runs_4 : decode b_Pl_runs 4 = .ok (.iload_n 3, 1) := by decide +kernel
theorem d_Pl_runs_5 : decode b_Pl_runs 5 = .ok (.aload_n 0, 1) := by decide +kernel
theorem d_Pl_runs_6 : decode b_Pl_runs 6 = .ok (.getfield 32, 3) := by decide +kernel
theorem d_Pl_runs_9 : decode b_Pl_runs 9 = .ok (.invokevirtual 109, 3) := by decide +kernel
theorem d_Pl_runs_12 : decode b_Pl_runs 12 = .ok (.if_icmp .ge 36, 3) := by decide +kernel
theorem d_Pl_runs_15 : decode b_Pl_runs 15 = .ok (.aload_n 0, 1) := by decide +kernel
theorem d_Pl_runs_16 : decode b_Pl_runs 16 = .ok (.getfield 18, 3) := by decide +kernel
theorem d_Pl_runs_19 : decode b_Pl_runs 19 = .ok (.iload_n 3, 1) := by decide +kernel
theorem d_Pl_runs_20 : decode b_Pl_runs 20 = .ok (.invokevirtual 128, 3) := by decide +kernel
theorem d_Pl_runs_23 : decode b_Pl_runs 23 = .ok (.iload_n 1, 1) := by decide +kernel
theorem d_Pl_runs_24 : decode b_Pl_runs 24 = .ok (.if_icmp .ne 18, 3) := by decide +kernel
theorem d_Pl_runs_27 : decode b_Pl_runs 27 = .ok (.iload_n 2, 1) := by decide +kernel
theorem d_Pl_runs_28 : decode b_Pl_runs 28 = .ok (.aload_n 0, 1) := by decide +kernel
theorem d_Pl_runs_29 : decode b_Pl_runs 29 = .ok (.getfield 18, 3) := by decide +kernel
theorem d_Pl_runs_32 : decode b_Pl_runs 32 = .ok (.iload_n 3, 1) := by decide +kernel
theorem d_Pl_runs_33 : decode b_Pl_runs 33 = .ok (.invokevirtual 131, 3) := by decide +kernel
theorem d_Pl_runs_36 : decode b_Pl_runs 36 = .ok (.iconst 1, 1) := by decide +kernel
theorem d_Pl_runs_37 : decode b_Pl_runs 37 = .ok (.iadd, 1) := by decide +kernel
theorem d_Pl_runs_38 : decode b_Pl_runs 38 = .ok (.invokestatic 89, 3) := by decide +kernel
theorem d_Pl_runs_41 : decode b_Pl_runs 41 = .ok (.istore_n 2, 1) := by decide +kernel
theorem d_Pl_runs_42 : decode b_Pl_runs 42 = .ok (.iinc 3 1, 3) := by decide +kernel
theorem d_Pl_runs_45 : decode b_Pl_runs 45 = .ok (.goto (-41), 3) := by decide +kernel
theorem d_Pl_runs_48 : decode b_Pl_runs 48 = .ok (.iload_n 2, 1) := by decide +kernel
theorem d_Pl_runs_49 : decode b_Pl_runs 49 = .ok (.ireturn, 1) := by decide +kernel
theorem d_Pl_search_0 : decode b_Pl_search 0 = .ok (.aload_n 0, 1) := by decide +kernel
theorem d_Pl_search_1 : decode b_Pl_search 1 = .ok (.iconst 0, 1) := by decide +kernel
theorem d_Pl_search_2 : decode b_Pl_search 2 = .ok (.putfield 40, 3) := by decide +kernel
theorem d_Pl_search_5 : decode b_Pl_search 5 = .ok (.aload_n 0, 1) := by decide +kernel
theorem d_Pl_search_6 : decode b_Pl_search 6 = .ok (.iconst 0, 1) := by decide +kernel
theorem d_Pl_search_7 : decode b_Pl_search 7 = .ok (.iconst 0, 1) := by decide +kernel
theorem d_Pl_search_8 : decode b_Pl_search 8 = .ok (.aload_n 0, 1) := by decide +kernel
theorem d_Pl_search_9 : decode b_Pl_search 9 = .ok (.getfield 32, 3) := by decide +kernel
theorem d_Pl_search_12 : decode b_Pl_search 12 = .ok (.invokevirtual 48, 3) := by decide +kernel
theorem d_Pl_search_15 : decode b_Pl_search 15 = .ok (.iconst 0, 1) := by decide +kernel
theorem d_Pl_search_16 : decode b_Pl_search 16 = .ok (.iconst 0, 1) := by decide +kernel
theorem d_Pl_search_17 : decode b_Pl_search 17 = .ok (.iconst 0, 1) := by decide +kernel
theorem d_Pl_search_18 : decode b_Pl_search 18 = .ok (.invokevirtual 53, 3) := by decide +kernel
theorem d_Pl_search_21 : decode b_Pl_search 21 = .ok (.aload_n 0, 1) := by decide +kernel
theorem d_Pl_search_22 : decode b_Pl_search 22 = .ok (.getfield 40, 3) := by decide +kernel
theorem d_Pl_search_25 : decode b_Pl_search 25 = .ok (.ireturn, 1) := by decide +kernel
theorem d_Pl_setOver_0 : decode b_Pl_setOver 0 = .ok (.aload_n 0, 1) := by decide +kernel
theorem d_Pl_setOver_1 : decode b_Pl_setOver 1 = .ok (.iload_n 1, 1) := by decide +kernel
theorem d_Pl_setOver_2 : decode b_Pl_setOver 2 = .ok (.putfield 24, 3) := by decide +kernel
theorem d_Pl_setOver_5 : decode b_Pl_setOver 5 = .ok (.return_, 1) := by decide +kernel
theorem d_Pl_tellRun_0 : decode b_Pl_tellRun 0 = .ok (.aload_n 0, 1) := by decide +kernel
theorem d_Pl_tellRun_1 : decode b_Pl_tellRun 1 = .ok (.getfield 18, 3) := by decide +kernel
theorem d_Pl_tellRun_4 : decode b_Pl_tellRun 4 = .ok (.iload_n 1, 1) := by decide +kernel
theorem d_Pl_tellRun_5 : decode b_Pl_tellRun 5 = .ok (.iload_n 2, 1) := by decide +kernel
theorem d_Pl_tellRun_6 : decode b_Pl_tellRun 6 = .ok (.aload_n 0, 1) := by decide +kernel
theorem d_Pl_tellRun_7 : decode b_Pl_tellRun 7 = .ok (.getfield 32, 3) := by decide +kernel
theorem d_Pl_tellRun_10 : decode b_Pl_tellRun 10 = .ok (.invokevirtual 48, 3) := by decide +kernel
theorem d_Pl_tellRun_13 : decode b_Pl_tellRun 13 = .ok (.invokevirtual 146, 3) := by decide +kernel
theorem d_Pl_tellRun_16 : decode b_Pl_tellRun 16 = .ok (.istore 4, 2) := by decide +kernel
theorem d_Pl_tellRun_18 : decode b_Pl_tellRun 18 = .ok (.iload 4, 2) := by decide +kernel
theorem d_Pl_tellRun_20 : decode b_Pl_tellRun 20 = .ok (.ifCond .ne 5, 3) := by decide +kernel
theorem d_Pl_tellRun_23 : decode b_Pl_tellRun 23 = .ok (.iconst (-1), 1) := by decide +kernel
theorem d_Pl_tellRun_24 : decode b_Pl_tellRun 24 = .ok (.ireturn, 1) := by decide +kernel
theorem d_Pl_tellRun_25 : decode b_Pl_tellRun 25 = .ok (.iload_n 3, 1) := by decide +kernel
theorem d_Pl_tellRun_26 : decode b_Pl_tellRun 26 = .ok (.tableswitch 49 0 2 #[26, 36, 46], 26) := by decide +kernel
theorem d_Pl_tellRun_52 : decode b_Pl_tellRun 52 = .ok (.aload_n 0, 1) := by decide +kernel
theorem d_Pl_tellRun_53 : decode b_Pl_tellRun 53 = .ok (.getfield 18, 3) := by decide +kernel
theorem d_Pl_tellRun_56 : decode b_Pl_tellRun 56 = .ok (.iload 4, 2) := by decide +kernel
theorem d_Pl_tellRun_58 : decode b_Pl_tellRun 58 = .ok (.invokevirtual 153, 3) := by decide +kernel
theorem d_Pl_tellRun_61 : decode b_Pl_tellRun 61 = .ok (.ireturn, 1) := by decide +kernel
theorem d_Pl_tellRun_62 : decode b_Pl_tellRun 62 = .ok (.aload_n 0, 1) := by decide +kernel
theorem d_Pl_tellRun_63 : decode b_Pl_tellRun 63 = .ok (.getfield 32, 3) := by decide +kernel
theorem d_Pl_tellRun_66 : decode b_Pl_tellRun 66 = .ok (.iload 4, 2) := by decide +kernel
theorem d_Pl_tellRun_68 : decode b_Pl_tellRun 68 = .ok (.invokevirtual 83, 3) := by decide +kernel
theorem d_Pl_tellRun_71 : decode b_Pl_tellRun 71 = .ok (.ireturn, 1) := by decide +kernel
theorem d_Pl_tellRun_72 : decode b_Pl_tellRun 72 = .ok (.iload 4, 2) := by decide +kernel
theorem d_Pl_tellRun_74 : decode b_Pl_tellRun 74 = .ok (.ireturn, 1) := by decide +kernel
theorem d_Pl_tellRun_75 : decode b_Pl_tellRun 75 = .ok (.iconst (-1), 1) := by decide +kernel
theorem d_Pl_tellRun_76 : decode b_Pl_tellRun 76 = .ok (.ireturn, 1) := by decide +kernel
theorem d_Pl_tellShip_0 : decode b_Pl_tellShip 0 = .ok (.iload_n 2, 1) := by decide +kernel
theorem d_Pl_tellShip_1 : decode b_Pl_tellShip 1 = .ok (.tableswitch 140 0 6 #[43, 52, 61, 70, 91, 112, 130], 43) := by decide +kernel
theorem d_Pl_tellShip_44 : decode b_Pl_tellShip 44 = .ok (.aload_n 0, 1) := by decide +kernel
theorem d_Pl_tellShip_45 : decode b_Pl_tellShip 45 = .ok (.getfield 18, 3) := by decide +kernel
theorem d_Pl_tellShip_48 : decode b_Pl_tellShip 48 = .ok (.iload_n 1, 1) := by decide +kernel
theorem d_Pl_tellShip_49 : decode b_Pl_tellShip 49 = .ok (.invokevirtual 128, 3) := by decide +kernel
theorem d_Pl_tellShip_52 : decode b_Pl_tellShip 52 = .ok (.ireturn, 1) := by decide +kernel
theorem d_Pl_tellShip_53 : decode b_Pl_tellShip 53 = .ok (.aload_n 0, 1) := by decide +kernel
theorem d_Pl_tellShip_54 : decode b_Pl_tellShip 54 = .ok (.getfield 18, 3) := by decide +kernel
theorem d_Pl_tellShip_57 : decode b_Pl_tellShip 57 = .ok (.iload_n 1, 1) := by decide +kernel
theorem d_Pl_tellShip_58 : decode b_Pl_tellShip 58 = .ok (.invokevirtual 131, 3) := by decide +kernel
theorem d_Pl_tellShip_61 : decode b_Pl_tellShip 61 = .ok (.ireturn, 1) := by decide +kernel
theorem d_Pl_tellShip_62 : decode b_Pl_tellShip 62 = .ok (.aload_n 0, 1) := by decide +kernel
theorem d_Pl_tellShip_63 : decode b_Pl_tellShip 63 = .ok (.getfield 18, 3) := by decide +kernel
theorem d_Pl_tellShip_66 : decode b_Pl_tellShip 66 = .ok (.iload_n 1, 1) := by decide +kernel
theorem d_Pl_tellShip_67 : decode b_Pl_tellShip 67 = .ok (.invokevirtual 125, 3) := by decide +kernel
theorem d_Pl_tellShip_70 : decode b_Pl_tellShip 70 = .ok (.ireturn, 1) := by decide +kernel
theorem d_Pl_tellShip_71 : decode b_Pl_tellShip 71 = .ok (.aload_n 0, 1) := by decide +kernel
theorem d_Pl_tellShip_72 : decode b_Pl_tellShip 72 = .ok (.iload_n 1, 1) := by decide +kernel
theorem d_Pl_tellShip_73 : decode b_Pl_tellShip 73 = .ok (.invokevirtual 134, 3) := by decide +kernel
theorem d_Pl_tellShip_76 : decode b_Pl_tellShip 76 = .ok (.ifCond .eq 14, 3) := by decide +kernel
theorem d_Pl_tellShip_79 : decode b_Pl_tellShip 79 = .ok (.aload_n 0, 1) := by decide +kernel
theorem d_Pl_tellShip_80 : decode b_Pl_tellShip 80 = .ok (.getfield 36, 3) := by decide +kernel
theorem d_Pl_tellShip_83 : decode b_Pl_tellShip 83 = .ok (.iload_n 1, 1) := by decide +kernel
theorem d_Pl_tellShip_84 : decode b_Pl_tellShip 84 = .ok (.invokevirtual 137, 3) := by decide +kernel
theorem d_Pl_tellShip_87 : decode b_Pl_tellShip 87 = .ok (.goto 4, 3) := by decide +kernel
theorem d_Pl_tellShip_90 : decode b_Pl_tellShip 90 = .ok (.iconst (-1), 1) := by decide +kernel
theorem d_Pl_tellShip_91 : decode b_Pl_tellShip 91 = .ok (.ireturn, 1) := by decide +kernel
theorem d_Pl_tellShip_92 : decode b_Pl_tellShip 92 = .ok (.aload_n 0, 1) := by decide +kernel
theorem d_Pl_tellShip_93 : decode b_Pl_tellShip 93 = .ok (.iload_n 1, 1) := by decide +kernel
theorem d_Pl_tellShip_94 : decode b_Pl_tellShip 94 = .ok (.invokevirtual 134, 3) := by decide +kernel
theorem d_Pl_tellShip_97 : decode b_Pl_tellShip 97 = .ok (.ifCond .eq 14, 3) := by decide +kernel
theorem d_Pl_tellShip_100 : decode b_Pl_tellShip 100 = .ok (.aload_n 0, 1) := by decide +kernel
theorem d_Pl_tellShip_101 : decode b_Pl_tellShip 101 = .ok (.getfield 36, 3) := by decide +kernel
theorem d_Pl_tellShip_104 : decode b_Pl_tellShip 104 = .ok (.iload_n 1, 1) := by decide +kernel
theorem d_Pl_tellShip_105 : decode b_Pl_tellShip 105 = .ok (.invokevirtual 140, 3) := by decide +kernel
theorem d_Pl_tellShip_108 : decode b_Pl_tellShip 108 = .ok (.goto 4, 3) := by decide +kernel
theorem d_Pl_tellShip_111 : decode b_Pl_tellShip 111 = .ok (.iconst (-1), 1) := by decide +kernel
theorem d_Pl_tellShip_112 : decode b_Pl_tellShip 112 = .ok (.ireturn, 1) := by decide +kernel
theorem d_Pl_tellShip_113 : decode b_Pl_tellShip 113 = .ok (.aload_n 0, 1) := by decide +kernel
theorem d_Pl_tellShip_114 : decode b_Pl_tellShip 114 = .ok (.getfield 18, 3) := by decide +kernel
theorem d_Pl_tellShip_117 : decode b_Pl_tellShip 117 = .ok (.iload_n 1, 1) := by decide +kernel
theorem d_Pl_tellShip_118 : decode b_Pl_tellShip 118 = .ok (.invokevirtual 125, 3) := by decide +kernel
theorem d_Pl_tellShip_121 : decode b_Pl_tellShip 121 = .ok (.aload_n 0, 1) := by decide +kernel
theorem d_Pl_tellShip_122 : decode b_Pl_tellShip 122 = .ok (.getfield 32, 3) := by decide +kernel
theorem d_Pl_tellShip_125 : decode b_Pl_tellShip 125 = .ok (.iload_n 1, 1) := by decide +kernel
theorem d_Pl_tellShip_126 : decode b_Pl_tellShip 126 = .ok (.invokevirtual 143, 3) := by decide +kernel
theorem d_Pl_tellShip_129 : decode b_Pl_tellShip 129 = .ok (.isub, 1) := by decide +kernel
theorem d_Pl_tellShip_130 : decode b_Pl_tellShip 130 = .ok (.ireturn, 1) := by decide +kernel
theorem d_Pl_tellShip_131 : decode b_Pl_tellShip 131 = .ok (.aload_n 0, 1) := by decide +kernel
theorem d_Pl_tellShip_132 : decode b_Pl_tellShip 132 = .ok (.aload_n 0, 1) := by decide +kernel
theorem d_Pl_tellShip_133 : decode b_Pl_tellShip 133 = .ok (.getfield 18, 3) := by decide +kernel
theorem d_Pl_tellShip_136 : decode b_Pl_tellShip 136 = .ok (.iload_n 1, 1) := by decide +kernel
theorem d_Pl_tellShip_137 : decode b_Pl_tellShip 137 = .ok (.invokevirtual 112, 3) := by decide +kernel
theorem d_Pl_tellShip_140 : decode b_Pl_tellShip 140 = .ok (.ireturn, 1) := by decide +kernel
theorem d_Pl_tellShip_141 : decode b_Pl_tellShip 141 = .ok (.iconst (-1), 1) := by decide +kernel
theorem d_Pl_tellShip_142 : decode b_Pl_tellShip 142 = .ok (.ireturn, 1) := by decide +kernel
theorem d_Pl_tryRuns_0 : decode b_Pl_tryRuns 0 = .ok (.aload_n 0, 1) := by decide +kernel
theorem d_Pl_tryRuns_1 : decode b_Pl_tryRuns 1 = .ok (.getfield 40, 3) := by decide +kernel
theorem d_Pl_tryRuns_4 : decode b_Pl_tryRuns 4 = .ok (.ifCond .eq 16, 3) := by decide +kernel
theorem d_Pl_tryRuns_7 : decode b_Pl_tryRuns 7 = .ok (.iload 6, 2) := by decide +kernel
theorem d_Pl_tryRuns_9 : decode b_Pl_tryRuns 9 = .ok (.aload_n 0, 1) := by decide +kernel
theorem d_Pl_tryRuns_10 : decode b_Pl_tryRuns 10 = .ok (.getfield 18, 3) := by decide +kernel
theorem d_Pl_tryRuns_13 : decode b_Pl_tryRuns 13 = .ok (.invokevirtual 44, 3) := by decide +kernel
theorem d_Pl_tryRuns_16 : decode b_Pl_tryRuns 16 = .ok (.if_icmp .le 4, 3) := by decide +kernel
theorem d_Pl_tryRuns_19 : decode b_Pl_tryRuns 19 = .ok (.return_, 1) := by decide +kernel
theorem d_Pl_tryRuns_20 : decode b_Pl_tryRuns 20 = .ok (.iload_n 3, 1) := by decide +kernel
theorem d_Pl_tryRuns_21 : decode b_Pl_tryRuns 21 = .ok (.ifCond .ne 10, 3) := by decide +kernel
theorem d_Pl_tryRuns_24 : decode b_Pl_tryRuns 24 = .ok (.aload_n 0, 1) := by decide +kernel
theorem d_Pl_tryRuns_25 : decode b_Pl_tryRuns 25 = .ok (.iload 6, 2) := by decide +kernel
theorem d_Pl_tryRuns_27 : decode b_Pl_tryRuns 27 = .ok (.invokevirtual 65, 3) := by decide +kernel
theorem d_Pl_tryRuns_30 : decode b_Pl_tryRuns 30 = .ok (.return_, 1) := by decide +kernel
theorem d_Pl_tryRuns_31 : decode b_Pl_tryRuns 31 = .ok (.aload_n 0, 1) := by decide +kernel
theorem d_Pl_tryRuns_32 : decode b_Pl_tryRuns 32 = .ok (.getfield 28, 3) := by decide +kernel
theorem d_Pl_tryRuns_35 : decode b_Pl_tryRuns 35 = .ok (.iload_n 1, 1) := by decide +kernel
theorem d_Pl_tryRuns_36 : decode b_Pl_tryRuns 36 = .ok (.invokevirtual 69, 3) := by decide +kernel
theorem d_Pl_tryRuns_39 : decode b_Pl_tryRuns 39 = .ok (.ifCond .ne 4, 3) := by decide +kernel
theorem d_Pl_tryRuns_42 : decode b_Pl_tryRuns 42 = .ok (.return_, 1) := by decide +kernel
theorem d_Pl_tryRuns_43 : decode b_Pl_tryRuns 43 = .ok (.aload_n 0, 1) := by decide +kernel
theorem d_Pl_tryRuns_44 : decode b_Pl_tryRuns 44 = .ok (.getfield 28, 3) := by decide +kernel
theorem d_Pl_tryRuns_47 : decode b_Pl_tryRuns 47 = .ok (.iload_n 1, 1) := by decide +kernel
theorem d_Pl_tryRuns_48 : decode b_Pl_tryRuns 48 = .ok (.invokevirtual 75, 3) := by decide +kernel
theorem d_Pl_tryRuns_51 : decode b_Pl_tryRuns 51 = .ok (.istore 7, 2) := by decide +kernel
theorem d_Pl_tryRuns_53 : decode b_Pl_tryRuns 53 = .ok (.iconst 1, 1) := by decide +kernel
theorem d_Pl_tryRuns_54 : decode b_Pl_tryRuns 54 = .ok (.istore 8, 2) := by decide +kernel
theorem d_Pl_tryRuns_56 : decode b_Pl_tryRuns 56 = .ok (.iload 8, 2) := by decide +kernel
theorem d_Pl_tryRuns_58 : decode b_Pl_tryRuns 58 = .ok (.bipush 16, 2) := by decide +kernel
theorem d_Pl_tryRuns_60 : decode b_Pl_tryRuns 60 = .ok (.if_icmp .ge 132, 3) := by decide +kernel
theorem d_Pl_tryRuns_63 : decode b_Pl_tryRuns 63 = .ok (.iload 8, 2) := by decide +kernel
theorem d_Pl_tryRuns_65 : decode b_Pl_tryRuns 65 = .ok (.iload_n 3, 1) := by decide +kernel
theorem d_Pl_tryRuns_66 : decode b_Pl_tryRuns 66 = .ok (.iconst (-1), 1) := by decide +kernel
theorem d_Pl_tryRuns_67 : decode b_Pl_tryRuns 67 = .ok (.ixor, 1) := by decide +kernel
theorem d_Pl_tryRuns_68 : decode b_Pl_tryRuns 68 = .ok (.iand, 1) := by decide +kernel
theorem d_Pl_tryRuns_69 : decode b_Pl_tryRuns 69 = .ok (.ifCond .ne 117, 3) := by decide +kernel
theorem d_Pl_tryRuns_72 : decode b_Pl_tryRuns 72 = .ok (.aload_n 0, 1) := by decide +kernel
theorem d_Pl_tryRuns_73 : decode b_Pl_tryRuns 73 = .ok (.iload_n 1, 1) := by decide +kernel
theorem d_Pl_tryRuns_74 : decode b_Pl_tryRuns 74 = .ok (.iload 8, 2) := by decide +kernel
theorem d_Pl_tryRuns_76 : decode b_Pl_tryRuns 76 = .ok (.invokevirtual 79, 3) := by decide +kernel
theorem d_Pl_tryRuns_79 : decode b_Pl_tryRuns 79 = .ok (.ifCond .eq 107, 3) := by decide +kernel
theorem d_Pl_tryRuns_82 : decode b_Pl_tryRuns 82 = .ok (.aload_n 0, 1) := by decide +kernel
theorem d_Pl_tryRuns_83 : decode b_Pl_tryRuns 83 = .ok (.getfield 32, 3) := by decide +kernel
theorem d_Pl_tryRuns_86 : decode b_Pl_tryRuns 86 = .ok (.iload 8, 2) := by decide +kernel
theorem d_Pl_tryRuns_88 : decode b_Pl_tryRuns 88 = .ok (.invokevirtual 83, 3) := by decide +kernel
theorem d_Pl_tryRuns_91 : decode b_Pl_tryRuns 91 = .ok (.istore 9, 2) := by decide +kernel
theorem d_Pl_tryRuns_93 : decode b_Pl_tryRuns 93 = .ok (.iload 5, 2) := by decide +kernel
theorem d_Pl_tryRuns_95 : decode b_Pl_tryRuns 95 = .ok (.iload 9, 2) := by decide +kernel
theorem d_Pl_tryRuns_97 : decode b_Pl_tryRuns 97 = .ok (.if_icmp .ne 8, 3) := by decide +kernel
theorem d_Pl_tryRuns_100 : decode b_Pl_tryRuns 100 = .ok (.iload 4, 2) := by decide +kernel
theorem d_Pl_tryRuns_102 : decode b_Pl_tryRuns 102 = .ok (.goto 8, 3) := by decide +kernel
theorem d_Pl_tryRuns_105 : decode b_Pl_tryRuns 105 = .ok (.iload 4, 2) := by decide +kernel
theorem d_Pl_tryRuns_107 : decode b_Pl_tryRuns 107 = .ok (.iload 7, 2) := by decide +kernel
theorem d_Pl_tryRuns_109 : decode b_Pl_tryRuns 109 = .ok (.iadd, 1) := by decide +kernel
theorem d_Pl_tryRuns_110 : decode b_Pl_tryRuns 110 = .ok (.istore 10, 2) := by decide +kernel
theorem d_Pl_tryRuns_112 : decode b_Pl_tryRuns 112 = .ok (.aload_n 0, 1) := by decide +kernel
theorem d_Pl_tryRuns_113 : decode b_Pl_tryRuns 113 = .ok (.getfield 28, 3) := by decide +kernel
theorem d_Pl_tryRuns_116 : decode b_Pl_tryRuns 116 = .ok (.iload_n 1, 1) := by decide +kernel
theorem d_Pl_tryRuns_117 : decode b_Pl_tryRuns 117 = .ok (.iload 10, 2) := by decide +kernel
theorem d_Pl_tryRuns_119 : decode b_Pl_tryRuns 119 = .ok (.aload_n 0, 1) := by decide +kernel
theorem d_Pl_tryRuns_120 : decode b_Pl_tryRuns 120 = .ok (.getfield 32, 3) := by decide +kernel
theorem d_Pl_tryRuns_123 : decode b_Pl_tryRuns 123 = .ok (.iload 8, 2) := by decide +kernel
theorem d_Pl_tryRuns_125 : decode b_Pl_tryRuns 125 = .ok (.invokevirtual 86, 3) := by decide +kernel
theorem d_Pl_tryRuns_128 : decode b_Pl_tryRuns 128 = .ok (.invokestatic 89, 3) := by decide +kernel
theorem d_Pl_tryRuns_131 : decode b_Pl_tryRuns 131 = .ok (.invokevirtual 95, 3) := by decide +kernel
theorem d_Pl_tryRuns_134 : decode b_Pl_tryRuns 134 = .ok (.istore 11, 2) := by decide +kernel
theorem d_Pl_tryRuns_136 : decode b_Pl_tryRuns 136 = .ok (.aload_n 0, 1) := by decide +kernel
theorem d_Pl_tryRuns_137 : decode b_Pl_tryRuns 137 = .ok (.getfield 12, 3) := by decide +kernel
theorem d_Pl_tryRuns_140 : decode b_Pl_tryRuns 140 = .ok (.iload 8, 2) := by decide +kernel
theorem d_Pl_tryRuns_142 : decode b_Pl_tryRuns 142 = .ok (.iload_n 1, 1) := by decide +kernel
theorem d_Pl_tryRuns_143 : decode b_Pl_tryRuns 143 = .ok (.iload_n 2, 1) := by decide +kernel
theorem d_Pl_tryRuns_144 : decode b_Pl_tryRuns 144 = .ok (.iload 11, 2) := by decide +kernel
theorem d_Pl_tryRuns_146 : decode b_Pl_tryRuns 146 = .ok (.invokevirtual 98, 3) := by decide +kernel
theorem d_Pl_tryRuns_149 : decode b_Pl_tryRuns 149 = .ok (.aload_n 0, 1) := by decide +kernel
theorem d_Pl_tryRuns_150 : decode b_Pl_tryRuns 150 = .ok (.iload_n 1, 1) := by decide +kernel
theorem d_Pl_tryRuns_151 : decode b_Pl_tryRuns 151 = .ok (.iload_n 2, 1) := by decide +kernel
theorem d_Pl_tryRuns_152 : decode b_Pl_tryRuns 152 = .ok (.iconst 1, 1) := by decide +kernel
theorem d_Pl_tryRuns_153 : decode b_Pl_tryRuns 153 = .ok (.iadd, 1) := by decide +kernel
theorem d_Pl_tryRuns_154 : decode b_Pl_tryRuns 154 = .ok (.iload_n 3, 1) := by decide +kernel
theorem d_Pl_tryRuns_155 : decode b_Pl_tryRuns 155 = .ok (.iload 8, 2) := by decide +kernel
theorem d_Pl_tryRuns_157 : decode b_Pl_tryRuns 157 = .ok (.iconst (-1), 1) := by decide +kernel
theorem d_Pl_tryRuns_158 : decode b_Pl_tryRuns 158 = .ok (.ixor, 1) := by decide +kernel
theorem d_Pl_tryRuns_159 : decode b_Pl_tryRuns 159 = .ok (.iand, 1) := by decide +kernel
theorem d_Pl_tryRuns_160 : decode b_Pl_tryRuns 160 = .ok (.iload 11, 2) := by decide +kernel
theorem d_Pl_tryRuns_162 : decode b_Pl_tryRuns 162 = .ok (.iload 7, 2) := by decide +kernel
theorem d_Pl_tryRuns_164 : decode b_Pl_tryRuns 164 = .ok (.iadd, 1) := by decide +kernel
theorem d_Pl_tryRuns_165 : decode b_Pl_tryRuns 165 = .ok (.iconst 1, 1) := by decide +kernel
theorem d_Pl_tryRuns_166 : decode b_Pl_tryRuns 166 = .ok (.iload 9, 2) := by decide +kernel
theorem d_Pl_tryRuns_168 : decode b_Pl_tryRuns 168 = .ok (.isub, 1) := by decide +kernel
theorem d_Pl_tryRuns_169 : decode b_Pl_tryRuns 169 = .ok (.iload 6, 2) := by decide +kernel
end
section
theorem d_Pl_tryRuns_171 : decode b_Pl_tryRuns 171 = .ok (.aload_n 0, 1) := by decide +kernel
theorem d_Pl_tryRuns_172 : decode b_Pl_tryRuns 172 = .ok (.getfield 32, 3) := by decide +kernel
theorem d_Pl_tryRuns_175 : decode b_Pl_tryRuns 175 = .ok (.iload 8, 2) := by decide +kernel
theorem d_Pl_tryRuns_177 : decode b_Pl_tryRuns 177 = .ok (.iload 11, 2) := by decide +kernel
theorem d_Pl_tryRuns_179 : decode b_Pl_tryRuns 179 = .ok (.invokevirtual 102, 3) := by decide +kernel
theorem d_Pl_tryRuns_182 : decode b_Pl_tryRuns 182 = .ok (.iadd, 1) := by decide +kernel
theorem d_Pl_tryRuns_183 : decode b_Pl_tryRuns 183 = .ok (.invokevirtual 53, 3) := by decide +kernel
theorem d_Pl_tryRuns_186 : decode b_Pl_tryRuns 186 = .ok (.iinc 8 1, 3) := by decide +kernel
theorem d_Pl_tryRuns_189 : decode b_Pl_tryRuns 189 = .ok (.goto (-133), 3) := by decide +kernel
theorem d_Pl_tryRuns_192 : decode b_Pl_tryRuns 192 = .ok (.aload_n 0, 1) := by decide +kernel
theorem d_Pl_tryRuns_193 : decode b_Pl_tryRuns 193 = .ok (.iload_n 1, 1) := by decide +kernel
theorem d_Pl_tryRuns_194 : decode b_Pl_tryRuns 194 = .ok (.iconst 1, 1) := by decide +kernel
theorem d_Pl_tryRuns_195 : decode b_Pl_tryRuns 195 = .ok (.iadd, 1) := by decide +kernel
theorem d_Pl_tryRuns_196 : decode b_Pl_tryRuns 196 = .ok (.iconst 0, 1) := by decide +kernel
theorem d_Pl_tryRuns_197 : decode b_Pl_tryRuns 197 = .ok (.iload_n 3, 1) := by decide +kernel
theorem d_Pl_tryRuns_198 : decode b_Pl_tryRuns 198 = .ok (.iconst 0, 1) := by decide +kernel
theorem d_Pl_tryRuns_199 : decode b_Pl_tryRuns 199 = .ok (.iconst 0, 1) := by decide +kernel
theorem d_Pl_tryRuns_200 : decode b_Pl_tryRuns 200 = .ok (.iload 6, 2) := by decide +kernel
theorem d_Pl_tryRuns_202 : decode b_Pl_tryRuns 202 = .ok (.invokevirtual 53, 3) := by decide +kernel
theorem d_Pl_tryRuns_205 : decode b_Pl_tryRuns 205 = .ok (.return_, 1) := by decide +kernel
theorem d_Pl_waiting_0 : decode b_Pl_waiting 0 = .ok (.aload_n 0, 1) := by decide +kernel
theorem d_Pl_waiting_1 : decode b_Pl_waiting 1 = .ok (.getfield 18, 3) := by decide +kernel
theorem d_Pl_waiting_4 : decode b_Pl_waiting 4 = .ok (.invokevirtual 44, 3) := by decide +kernel
theorem d_Pl_waiting_7 : decode b_Pl_waiting 7 = .ok (.ireturn, 1) := by decide +kernel
theorem d_Tt_aboard_0 : decode b_Tt_aboard 0 = .ok (.iconst 0, 1) := by decide +kernel
theorem d_Tt_aboard_1 : decode b_Tt_aboard 1 = .ok (.istore 4, 2) := by decide +kernel
theorem d_Tt_aboard_3 : decode b_Tt_aboard 3 = .ok (.iconst 0, 1) := by decide +kernel
theorem d_Tt_aboard_4 : decode b_Tt_aboard 4 = .ok (.istore 5, 2) := by decide +kernel
theorem d_Tt_aboard_6 : decode b_Tt_aboard 6 = .ok (.iload 5, 2) := by decide +kernel
theorem d_Tt_aboard_8 : decode b_Tt_aboard 8 = .ok (.iconst 4, 1) := by decide +kernel
theorem d_Tt_aboard_9 : decode b_Tt_aboard 9 = .ok (.if_icmp .ge 49, 3) := by decide +kernel
theorem d_Tt_aboard_12 : decode b_Tt_aboard 12 = .ok (.iload_n 3, 1) := by decide +kernel
theorem d_Tt_aboard_13 : decode b_Tt_aboard 13 = .ok (.iload 5, 2) := by decide +kernel
theorem d_Tt_aboard_15 : decode b_Tt_aboard 15 = .ok (.invokestatic 25, 3) := by decide +kernel
theorem d_Tt_aboard_18 : decode b_Tt_aboard 18 = .ok (.ifCond .eq 34, 3) := by decide +kernel
theorem d_Tt_aboard_21 : decode b_Tt_aboard 21 = .ok (.aload_n 0, 1) := by decide +kernel
theorem d_Tt_aboard_22 : decode b_Tt_aboard 22 = .ok (.getfield 15, 3) := by decide +kernel
theorem d_Tt_aboard_25 : decode b_Tt_aboard 25 = .ok (.iload 5, 2) := by decide +kernel
theorem d_Tt_aboard_27 : decode b_Tt_aboard 27 = .ok (.iaload, 1) := by decide +kernel
theorem d_Tt_aboard_28 : decode b_Tt_aboard 28 = .ok (.iload_n 1, 1) := by decide +kernel
theorem d_Tt_aboard_29 : decode b_Tt_aboard 29 = .ok (.if_icmp .ne 23, 3) := by decide +kernel
theorem d_Tt_aboard_32 : decode b_Tt_aboard 32 = .ok (.aload_n 0, 1) := by decide +kernel
theorem d_Tt_aboard_33 : decode b_Tt_aboard 33 = .ok (.getfield 18, 3) := by decide +kernel
theorem d_Tt_aboard_36 : decode b_Tt_aboard 36 = .ok (.iload 5, 2) := by decide +kernel
theorem d_Tt_aboard_38 : decode b_Tt_aboard 38 = .ok (.iaload, 1) := by decide +kernel
theorem d_Tt_aboard_39 : decode b_Tt_aboard 39 = .ok (.iload_n 2, 1) := by decide +kernel
theorem d_Tt_aboard_40 : decode b_Tt_aboard 40 = .ok (.if_icmp .ne 12, 3) := by decide +kernel
theorem d_Tt_aboard_43 : decode b_Tt_aboard 43 = .ok (.iload 4, 2) := by decide +kernel
theorem d_Tt_aboard_45 : decode b_Tt_aboard 45 = .ok (.iconst 1, 1) := by decide +kernel
theorem d_Tt_aboard_46 : decode b_Tt_aboard 46 = .ok (.iload 5, 2) := by decide +kernel
theorem d_Tt_aboard_48 : decode b_Tt_aboard 48 = .ok (.ishl, 1) := by decide +kernel
theorem d_Tt_aboard_49 : decode b_Tt_aboard 49 = .ok (.ior, 1) := by decide +kernel
theorem d_Tt_aboard_50 : decode b_Tt_aboard 50 = .ok (.istore 4, 2) := by decide +kernel
theorem d_Tt_aboard_52 : decode b_Tt_aboard 52 = .ok (.iinc 5 1, 3) := by decide +kernel
theorem d_Tt_aboard_55 : decode b_Tt_aboard 55 = .ok (.goto (-49), 3) := by decide +kernel
theorem d_Tt_aboard_58 : decode b_Tt_aboard 58 = .ok (.iload 4, 2) := by decide +kernel
theorem d_Tt_aboard_60 : decode b_Tt_aboard 60 = .ok (.ireturn, 1) := by decide +kernel
theorem d_Tt_begin_0 : decode b_Tt_begin 0 = .ok (.iload_n 1, 1) := by decide +kernel
theorem d_Tt_begin_1 : decode b_Tt_begin 1 = .ok (.ifCond .lt 17, 3) := by decide +kernel
theorem d_Tt_begin_4 : decode b_Tt_begin 4 = .ok (.iload_n 1, 1) := by decide +kernel
theorem d_Tt_begin_5 : decode b_Tt_begin 5 = .ok (.iconst 4, 1) := by decide +kernel
theorem d_Tt_begin_6 : decode b_Tt_begin 6 = .ok (.if_icmp .ge 12, 3) := by decide +kernel
theorem d_Tt_begin_9 : decode b_Tt_begin 9 = .ok (.aload_n 0, 1) := by decide +kernel
theorem d_Tt_begin_10 : decode b_Tt_begin 10 = .ok (.getfield 9, 3) := by decide +kernel
theorem d_Tt_begin_13 : decode b_Tt_begin 13 = .ok (.iload_n 1, 1) := by decide +kernel
theorem d_Tt_begin_14 : decode b_Tt_begin 14 = .ok (.iaload, 1) := by decide +kernel
theorem d_Tt_begin_15 : decode b_Tt_begin 15 = .ok (.goto 4, 3) := by decide +kernel
theorem d_Tt_begin_18 : decode b_Tt_begin 18 = .ok (.iconst (-1), 1) := by decide +kernel
theorem d_Tt_begin_19 : decode b_Tt_begin 19 = .ok (.ireturn, 1) := by decide +kernel
theorem d_Tt_beginOfAll_0 : decode b_Tt_beginOfAll 0 = .ok (.iconst 0, 1) := by decide +kernel
theorem d_Tt_beginOfAll_1 : decode b_Tt_beginOfAll 1 = .ok (.istore_n 2, 1) := by decide +kernel
theorem d_Tt_beginOfAll_2 : decode b_Tt_beginOfAll 2 = .ok (.iload_n 2, 1) := by decide +kernel
theorem d_Tt_beginOfAll_3 : decode b_Tt_beginOfAll 3 = .ok (.iconst 4, 1) := by decide +kernel
theorem d_Tt_beginOfAll_4 : decode b_Tt_beginOfAll 4 = .ok (.if_icmp .ge 24, 3) := by decide +kernel
theorem d_Tt_beginOfAll_7 : decode b_Tt_beginOfAll 7 = .ok (.iload_n 1, 1) := by decide +kernel
theorem d_Tt_beginOfAll_8 : decode b_Tt_beginOfAll 8 = .ok (.iload_n 2, 1) := by decide +kernel
theorem d_Tt_beginOfAll_9 : decode b_Tt_beginOfAll 9 = .ok (.invokestatic 25, 3) := by decide +kernel
theorem d_Tt_beginOfAll_12 : decode b_Tt_beginOfAll 12 = .ok (.ifCond .eq 10, 3) := by decide +kernel
theorem d_Tt_beginOfAll_15 : decode b_Tt_beginOfAll 15 = .ok (.aload_n 0, 1) := by decide +kernel
theorem d_Tt_beginOfAll_16 : decode b_Tt_beginOfAll 16 = .ok (.getfield 9, 3) := by decide +kernel
theorem d_Tt_beginOfAll_19 : decode b_Tt_beginOfAll 19 = .ok (.iload_n 2, 1) := by decide +kernel
theorem d_Tt_beginOfAll_20 : decode b_Tt_beginOfAll 20 = .ok (.iaload, 1) := by decide +kernel
theorem d_Tt_beginOfAll_21 : decode b_Tt_beginOfAll 21 = .ok (.ireturn, 1) := by decide +kernel
theorem d_Tt_beginOfAll_22 : decode b_Tt_beginOfAll 22 = .ok (.iinc 2 1, 3) := by decide +kernel
theorem d_Tt_beginOfAll_25 : decode b_Tt_beginOfAll 25 = .ok (.goto (-23), 3) := by decide +kernel
theorem d_Tt_beginOfAll_28 : decode b_Tt_beginOfAll 28 = .ok (.iconst (-1), 1) := by decide +kernel
theorem d_Tt_beginOfAll_29 : decode b_Tt_beginOfAll 29 = .ok (.ireturn, 1) := by decide +kernel
theorem d_Tt_chamberOf_0 : decode b_Tt_chamberOf 0 = .ok (.iload_n 1, 1) := by decide +kernel
theorem d_Tt_chamberOf_1 : decode b_Tt_chamberOf 1 = .ok (.ifCond .lt 17, 3) := by decide +kernel
theorem d_Tt_chamberOf_4 : decode b_Tt_chamberOf 4 = .ok (.iload_n 1, 1) := by decide +kernel
theorem d_Tt_chamberOf_5 : decode b_Tt_chamberOf 5 = .ok (.iconst 4, 1) := by decide +kernel
theorem d_Tt_chamberOf_6 : decode b_Tt_chamberOf 6 = .ok (.if_icmp .ge 12, 3) := by decide +kernel
theorem d_Tt_chamberOf_9 : decode b_Tt_chamberOf 9 = .ok (.aload_n 0, 1) := by decide +kernel
theorem d_Tt_chamberOf_10 : decode b_Tt_chamberOf 10 = .ok (.getfield 15, 3) := by decide +kernel
theorem d_Tt_chamberOf_13 : decode b_Tt_chamberOf 13 = .ok (.iload_n 1, 1) := by decide +kernel
theorem d_Tt_chamberOf_14 : decode b_Tt_chamberOf 14 = .ok (.iaload, 1) := by decide +kernel
theorem d_Tt_chamberOf_15 : decode b_Tt_chamberOf 15 = .ok (.goto 4, 3) := by decide +kernel
theorem d_Tt_chamberOf_18 : decode b_Tt_chamberOf 18 = .ok (.iconst (-1), 1) := by decide +kernel
theorem d_Tt_chamberOf_19 : decode b_Tt_chamberOf 19 = .ok (.ireturn, 1) := by decide +kernel
theorem d_Tt_copyFrom_0 : decode b_Tt_copyFrom 0 = .ok (.iconst 0, 1) := by decide +kernel
theorem d_Tt_copyFrom_1 : decode b_Tt_copyFrom 1 = .ok (.istore_n 2, 1) := by decide +kernel
theorem d_Tt_copyFrom_2 : decode b_Tt_copyFrom 2 = .ok (.iload_n 2, 1) := by decide +kernel
theorem d_Tt_copyFrom_3 : decode b_Tt_copyFrom 3 = .ok (.iconst 4, 1) := by decide +kernel
theorem d_Tt_copyFrom_4 : decode b_Tt_copyFrom 4 = .ok (.if_icmp .ge 45, 3) := by decide +kernel
theorem d_Tt_copyFrom_7 : decode b_Tt_copyFrom 7 = .ok (.aload_n 0, 1) := by decide +kernel
theorem d_Tt_copyFrom_8 : decode b_Tt_copyFrom 8 = .ok (.getfield 9, 3) := by decide +kernel
theorem d_Tt_copyFrom_11 : decode b_Tt_copyFrom 11 = .ok (.iload_n 2, 1) := by decide +kernel
theorem d_Tt_copyFrom_12 : decode b_Tt_copyFrom 12 = .ok (.aload_n 1, 1) := by decide +kernel
theorem d_Tt_copyFrom_13 : decode b_Tt_copyFrom 13 = .ok (.getfield 9, 3) := by decide +kernel
theorem d_Tt_copyFrom_16 : decode b_Tt_copyFrom 16 = .ok (.iload_n 2, 1) := by decide +kernel
theorem d_Tt_copyFrom_17 : decode b_Tt_copyFrom 17 = .ok (.iaload, 1) := by decide +kernel
theorem d_Tt_copyFrom_18 : decode b_Tt_copyFrom 18 = .ok (.iastore, 1) := by decide +kernel
theorem d_Tt_copyFrom_19 : decode b_Tt_copyFrom 19 = .ok (.aload_n 0, 1) := by decide +kernel
theorem d_Tt_copyFrom_20 : decode b_Tt_copyFrom 20 = .ok (.getfield 15, 3) := by decide +kernel
theorem d_Tt_copyFrom_23 : decode b_Tt_copyFrom 23 = .ok (.iload_n 2, 1) := by decide +kernel
theorem d_Tt_copyFrom_24 : decode b_Tt_copyFrom 24 = .ok (.aload_n 1, 1) := by decide +kernel
theorem d_Tt_copyFrom_25 : decode b_Tt_copyFrom 25 = .ok (.getfield 15, 3) := by decide +kernel
theorem d_Tt_copyFrom_28 : decode b_Tt_copyFrom 28 = .ok (.iload_n 2, 1) := by decide +kernel
theorem d_Tt_copyFrom_29 : decode b_Tt_copyFrom 29 = .ok (.iaload, 1) := by decide +kernel
theorem d_Tt_copyFrom_30 : decode b_Tt_copyFrom 30 = .ok (.iastore, 1) := by decide +kernel
theorem d_Tt_copyFrom_31 : decode b_Tt_copyFrom 31 = .ok (.aload_n 0, 1) := by decide +kernel
theorem d_Tt_copyFrom_32 : decode b_Tt_copyFrom 32 = .ok (.getfield 18, 3) := by decide +kernel
theorem d_Tt_copyFrom_35 : decode b_Tt_copyFrom 35 = .ok (.iload_n 2, 1) := by decide +kernel
theorem d_Tt_copyFrom_36 : decode b_Tt_copyFrom 36 = .ok (.aload_n 1, 1) := by decide +kernel
theorem d_Tt_copyFrom_37 : decode b_Tt_copyFrom 37 = .ok (.getfield 18, 3) := by decide +kernel
theorem d_Tt_copyFrom_40 : decode b_Tt_copyFrom 40 = .ok (.iload_n 2, 1) := by decide +kernel
theorem d_Tt_copyFrom_41 : decode b_Tt_copyFrom 41 = .ok (.iaload, 1) := by decide +kernel
theorem d_Tt_copyFrom_42 : decode b_Tt_copyFrom 42 = .ok (.iastore, 1) := by decide +kernel
theorem d_Tt_copyFrom_43 : decode b_Tt_copyFrom 43 = .ok (.iinc 2 1, 3) := by decide +kernel
theorem d_Tt_copyFrom_46 : decode b_Tt_copyFrom 46 = .ok (.goto (-44), 3) := by decide +kernel
theorem d_Tt_copyFrom_49 : decode b_Tt_copyFrom 49 = .ok (.aload_n 0, 1) := by decide +kernel
theorem d_Tt_copyFrom_50 : decode b_Tt_copyFrom 50 = .ok (.aload_n 1, 1) := by decide +kernel
theorem d_Tt_copyFrom_51 : decode b_Tt_copyFrom 51 = .ok (.getfield 21, 3) := by decide +kernel
theorem d_Tt_copyFrom_54 : decode b_Tt_copyFrom 54 = .ok (.putfield 21, 3) := by decide +kernel
theorem d_Tt_copyFrom_57 : decode b_Tt_copyFrom 57 = .ok (.return_, 1) := by decide +kernel
theorem d_Tt_differences_0 : decode b_Tt_differences 0 = .ok (.iconst 0, 1) := by decide +kernel
theorem d_Tt_differences_1 : decode b_Tt_differences 1 = .ok (.istore_n 3, 1) := by decide +kernel
theorem d_Tt_differences_2 : decode b_Tt_differences 2 = .ok (.iconst 0, 1) := by decide +kernel
theorem d_Tt_differences_3 : decode b_Tt_differences 3 = .ok (.istore 4, 2) := by decide +kernel
theorem d_Tt_differences_5 : decode b_Tt_differences 5 = .ok (.iload 4, 2) := by decide +kernel
theorem d_Tt_differences_7 : decode b_Tt_differences 7 = .ok (.iconst 4, 1) := by decide +kernel
theorem d_Tt_differences_8 : decode b_Tt_differences 8 = .ok (.if_icmp .ge 31, 3) := by decide +kernel
theorem d_Tt_differences_11 : decode b_Tt_differences 11 = .ok (.iload_n 2, 1) := by decide +kernel
theorem d_Tt_differences_12 : decode b_Tt_differences 12 = .ok (.iload 4, 2) := by decide +kernel
theorem d_Tt_differences_14 : decode b_Tt_differences 14 = .ok (.invokestatic 25, 3) := by decide +kernel
theorem d_Tt_differences_17 : decode b_Tt_differences 17 = .ok (.ifCond .eq 16, 3) := by decide +kernel
theorem d_Tt_differences_20 : decode b_Tt_differences 20 = .ok (.aload_n 0, 1) := by decide +kernel
theorem d_Tt_differences_21 : decode b_Tt_differences 21 = .ok (.aload_n 1, 1) := by decide +kernel
theorem d_Tt_differences_22 : decode b_Tt_differences 22 = .ok (.iload 4, 2) := by decide +kernel
theorem d_Tt_differences_24 : decode b_Tt_differences 24 = .ok (.invokevirtual 29, 3) := by decide +kernel
theorem d_Tt_differences_27 : decode b_Tt_differences 27 = .ok (.ifCond .eq 6, 3) := by decide +kernel
theorem d_Tt_differences_30 : decode b_Tt_differences 30 = .ok (.iinc 3 1, 3) := by decide +kernel
theorem d_Tt_differences_33 : decode b_Tt_differences 33 = .ok (.iinc 4 1, 3) := by decide +kernel
theorem d_Tt_differences_36 : decode b_Tt_differences 36 = .ok (.goto (-31), 3) := by decide +kernel
theorem d_Tt_differences_39 : decode b_Tt_differences 39 = .ok (.iload_n 3, 1) := by decide +kernel
theorem d_Tt_differences_40 : decode b_Tt_differences 40 = .ok (.ireturn, 1) := by decide +kernel
theorem d_Tt_differs_0 : decode b_Tt_differs 0 = .ok (.aload_n 0, 1) := by decide +kernel
theorem d_Tt_differs_1 : decode b_Tt_differs 1 = .ok (.iload_n 2, 1) := by decide +kernel
theorem d_Tt_differs_2 : decode b_Tt_differs 2 = .ok (.invokevirtual 33, 3) := by decide +kernel
theorem d_Tt_differs_5 : decode b_Tt_differs 5 = .ok (.aload_n 1, 1) := by decide +kernel
theorem d_Tt_differs_6 : decode b_Tt_differs 6 = .ok (.iload_n 2, 1) := by decide +kernel
theorem d_Tt_differs_7 : decode b_Tt_differs 7 = .ok (.invokevirtual 33, 3) := by decide +kernel
theorem d_Tt_differs_10 : decode b_Tt_differs 10 = .ok (.if_icmp .ne 16, 3) := by decide +kernel
theorem d_Tt_differs_13 : decode b_Tt_differs 13 = .ok (.aload_n 0, 1) := by decide +kernel
theorem d_Tt_differs_14 : decode b_Tt_differs 14 = .ok (.iload_n 2, 1) := by decide +kernel
theorem d_Tt_differs_15 : decode b_Tt_differs 15 = .ok (.invokevirtual 37, 3) := by decide +kernel
theorem d_Tt_differs_18 : decode b_Tt_differs 18 = .ok (.aload_n 1, 1) := by decide +kernel
theorem d_Tt_differs_19 : decode b_Tt_differs 19 = .ok (.iload_n 2, 1) := by decide +kernel
theorem d_Tt_differs_20 : decode b_Tt_differs 20 = .ok (.invokevirtual 37, 3) := by decide +kernel
theorem d_Tt_differs_23 : decode b_Tt_differs 23 = .ok (.if_icmp .eq 7, 3) := by decide +kernel
theorem d_Tt_differs_26 : decode b_Tt_differs 26 = .ok (.iconst 1, 1) := by decide +kernel
theorem d_Tt_differs_27 : decode b_Tt_differs 27 = .ok (.goto 4, 3) := by decide +kernel
theorem d_Tt_differs_30 : decode b_Tt_differs 30 = .ok (.iconst 0, 1) := by decide +kernel
theorem d_Tt_differs_31 : decode b_Tt_differs 31 = .ok (.ireturn, 1) := by decide +kernel
theorem d_Tt_isAheadOf_0 : decode b_Tt_isAheadOf 0 = .ok (.aload_n 0, 1) := by decide +kernel
theorem d_Tt_isAheadOf_1 : decode b_Tt_isAheadOf 1 = .ok (.getfield 21, 3) := by decide +kernel
theorem d_Tt_isAheadOf_4 : decode b_Tt_isAheadOf 4 = .ok (.aload_n 1, 1) := by decide +kernel
theorem d_Tt_isAheadOf_5 : decode b_Tt_isAheadOf 5 = .ok (.getfield 21, 3) := by decide +kernel
theorem d_Tt_isAheadOf_8 : decode b_Tt_isAheadOf 8 = .ok (.if_icmp .eq 20, 3) := by decide +kernel
theorem d_Tt_isAheadOf_11 : decode b_Tt_isAheadOf 11 = .ok (.aload_n 0, 1) := by decide +kernel
theorem d_Tt_isAheadOf_12 : decode b_Tt_isAheadOf 12 = .ok (.getfield 21, 3) := by decide +kernel
theorem d_Tt_isAheadOf_15 : decode b_Tt_isAheadOf 15 = .ok (.aload_n 1, 1) := by decide +kernel
theorem d_Tt_isAheadOf_16 : decode b_Tt_isAheadOf 16 = .ok (.getfield 21, 3) := by decide +kernel
theorem d_Tt_isAheadOf_19 : decode b_Tt_isAheadOf 19 = .ok (.if_icmp .ge 7, 3) := by decide +kernel
theorem d_Tt_isAheadOf_22 : decode b_Tt_isAheadOf 22 = .ok (.iconst 1, 1) := by decide +kernel
theorem d_Tt_isAheadOf_23 : decode b_Tt_isAheadOf 23 = .ok (.goto 4, 3) := by decide +kernel
theorem d_Tt_isAheadOf_26 : decode b_Tt_isAheadOf 26 = .ok (.iconst 0, 1) := by decide +kernel
theorem d_Tt_isAheadOf_27 : decode b_Tt_isAheadOf 27 = .ok (.ireturn, 1) := by decide +kernel
theorem d_Tt_isAheadOf_28 : decode b_Tt_isAheadOf 28 = .ok (.iconst 0, 1) := by decide +kernel
theorem d_Tt_isAheadOf_29 : decode b_Tt_isAheadOf 29 = .ok (.istore_n 3, 1) := by decide +kernel
theorem d_Tt_isAheadOf_30 : decode b_Tt_isAheadOf 30 = .ok (.iload_n 3, 1) := by decide +kernel
theorem d_Tt_isAheadOf_31 : decode b_Tt_isAheadOf 31 = .ok (.iconst 4, 1) := by decide +kernel
theorem d_Tt_isAheadOf_32 : decode b_Tt_isAheadOf 32 = .ok (.if_icmp .ge 77, 3) := by decide +kernel
theorem d_Tt_isAheadOf_35 : decode b_Tt_isAheadOf 35 = .ok (.iload_n 2, 1) := by decide +kernel
theorem d_Tt_isAheadOf_36 : decode b_Tt_isAheadOf 36 = .ok (.iload_n 3, 1) := by decide +kernel
theorem d_Tt_isAheadOf_37 : decode b_Tt_isAheadOf 37 = .ok (.invokestatic 25, 3) := by decide +kernel
theorem d_Tt_isAheadOf_40 : decode b_Tt_isAheadOf 40 = .ok (.ifCond .eq 63, 3) := by decide +kernel
theorem d_Tt_isAheadOf_43 : decode b_Tt_isAheadOf 43 = .ok (.aload_n 0, 1) := by decide +kernel
theorem d_Tt_isAheadOf_44 : decode b_Tt_isAheadOf 44 = .ok (.aload_n 1, 1) := by decide +kernel
theorem d_Tt_isAheadOf_45 : decode b_Tt_isAheadOf 45 = .ok (.iload_n 3, 1) := by decide +kernel
theorem d_Tt_isAheadOf_46 : decode b_Tt_isAheadOf 46 = .ok (.invokevirtual 29, 3) := by decide +kernel
theorem d_Tt_isAheadOf_49 : decode b_Tt_isAheadOf 49 = .ok (.ifCond .eq 54, 3) := by decide +kernel
theorem d_Tt_isAheadOf_52 : decode b_Tt_isAheadOf 52 = .ok (.aload_n 0, 1) := by decide +kernel
theorem d_Tt_isAheadOf_53 : decode b_Tt_isAheadOf 53 = .ok (.getfield 9, 3) := by decide +kernel
theorem d_Tt_isAheadOf_56 : decode b_Tt_isAheadOf 56 = .ok (.iload_n 3, 1) := by decide +kernel
theorem d_Tt_isAheadOf_57 : decode b_Tt_isAheadOf 57 = .ok (.iaload, 1) := by decide +kernel
theorem d_Tt_isAheadOf_58 : decode b_Tt_isAheadOf 58 = .ok (.aload_n 1, 1) := by decide +kernel
theorem d_Tt_isAheadOf_59 : decode b_Tt_isAheadOf 59 = .ok (.getfield 9, 3) := by decide +kernel
theorem d_Tt_isAheadOf_62 : decode b_Tt_isAheadOf 62 = .ok (.iload_n 3, 1) := by decide +kernel
theorem d_Tt_isAheadOf_63 : decode b_Tt_isAheadOf 63 = .ok (.iaload, 1) := by decide +kernel
theorem d_Tt_isAheadOf_64 : decode b_Tt_isAheadOf 64 = .ok (.if_icmp .lt 33, 3) := by decide +kernel
theorem d_Tt_isAheadOf_67 : decode b_Tt_isAheadOf 67 = .ok (.aload_n 0, 1) := by decide +kernel
theorem d_Tt_isAheadOf_68 : decode b_Tt_isAheadOf 68 = .ok (.getfield 9, 3) := by decide +kernel
theorem d_Tt_isAheadOf_71 : decode b_Tt_isAheadOf 71 = .ok (.iload_n 3, 1) := by decide +kernel
theorem d_Tt_isAheadOf_72 : decode b_Tt_isAheadOf 72 = .ok (.iaload, 1) := by decide +kernel
theorem d_Tt_isAheadOf_73 : decode b_Tt_isAheadOf 73 = .ok (.aload_n 1, 1) := by decide +kernel
theorem d_Tt_isAheadOf_74 : decode b_Tt_isAheadOf 74 = .ok (.getfield 9, 3) := by decide +kernel
theorem d_Tt_isAheadOf_77 : decode b_Tt_isAheadOf 77 = .ok (.iload_n 3, 1) := by decide +kernel
theorem d_Tt_isAheadOf_78 : decode b_Tt_isAheadOf 78 = .ok (.iaload, 1) := by decide +kernel
theorem d_Tt_isAheadOf_79 : decode b_Tt_isAheadOf 79 = .ok (.if_icmp .ne 22, 3) := by decide +kernel
theorem d_Tt_isAheadOf_82 : decode b_Tt_isAheadOf 82 = .ok (.aload_n 0, 1) := by decide +kernel
theorem d_Tt_isAheadOf_83 : decode b_Tt_isAheadOf 83 = .ok (.getfield 15, 3) := by decide +kernel
theorem d_Tt_isAheadOf_86 : decode b_Tt_isAheadOf 86 = .ok (.iload_n 3, 1) := by decide +kernel
theorem d_Tt_isAheadOf_87 : decode b_Tt_isAheadOf 87 = .ok (.iaload, 1) := by decide +kernel
theorem d_Tt_isAheadOf_88 : decode b_Tt_isAheadOf 88 = .ok (.aload_n 1, 1) := by decide +kernel
theorem d_Tt_isAheadOf_89 : decode b_Tt_isAheadOf 89 = .ok (.getfield 15, 3) := by decide +kernel
theorem d_Tt_isAheadOf_92 : decode b_Tt_isAheadOf 92 = .ok (.iload_n 3, 1) := by decide +kernel
theorem d_Tt_isAheadOf_93 : decode b_Tt_isAheadOf 93 = .ok (.iaload, 1) := by decide +kernel
theorem d_Tt_isAheadOf_94 : decode b_Tt_isAheadOf 94 = .ok (.if_icmp .ge 7, 3) := by decide +kernel
theorem d_Tt_isAheadOf_97 : decode b_Tt_isAheadOf 97 = .ok (.iconst 1, 1) := by decide +kernel
theorem d_Tt_isAheadOf_98 : decode b_Tt_isAheadOf 98 = .ok (.goto 4, 3) := by decide +kernel
theorem d_Tt_isAheadOf_101 : decode b_Tt_isAheadOf 101 = .ok (.iconst 0, 1) := by decide +kernel
theorem d_Tt_isAheadOf_102 : decode b_Tt_isAheadOf 102 = .ok (.ireturn, 1) := by decide +kernel
theorem d_Tt_isAheadOf_103 : decode b_Tt_isAheadOf 103 = .ok (.iinc 3 1, 3) := by decide +kernel
theorem d_Tt_isAheadOf_106 : decode b_Tt_isAheadOf 106 = .ok (.goto (-76), 3) := by decide +kernel
theorem d_Tt_isAheadOf_109 : decode b_Tt_isAheadOf 109 = .ok (.iconst 0, 1) := by decide +kernel
theorem d_Tt_isAheadOf_110 : decode b_Tt_isAheadOf 110 = .ok (.ireturn, 1) := by decide +kernel
theorem d_Tt_put_0 : decode b_Tt_put 0 = .ok (.iconst 0, 1) := by decide +kernel
theorem d_Tt_put_1 : decode b_Tt_put 1 = .ok (.istore 5, 2) := by decide +kernel
theorem d_Tt_put_3 : decode b_Tt_put 3 = .ok (.iload 5, 2) := by decide +kernel
theorem d_Tt_put_5 : decode b_Tt_put 5 = .ok (.iconst 4, 1) := by decide +kernel
theorem d_Tt_put_6 : decode b_Tt_put 6 = .ok (.if_icmp .ge 43, 3) := by decide +kernel
theorem d_Tt_put_9 : decode b_Tt_put 9 = .ok (.iload_n 1, 1) := by decide +kernel
theorem d_Tt_put_10 : decode b_Tt_put 10 = .ok (.iload 5, 2) := by decide +kernel
theorem d_Tt_put_12 : decode b_Tt_put 12 = .ok (.invokestatic 25, 3) := by decide +kernel
theorem d_Tt_put_15 : decode b_Tt_put 15 = .ok (.ifCond .eq 28, 3) := by decide +kernel
theorem d_Tt_put_18 : decode b_Tt_put 18 = .ok (.aload_n 0, 1) := by decide +kernel
theorem d_Tt_put_19 : decode b_Tt_put 19 = .ok (.getfield 9, 3) := by decide +kernel
theorem d_Tt_put_22 : decode b_Tt_put 22 = .ok (.iload 5, 2) := by decide +kernel
theorem d_Tt_put_24 : decode b_Tt_put 24 = .ok (.iload 4, 2) := by decide +kernel
theorem d_Tt_put_26 : decode b_Tt_put 26 = .ok (.iastore, 1) := by decide +kernel
theorem d_Tt_put_27 : decode b_Tt_put 27 = .ok (.aload_n 0, 1) := by decide +kernel
theorem d_Tt_put_28 : decode b_Tt_put 28 = .ok (.getfield 15, 3) := by decide +kernel
theorem d_Tt_put_31 : decode b_Tt_put 31 = .ok (.iload 5, 2) := by decide +kernel
theorem d_Tt_put_33 : decode b_Tt_put 33 = .ok (.iload_n 2, 1) := by decide +kernel
theorem d_Tt_put_34 : decode b_Tt_put 34 = .ok (.iastore, 1) := by decide +kernel
theorem d_Tt_put_35 : decode b_Tt_put 35 = .ok (.aload_n 0, 1) := by decide +kernel
theorem d_Tt_put_36 : decode b_Tt_put 36 = .ok (.getfield 18, 3) := by decide +kernel
theorem d_Tt_put_39 : decode b_Tt_put 39 = .ok (.iload 5, 2) := by decide +kernel
theorem d_Tt_put_41 : decode b_Tt_put 41 = .ok (.iload_n 3, 1) := by decide +kernel
theorem d_Tt_put_42 : decode b_Tt_put 42 = .ok (.iastore, 1) := by decide +kernel
theorem d_Tt_put_43 : decode b_Tt_put 43 = .ok (.iinc 5 1, 3) := by decide +kernel
theorem d_Tt_put_46 : decode b_Tt_put 46 = .ok (.goto (-43), 3) := by decide +kernel
theorem d_Tt_put_49 : decode b_Tt_put 49 = .ok (.return_, 1) := by decide +kernel
theorem d_Tt_runOf_0 : decode b_Tt_runOf 0 = .ok (.iload_n 1, 1) := by decide +kernel
theorem d_Tt_runOf_1 : decode b_Tt_runOf 1 = .ok (.ifCond .lt 17, 3) := by decide +kernel
theorem d_Tt_runOf_4 : decode b_Tt_runOf 4 = .ok (.iload_n 1, 1) := by decide +kernel
theorem d_Tt_runOf_5 : decode b_Tt_runOf 5 = .ok (.iconst 4, 1) := by decide +kernel
theorem d_Tt_runOf_6 : decode b_Tt_runOf 6 = .ok (.if_icmp .ge 12, 3) := by decide +kernel
theorem d_Tt_runOf_9 : decode b_Tt_runOf 9 = .ok (.aload_n 0, 1) := by decide +kernel
theorem d_Tt_runOf_10 : decode b_Tt_runOf 10 = .ok (.getfield 18, 3) := by decide +kernel
theorem d_Tt_runOf_13 : decode b_Tt_runOf 13 = .ok (.iload_n 1, 1) := by decide +kernel
theorem d_Tt_runOf_14 : decode b_Tt_runOf 14 = .ok (.iaload, 1) := by decide +kernel
theorem d_Tt_runOf_15 : decode b_Tt_runOf 15 = .ok (.goto 4, 3) := by decide +kernel
theorem d_Tt_runOf_18 : decode b_Tt_runOf 18 = .ok (.iconst (-1), 1) := by decide +kernel
theorem d_Tt_runOf_19 : decode b_Tt_runOf 19 = .ok (.ireturn, 1) := by decide +kernel
theorem d_Tt_setWaiting_0 : decode b_Tt_setWaiting 0 = .ok (.aload_n 0, 1) := by decide +kernel
theorem d_Tt_setWaiting_1 : decode b_Tt_setWaiting 1 = .ok (.iload_n 1, 1) := by decide +kernel
theorem d_Tt_setWaiting_2 : decode b_Tt_setWaiting 2 = .ok (.putfield 21, 3) := by decide +kernel
theorem d_Tt_setWaiting_5 : decode b_Tt_setWaiting 5 = .ok (.return_, 1) := by decide +kernel
theorem d_Tt_waiting_0 : decode b_Tt_waiting 0 = .ok (.aload_n 0, 1) := by decide +kernel
theorem d_Tt_waiting_1 : decode b_Tt_waiting 1 = .ok (.getfield 21, 3) := by decide +kernel
theorem d_Tt_waiting_4 : decode b_Tt_waiting 4 = .ok (.ireturn, 1) := by decide +kernel
end
section
abbrev St : Type := (Nat → Int32) × (Nat → Nat → Int32)
/-- the class's world: 31 cells, at the addresses ad 0, ad 1, .. -/
def WC (ad : Nat → Nat) (cI : ClassId) (st : St) : va_W :=
  [(ad 0, .inr (0, [.ref (ad 1), .ref (ad 2), .ref (ad 3), .ref (ad 4)])),
  (ad 1, .inr (1, [.ref (ad 8), .ref (ad 9), .ref (ad 10), .int (st.1 0), .ref (ad 11), .ref (ad 12), .ref (ad 13), .int (st.1 1)])),
  (ad 2, .inr (2, [.ref (ad 14), .ref (ad 15), .ref (ad 16), .ref (ad 17), .ref (ad 18), .int (st.1 2)])),
  (ad 3, .inr (3, [.ref (ad 1), .ref (ad 2), .ref (ad 19), .ref (ad 20), .ref (ad 21), .int (st.1 3)])),
  (ad 4, .inr (5, [.ref (ad 1), .ref (ad 2), .ref (ad 3), .ref (ad 5), .ref (ad 6), .ref (ad 7), .int (st.1 7), .int (st.1 8)])),
  (ad 5, .inr (4, [.ref (ad 22), .ref (ad 23), .ref (ad 24), .int (st.1 4)])),
  (ad 6, .inr (4, [.ref (ad 25), .ref (ad 26), .ref (ad 27), .int (st.1 5)])),
  (ad 7, .inr (4, [.ref (ad 28), .ref (ad 29), .ref (ad 30), .int (st.1 6)])),
  (ad 8, .inl (cI, 2, .inl (st.2 0))),
  (ad 9, .inl (cI, 2, .inl (st.2 1))),
  (ad 10, .inl (cI, 2, .inl (st.2 2))),
  (ad 11, .inl (cI, 8, .inl (st.2 3))),
  (ad 12, .inl (cI, 8, .inl (st.2 4))),
  (ad 13, .inl (cI, 8, .inl (st.2 5))),
  (ad 14, .inl (cI, 4, .inl (st.2 6))),
  (ad 15, .inl (cI, 4, .inl (st.2 7))),
  (ad 16, .inl (cI, 4, .inl (st.2 8))),
  (ad 17, .inl (cI, 4, .inl (st.2 9))),
  (ad 18, .inl (cI, 4, .inl (st.2 10))),
  (ad 19, .inl (cI, 4, .inl (st.2 11))),
  (ad 20, .inl (cI, 4, .inl (st.2 12))),
  (ad 21, .inl (cI, 128, .inl (st.2 13))),
  (ad 22, .inl (cI, 4, .inl (st.2 14))),
  (ad 23, .inl (cI, 4, .inl (st.2 15))),
  (ad 24, .inl (cI, 4, .inl (st.2 16))),
  (ad 25, .inl (cI, 4, .inl (st.2 17))),
  (ad 26, .inl (cI, 4, .inl (st.2 18))),
  (ad 27, .inl (cI, 4, .inl (st.2 19))),
  (ad 28, .inl (cI, 4, .inl (st.2 20))),
  (ad 29, .inl (cI, 4, .inl (st.2 21))),
  (ad 30, .inl (cI, 4, .inl (st.2 22)))]
def LC (ad : Nat → Nat) : List Nat := [ad 0, ad 1, ad 2, ad 3, ad 4, ad 5, ad 6, ad 7, ad 8, ad 9, ad 10, ad 11, ad 12, ad 13, ad 14, ad 15, ad 16, ad 17, ad 18, ad 19, ad 20, ad 21, ad 22, ad 23, ad 24, ad 25, ad 26, ad 27, ad 28, ad 29, ad 30]
theorem WC_D {ad : Nat → Nat} {cI : ClassId} (N : (LC ad).Nodup) (sz : Nat) (st : St) : va_D (xA (LC ad) sz) (WC ad cI st) := xD_L (L := LC ad) (wf := WC ad cI) (fun _ => rfl) N sz st
def sI (st : St) (k : Nat) (v : Int32) : St := (upd st.1 k v, st.2)
def sA (st : St) (k i : Nat) (v : Int32) : St := (st.1, fun j => if j = k then upd (st.2 k) i v else st.2 j)
theorem xlt_3 {k : Nat} (h : k < 3) : k = 0 ∨ k = 1 ∨ k = 2 := by omega
theorem xlt_7 {k : Nat} (h : k < 7) : k = 0 ∨ k = 1 ∨ k = 2 ∨ k = 3 ∨ k = 4 ∨ k = 5 ∨ k = 6 := by omega
theorem xlt_8 {k : Nat} (h : k < 8) : k = 0 ∨ k = 1 ∨ k = 2 ∨ k = 3 ∨ k = 4 ∨ k = 5 ∨ k = 6 ∨ k = 7 := by omega
def tyC (cI : ClassId) : List (ClassId × FieldType) := [(cI, .int)]
set_option maxRecDepth 20000 in
theorem Y_Be_layFrom : xY y_Be_layFrom b_Be_layFrom 14 (some .boolean) 4 := ⟨BIG_at 290 rfl rfl, BIG_at 4 (by decide +kernel) (by decide +kernel), by decide +kernel, by decide +kernel, by decide +kernel⟩
theorem i_Be_33 : xIV R_Be 33 y_Be_layFrom := ⟨BIG_at 287 (by decide +kernel) (by decide +kernel), BIG_at 289 (by decide +kernel) (by decide +kernel), BIG_sel (q := (y_Be_layFrom, 6)) 5 (by decide +kernel) (by decide +kernel)⟩
set_option maxRecDepth 20000 in
theorem Y_LR_holds : xY y_LR_holds b_LR_holds 2 (some .boolean) 2 := ⟨BIG_at 254 rfl rfl, BIG_at 1 (by decide +kernel) (by decide +kernel), by decide +kernel, by decide +kernel, by decide +kernel⟩
theorem i_Be_37 : xISN R_Be 37 y_LR_holds := ⟨"LockRuns", by decide +kernel, BIG_at 253 (by decide +kernel) (by decide +kernel)⟩
set_option maxRecDepth 20000 in
theorem Y_Fl_length : xY y_Fl_length b_Fl_length 2 (some .int) 1 := ⟨BIG_at 295 rfl rfl, BIG_at 3 (by decide +kernel) (by decide +kernel), by decide +kernel, by decide +kernel, by decide +kernel⟩
theorem i_Be_41 : xIV R_Be 41 y_Fl_length := ⟨BIG_at 292 (by decide +kernel) (by decide +kernel), BIG_at 293 (by decide +kernel) (by decide +kernel), BIG_at 294 (by decide +kernel) (by decide +kernel)⟩
set_option maxRecDepth 20000 in
theorem Y_Fl_width : xY y_Fl_width b_Fl_width 2 (some .int) 1 := ⟨BIG_at 299 rfl rfl, BIG_at 3 (by decide +kernel) (by decide +kernel), by decide +kernel, by decide +kernel, by decide +kernel⟩
theorem i_Be_47 : xIV R_Be 47 y_Fl_width := ⟨BIG_at 296 (by decide +kernel) (by decide +kernel), BIG_at 297 (by decide +kernel) (by decide +kernel), BIG_at 298 (by decide +kernel) (by decide +kernel)⟩
set_option maxRecDepth 20000 in
theorem Y_Ch_length : xY y_Ch_length b_Ch_length 2 (some .int) 1 := ⟨BIG_at 303 rfl rfl, BIG_at 2 (by decide +kernel) (by decide +kernel), by decide +kernel, by decide +kernel, by decide +kernel⟩
theorem i_Be_50 : xIV R_Be 50 y_Ch_length := ⟨BIG_at 300 (by decide +kernel) (by decide +kernel), BIG_at 301 (by decide +kernel) (by decide +kernel), BIG_at 302 (by decide +kernel) (by decide +kernel)⟩
set_option maxRecDepth 20000 in
theorem Y_Ch_width : xY y_Ch_width b_Ch_width 2 (some .int) 1 := ⟨BIG_at 307 rfl rfl, BIG_at 2 (by decide +kernel) (by decide +kernel), by decide +kernel, by decide +kernel, by decide +kernel⟩
theorem i_Be_53 : xIV R_Be 53 y_Ch_width := ⟨BIG_at 304 (by decide +kernel) (by decide +kernel), BIG_at 305 (by decide +kernel) (by decide +kernel), BIG_at 306 (by decide +kernel) (by decide +kernel)⟩
set_option maxRecDepth 20000 in
theorem Y_Fl_side : xY y_Fl_side b_Fl_side 2 (some .int) 1 := ⟨BIG_at 311 rfl rfl, BIG_at 3 (by decide +kernel) (by decide +kernel), by decide +kernel, by decide +kernel, by decide +kernel⟩
theorem i_Be_54 : xIV R_Be 54 y_Fl_side := ⟨BIG_at 308 (by decide +kernel) (by decide +kernel), BIG_at 309 (by decide +kernel) (by decide +kernel), BIG_at 310 (by decide +kernel) (by decide +kernel)⟩
set_option maxRecDepth 20000 in
theorem Y_Be_cells : xY y_Be_cells b_Be_cells 7 (some .int) 4 := ⟨BIG_at 314 rfl rfl, BIG_at 4 (by decide +kernel) (by decide +kernel), by decide +kernel, by decide +kernel, by decide +kernel⟩
theorem i_Be_57 : xIS R_Be 57 y_Be_cells := ⟨BIG_at 312 (by decide +kernel) (by decide +kernel), BIG_at 313 (by decide +kernel) (by decide +kernel)⟩
set_option maxRecDepth 20000 in
theorem Y_Ch_has : xY y_Ch_has b_Ch_has 2 (some .boolean) 1 := ⟨BIG_at 176 rfl rfl, BIG_at 2 (by decide +kernel) (by decide +kernel), by decide +kernel, by decide +kernel, by decide +kernel⟩
theorem i_Ch_37 : xIV R_Ch 37 y_Ch_has := ⟨BIG_at 273 (by decide +kernel) (by decide +kernel), BIG_at 174 (by decide +kernel) (by decide +kernel), BIG_at 175 (by decide +kernel) (by decide +kernel)⟩
set_option maxRecDepth 20000 in
theorem Y_Ch_pastSpans : xY y_Ch_pastSpans b_Ch_pastSpans 6 (some .int) 2 := ⟨BIG_at 331 rfl rfl, BIG_at 2 (by decide +kernel) (by decide +kernel), by decide +kernel, by decide +kernel, by decide +kernel⟩
theorem i_Ch_41 : xIV R_Ch 41 y_Ch_pastSpans := ⟨BIG_at 328 (by decide +kernel) (by decide +kernel), BIG_at 330 (by decide +kernel) (by decide +kernel), BIG_sel (q := (y_Ch_pastSpans, 8)) 6 (by decide +kernel) (by decide +kernel)⟩
set_option maxRecDepth 20000 in
theorem Y_Ch_fill : xY y_Ch_fill b_Ch_fill 2 (some .int) 1 := ⟨BIG_at 272 rfl rfl, BIG_at 2 (by decide +kernel) (by decide +kernel), by decide +kernel, by decide +kernel, by decide +kernel⟩
theorem i_Ch_45 : xIV R_Ch 45 y_Ch_fill := ⟨BIG_at 332 (by decide +kernel) (by decide +kernel), BIG_at 270 (by decide +kernel) (by decide +kernel), BIG_at 271 (by decide +kernel) (by decide +kernel)⟩
set_option maxRecDepth 20000 in
theorem Y_Fl_has : xY y_Fl_has b_Fl_has 2 (some .boolean) 1 := ⟨BIG_at 239 rfl rfl, BIG_at 3 (by decide +kernel) (by decide +kernel), by decide +kernel, by decide +kernel, by decide +kernel⟩
theorem i_Fl_31 : xIV R_Fl 31 y_Fl_has := ⟨BIG_at 236 (by decide +kernel) (by decide +kernel), BIG_at 237 (by decide +kernel) (by decide +kernel), BIG_at 238 (by decide +kernel) (by decide +kernel)⟩
theorem i_Fl_35 : xISN R_Fl 35 y_LR_holds := ⟨"LockRuns", by decide +kernel, BIG_at 253 (by decide +kernel) (by decide +kernel)⟩
set_option maxRecDepth 20000 in
theorem Y_Fl_waiting : xY y_Fl_waiting b_Fl_waiting 5 (some .int) 2 := ⟨BIG_at 340 rfl rfl, BIG_at 3 (by decide +kernel) (by decide +kernel), by decide +kernel, by decide +kernel, by decide +kernel⟩
theorem i_Pl_102 : xIV R_Pl 102 y_Fl_waiting := ⟨BIG_at 337 (by decide +kernel) (by decide +kernel), BIG_at 338 (by decide +kernel) (by decide +kernel), BIG_at 339 (by decide +kernel) (by decide +kernel)⟩
set_option maxRecDepth 20000 in
theorem Y_Be_canLay : xY y_Be_canLay b_Be_canLay 4 (some .boolean) 2 := ⟨BIG_at 286 rfl rfl, BIG_at 4 (by decide +kernel) (by decide +kernel), by decide +kernel, by decide +kernel, by decide +kernel⟩
theorem i_Pl_104 : xIV R_Pl 104 y_Be_canLay := ⟨BIG_at 283 (by decide +kernel) (by decide +kernel), BIG_at 284 (by decide +kernel) (by decide +kernel), BIG_at 285 (by decide +kernel) (by decide +kernel)⟩
set_option maxRecDepth 20000 in
theorem Y_Fl_size : xY y_Fl_size b_Fl_size 1 (some .int) 0 := ⟨BIG_at 227 rfl rfl, BIG_at 3 (by decide +kernel) (by decide +kernel), by decide +kernel, by decide +kernel, by decide +kernel⟩
theorem i_Pl_109 : xIV R_Pl 109 y_Fl_size := ⟨BIG_at 224 (by decide +kernel) (by decide +kernel), BIG_at 225 (by decide +kernel) (by decide +kernel), BIG_at 226 (by decide +kernel) (by decide +kernel)⟩
set_option maxRecDepth 20000 in
theorem Y_Pl_overtaken : xY y_Pl_overtaken b_Pl_overtaken 5 (some .int) 2 := ⟨BIG_at 231 rfl rfl, BIG_at 5 (by decide +kernel) (by decide +kernel), by decide +kernel, by decide +kernel, by decide +kernel⟩
theorem i_Pl_112 : xIV R_Pl 112 y_Pl_overtaken := ⟨BIG_at 228 (by decide +kernel) (by decide +kernel), BIG_at 230 (by decide +kernel) (by decide +kernel), BIG_sel (q := (y_Pl_overtaken, 8)) 2 (by decide +kernel) (by decide +kernel)⟩
set_option maxRecDepth 20000 in
theorem Y_Tt_setWaiting : xY y_Tt_setWaiting b_Tt_setWaiting 2 none 1 := ⟨BIG_at 247 rfl rfl, BIG_at 6 (by decide +kernel) (by decide +kernel), by decide +kernel, by decide +kernel, by decide +kernel⟩
theorem i_Pl_115 : xIV R_Pl 115 y_Tt_setWaiting := ⟨BIG_at 244 (by decide +kernel) (by decide +kernel), BIG_at 245 (by decide +kernel) (by decide +kernel), BIG_at 246 (by decide +kernel) (by decide +kernel)⟩
set_option maxRecDepth 20000 in
theorem Y_Tt_isAheadOf : xY y_Tt_isAheadOf b_Tt_isAheadOf 4 (some .boolean) 2 := ⟨BIG_at 251 rfl rfl, BIG_at 6 (by decide +kernel) (by decide +kernel), by decide +kernel, by decide +kernel, by decide +kernel⟩
theorem i_Pl_118 : xIV R_Pl 118 y_Tt_isAheadOf := ⟨BIG_at 248 (by decide +kernel) (by decide +kernel), BIG_at 249 (by decide +kernel) (by decide +kernel), BIG_at 250 (by decide +kernel) (by decide +kernel)⟩
set_option maxRecDepth 20000 in
theorem Y_Fl_comesBehind : xY y_Fl_comesBehind b_Fl_comesBehind 3 (some .boolean) 2 := ⟨BIG_at 235 rfl rfl, BIG_at 3 (by decide +kernel) (by decide +kernel), by decide +kernel, by decide +kernel, by decide +kernel⟩
theorem i_Pl_122 : xIV R_Pl 122 y_Fl_comesBehind := ⟨BIG_at 232 (by decide +kernel) (by decide +kernel), BIG_at 233 (by decide +kernel) (by decide +kernel), BIG_at 234 (by decide +kernel) (by decide +kernel)⟩
set_option maxRecDepth 20000 in
theorem Y_Tt_begin : xY y_Tt_begin b_Tt_begin 2 (some .int) 1 := ⟨BIG_at 243 rfl rfl, BIG_at 6 (by decide +kernel) (by decide +kernel), by decide +kernel, by decide +kernel, by decide +kernel⟩
theorem i_Pl_125 : xIV R_Pl 125 y_Tt_begin := ⟨BIG_at 240 (by decide +kernel) (by decide +kernel), BIG_at 241 (by decide +kernel) (by decide +kernel), BIG_at 242 (by decide +kernel) (by decide +kernel)⟩
set_option maxRecDepth 20000 in
theorem Y_Tt_chamberOf : xY y_Tt_chamberOf b_Tt_chamberOf 2 (some .int) 1 := ⟨BIG_at 263 rfl rfl, BIG_at 6 (by decide +kernel) (by decide +kernel), by decide +kernel, by decide +kernel, by decide +kernel⟩
theorem i_Pl_128 : xIV R_Pl 128 y_Tt_chamberOf := ⟨BIG_at 378 (by decide +kernel) (by decide +kernel), BIG_at 261 (by decide +kernel) (by decide +kernel), BIG_at 262 (by decide +kernel) (by decide +kernel)⟩
set_option maxRecDepth 20000 in
theorem Y_Tt_runOf : xY y_Tt_runOf b_Tt_runOf 2 (some .int) 1 := ⟨BIG_at 382 rfl rfl, BIG_at 6 (by decide +kernel) (by decide +kernel), by decide +kernel, by decide +kernel, by decide +kernel⟩
theorem i_Pl_131 : xIV R_Pl 131 y_Tt_runOf := ⟨BIG_at 379 (by decide +kernel) (by decide +kernel), BIG_at 380 (by decide +kernel) (by decide +kernel), BIG_at 381 (by decide +kernel) (by decide +kernel)⟩
set_option maxRecDepth 20000 in
theorem Y_Pl_layRunOf : xY y_Pl_layRunOf b_Pl_layRunOf 3 (some .boolean) 1 := ⟨BIG_at 541 rfl rfl, BIG_at 5 (by decide +kernel) (by decide +kernel), by decide +kernel, by decide +kernel, by decide +kernel⟩
theorem i_Pl_134 : xIV R_Pl 134 y_Pl_layRunOf := ⟨BIG_at 538 (by decide +kernel) (by decide +kernel), BIG_at 540 (by decide +kernel) (by decide +kernel), BIG_sel (q := (y_Pl_layRunOf, 8)) 9 (by decide +kernel) (by decide +kernel)⟩
set_option maxRecDepth 20000 in
theorem Y_Be_x : xY y_Be_x b_Be_x 2 (some .int) 1 := ⟨BIG_at 553 rfl rfl, BIG_at 4 (by decide +kernel) (by decide +kernel), by decide +kernel, by decide +kernel, by decide +kernel⟩
theorem i_Pl_137 : xIV R_Pl 137 y_Be_x := ⟨BIG_at 550 (by decide +kernel) (by decide +kernel), BIG_at 551 (by decide +kernel) (by decide +kernel), BIG_at 552 (by decide +kernel) (by decide +kernel)⟩
set_option maxRecDepth 20000 in
theorem Y_Be_y : xY y_Be_y b_Be_y 2 (some .int) 1 := ⟨BIG_at 557 rfl rfl, BIG_at 4 (by decide +kernel) (by decide +kernel), by decide +kernel, by decide +kernel, by decide +kernel⟩
theorem i_Pl_140 : xIV R_Pl 140 y_Be_y := ⟨BIG_at 554 (by decide +kernel) (by decide +kernel), BIG_at 555 (by decide +kernel) (by decide +kernel), BIG_at 556 (by decide +kernel) (by decide +kernel)⟩
set_option maxRecDepth 20000 in
theorem Y_Fl_arrival : xY y_Fl_arrival b_Fl_arrival 2 (some .int) 1 := ⟨BIG_at 561 rfl rfl, BIG_at 3 (by decide +kernel) (by decide +kernel), by decide +kernel, by decide +kernel, by decide +kernel⟩
theorem i_Pl_143 : xIV R_Pl 143 y_Fl_arrival := ⟨BIG_at 558 (by decide +kernel) (by decide +kernel), BIG_at 559 (by decide +kernel) (by decide +kernel), BIG_at 560 (by decide +kernel) (by decide +kernel)⟩
set_option maxRecDepth 20000 in
theorem Y_Tt_aboard : xY y_Tt_aboard b_Tt_aboard 6 (some .int) 3 := ⟨BIG_at 545 rfl rfl, BIG_at 6 (by decide +kernel) (by decide +kernel), by decide +kernel, by decide +kernel, by decide +kernel⟩
theorem i_Pl_146 : xIV R_Pl 146 y_Tt_aboard := ⟨BIG_at 542 (by decide +kernel) (by decide +kernel), BIG_at 543 (by decide +kernel) (by decide +kernel), BIG_at 544 (by decide +kernel) (by decide +kernel)⟩
set_option maxRecDepth 20000 in
theorem Y_Be_lay : xY y_Be_lay b_Be_lay 3 (some .boolean) 2 := ⟨BIG_at 549 rfl rfl, BIG_at 4 (by decide +kernel) (by decide +kernel), by decide +kernel, by decide +kernel, by decide +kernel⟩
theorem i_Pl_150 : xIV R_Pl 150 y_Be_lay := ⟨BIG_at 546 (by decide +kernel) (by decide +kernel), BIG_at 547 (by decide +kernel) (by decide +kernel), BIG_at 548 (by decide +kernel) (by decide +kernel)⟩
set_option maxRecDepth 20000 in
theorem Y_Tt_beginOfAll : xY y_Tt_beginOfAll b_Tt_beginOfAll 3 (some .int) 1 := ⟨BIG_at 577 rfl rfl, BIG_at 6 (by decide +kernel) (by decide +kernel), by decide +kernel, by decide +kernel, by decide +kernel⟩
theorem i_Pl_153 : xIV R_Pl 153 y_Tt_beginOfAll := ⟨BIG_at 574 (by decide +kernel) (by decide +kernel), BIG_at 575 (by decide +kernel) (by decide +kernel), BIG_at 576 (by decide +kernel) (by decide +kernel)⟩
set_option maxRecDepth 20000 in
theorem Y_Tt_waiting : xY y_Tt_waiting b_Tt_waiting 1 (some .int) 0 := ⟨BIG_at 219 rfl rfl, BIG_at 6 (by decide +kernel) (by decide +kernel), by decide +kernel, by decide +kernel, by decide +kernel⟩
theorem i_Pl_44 : xIV R_Pl 44 y_Tt_waiting := ⟨BIG_at 216 (by decide +kernel) (by decide +kernel), BIG_at 217 (by decide +kernel) (by decide +kernel), BIG_at 218 (by decide +kernel) (by decide +kernel)⟩
set_option maxRecDepth 20000 in
theorem Y_Fl_all : xY y_Fl_all b_Fl_all 1 (some .int) 0 := ⟨BIG_at 211 rfl rfl, BIG_at 3 (by decide +kernel) (by decide +kernel), by decide +kernel, by decide +kernel, by decide +kernel⟩
theorem i_Pl_48 : xIV R_Pl 48 y_Fl_all := ⟨BIG_at 208 (by decide +kernel) (by decide +kernel), BIG_at 209 (by decide +kernel) (by decide +kernel), BIG_at 210 (by decide +kernel) (by decide +kernel)⟩
set_option maxRecDepth 20000 in
theorem Y_Pl_tryRuns : xY y_Pl_tryRuns b_Pl_tryRuns 12 none 6 := ⟨BIG_at 215 rfl rfl, BIG_at 5 (by decide +kernel) (by decide +kernel), by decide +kernel, by decide +kernel, by decide +kernel⟩
theorem i_Pl_53 : xIV R_Pl 53 y_Pl_tryRuns := ⟨BIG_at 212 (by decide +kernel) (by decide +kernel), BIG_at 214 (by decide +kernel) (by decide +kernel), BIG_sel (q := (y_Pl_tryRuns, 8)) 0 (by decide +kernel) (by decide +kernel)⟩
set_option maxRecDepth 20000 in
theorem Y_Tt_copyFrom : xY y_Tt_copyFrom b_Tt_copyFrom 3 none 1 := ⟨BIG_at 267 rfl rfl, BIG_at 6 (by decide +kernel) (by decide +kernel), by decide +kernel, by decide +kernel, by decide +kernel⟩
theorem i_Pl_57 : xIV R_Pl 57 y_Tt_copyFrom := ⟨BIG_at 264 (by decide +kernel) (by decide +kernel), BIG_at 265 (by decide +kernel) (by decide +kernel), BIG_at 266 (by decide +kernel) (by decide +kernel)⟩
set_option maxRecDepth 20000 in
theorem Y_Tt_differences : xY y_Tt_differences b_Tt_differences 5 (some .int) 2 := ⟨BIG_at 602 rfl rfl, BIG_at 6 (by decide +kernel) (by decide +kernel), by decide +kernel, by decide +kernel, by decide +kernel⟩
theorem i_Pl_61 : xIV R_Pl 61 y_Tt_differences := ⟨BIG_at 599 (by decide +kernel) (by decide +kernel), BIG_at 600 (by decide +kernel) (by decide +kernel), BIG_at 601 (by decide +kernel) (by decide +kernel)⟩
set_option maxRecDepth 20000 in
theorem Y_Pl_offerTrial : xY y_Pl_offerTrial b_Pl_offerTrial 3 none 1 := ⟨BIG_at 223 rfl rfl, BIG_at 5 (by decide +kernel) (by decide +kernel), by decide +kernel, by decide +kernel, by decide +kernel⟩
theorem i_Pl_65 : xIV R_Pl 65 y_Pl_offerTrial := ⟨BIG_at 220 (by decide +kernel) (by decide +kernel), BIG_at 222 (by decide +kernel) (by decide +kernel), BIG_sel (q := (y_Pl_offerTrial, 8)) 1 (by decide +kernel) (by decide +kernel)⟩
theorem i_Pl_69 : xIV R_Pl 69 y_Ch_has := ⟨BIG_at 268 (by decide +kernel) (by decide +kernel), BIG_at 174 (by decide +kernel) (by decide +kernel), BIG_at 175 (by decide +kernel) (by decide +kernel)⟩
theorem i_Pl_75 : xIV R_Pl 75 y_Ch_fill := ⟨BIG_at 269 (by decide +kernel) (by decide +kernel), BIG_at 270 (by decide +kernel) (by decide +kernel), BIG_at 271 (by decide +kernel) (by decide +kernel)⟩
set_option maxRecDepth 20000 in
theorem Y_Pl_canRun : xY y_Pl_canRun b_Pl_canRun 3 (some .boolean) 2 := ⟨BIG_at 277 rfl rfl, BIG_at 5 (by decide +kernel) (by decide +kernel), by decide +kernel, by decide +kernel, by decide +kernel⟩
theorem i_Pl_79 : xIV R_Pl 79 y_Pl_canRun := ⟨BIG_at 274 (by decide +kernel) (by decide +kernel), BIG_at 276 (by decide +kernel) (by decide +kernel), BIG_sel (q := (y_Pl_canRun, 8)) 4 (by decide +kernel) (by decide +kernel)⟩
set_option maxRecDepth 20000 in
theorem Y_Fl_commonDirection : xY y_Fl_commonDirection b_Fl_commonDirection 4 (some .int) 1 := ⟨BIG_at 281 rfl rfl, BIG_at 3 (by decide +kernel) (by decide +kernel), by decide +kernel, by decide +kernel, by decide +kernel⟩
theorem i_Pl_83 : xIV R_Pl 83 y_Fl_commonDirection := ⟨BIG_at 278 (by decide +kernel) (by decide +kernel), BIG_at 279 (by decide +kernel) (by decide +kernel), BIG_at 280 (by decide +kernel) (by decide +kernel)⟩
set_option maxRecDepth 20000 in
theorem Y_Fl_lastArrival : xY y_Fl_lastArrival b_Fl_lastArrival 4 (some .int) 1 := ⟨BIG_at 321 rfl rfl, BIG_at 3 (by decide +kernel) (by decide +kernel), by decide +kernel, by decide +kernel, by decide +kernel⟩
theorem i_Pl_86 : xIV R_Pl 86 y_Fl_lastArrival := ⟨BIG_at 318 (by decide +kernel) (by decide +kernel), BIG_at 319 (by decide +kernel) (by decide +kernel), BIG_at 320 (by decide +kernel) (by decide +kernel)⟩
set_option maxRecDepth 20000 in
theorem Y_Ch_firstOpen : xY y_Ch_firstOpen b_Ch_firstOpen 6 (some .int) 2 := ⟨BIG_at 327 rfl rfl, BIG_at 2 (by decide +kernel) (by decide +kernel), by decide +kernel, by decide +kernel, by decide +kernel⟩
theorem i_Pl_95 : xIV R_Pl 95 y_Ch_firstOpen := ⟨BIG_at 324 (by decide +kernel) (by decide +kernel), BIG_at 325 (by decide +kernel) (by decide +kernel), BIG_at 326 (by decide +kernel) (by decide +kernel)⟩
set_option maxRecDepth 20000 in
theorem Y_Tt_put : xY y_Tt_put b_Tt_put 6 none 4 := ⟨BIG_at 336 rfl rfl, BIG_at 6 (by decide +kernel) (by decide +kernel), by decide +kernel, by decide +kernel, by decide +kernel⟩
theorem i_Pl_98 : xIV R_Pl 98 y_Tt_put := ⟨BIG_at 333 (by decide +kernel) (by decide +kernel), BIG_at 334 (by decide +kernel) (by decide +kernel), BIG_at 335 (by decide +kernel) (by decide +kernel)⟩
theorem i_Tt_25 : xISN R_Tt 25 y_LR_holds := ⟨"LockRuns", by decide +kernel, BIG_at 253 (by decide +kernel) (by decide +kernel)⟩
set_option maxRecDepth 20000 in
theorem Y_Tt_differs : xY y_Tt_differs b_Tt_differs 3 (some .boolean) 2 := ⟨BIG_at 258 rfl rfl, BIG_at 6 (by decide +kernel) (by decide +kernel), by decide +kernel, by decide +kernel, by decide +kernel⟩
theorem i_Tt_29 : xIV R_Tt 29 y_Tt_differs := ⟨BIG_at 255 (by decide +kernel) (by decide +kernel), BIG_at 257 (by decide +kernel) (by decide +kernel), BIG_sel (q := (y_Tt_differs, 4)) 3 (by decide +kernel) (by decide +kernel)⟩
theorem i_Tt_33 : xIV R_Tt 33 y_Tt_begin := ⟨BIG_at 259 (by decide +kernel) (by decide +kernel), BIG_at 241 (by decide +kernel) (by decide +kernel), BIG_at 242 (by decide +kernel) (by decide +kernel)⟩
theorem i_Tt_37 : xIV R_Tt 37 y_Tt_chamberOf := ⟨BIG_at 260 (by decide +kernel) (by decide +kernel), BIG_at 261 (by decide +kernel) (by decide +kernel), BIG_at 262 (by decide +kernel) (by decide +kernel)⟩
set_option maxRecDepth 20000 in
theorem Y_Pl_hasPlan : xY y_Pl_hasPlan b_Pl_hasPlan 1 (some .boolean) 0 := ⟨BIG_at 361 rfl rfl, BIG_at 5 (by decide +kernel) (by decide +kernel), by decide +kernel, by decide +kernel, by decide +kernel⟩
theorem i_LR_113 : xIV R_LR 113 y_Pl_hasPlan := ⟨BIG_at 358 (by decide +kernel) (by decide +kernel), BIG_at 359 (by decide +kernel) (by decide +kernel), BIG_at 360 (by decide +kernel) (by decide +kernel)⟩
set_option maxRecDepth 20000 in
theorem Y_Ch_size : xY y_Ch_size b_Ch_size 1 (some .int) 0 := ⟨BIG_at 352 rfl rfl, BIG_at 2 (by decide +kernel) (by decide +kernel), by decide +kernel, by decide +kernel, by decide +kernel⟩
theorem i_LR_141 : xIV R_LR 141 y_Ch_size := ⟨BIG_at 349 (by decide +kernel) (by decide +kernel), BIG_at 350 (by decide +kernel) (by decide +kernel), BIG_at 351 (by decide +kernel) (by decide +kernel)⟩
theorem i_LR_151 : xIV R_LR 151 y_Fl_size := ⟨BIG_at 353 (by decide +kernel) (by decide +kernel), BIG_at 225 (by decide +kernel) (by decide +kernel), BIG_at 226 (by decide +kernel) (by decide +kernel)⟩
set_option maxRecDepth 20000 in
theorem Y_Ch_spans : xY y_Ch_spans b_Ch_spans 1 (some .int) 0 := ⟨BIG_at 357 rfl rfl, BIG_at 2 (by decide +kernel) (by decide +kernel), by decide +kernel, by decide +kernel, by decide +kernel⟩
theorem i_LR_152 : xIV R_LR 152 y_Ch_spans := ⟨BIG_at 354 (by decide +kernel) (by decide +kernel), BIG_at 355 (by decide +kernel) (by decide +kernel), BIG_at 356 (by decide +kernel) (by decide +kernel)⟩
set_option maxRecDepth 20000 in
theorem Y_Be_gap : xY y_Be_gap b_Be_gap 1 (some .int) 0 := ⟨BIG_at 365 rfl rfl, BIG_at 4 (by decide +kernel) (by decide +kernel), by decide +kernel, by decide +kernel, by decide +kernel⟩
theorem i_LR_155 : xIV R_LR 155 y_Be_gap := ⟨BIG_at 362 (by decide +kernel) (by decide +kernel), BIG_at 363 (by decide +kernel) (by decide +kernel), BIG_at 364 (by decide +kernel) (by decide +kernel)⟩
set_option maxRecDepth 20000 in
theorem Y_Pl_over : xY y_Pl_over b_Pl_over 1 (some .int) 0 := ⟨BIG_at 369 rfl rfl, BIG_at 5 (by decide +kernel) (by decide +kernel), by decide +kernel, by decide +kernel, by decide +kernel⟩
theorem i_LR_158 : xIV R_LR 158 y_Pl_over := ⟨BIG_at 366 (by decide +kernel) (by decide +kernel), BIG_at 367 (by decide +kernel) (by decide +kernel), BIG_at 368 (by decide +kernel) (by decide +kernel)⟩
set_option maxRecDepth 20000 in
theorem Y_LR_runsOf : xY y_LR_runsOf b_LR_runsOf 2 (some .int) 1 := ⟨BIG_at 373 rfl rfl, BIG_at 1 (by decide +kernel) (by decide +kernel), by decide +kernel, by decide +kernel, by decide +kernel⟩
theorem i_LR_161 : xIV R_LR 161 y_LR_runsOf := ⟨BIG_at 370 (by decide +kernel) (by decide +kernel), BIG_at 372 (by decide +kernel) (by decide +kernel), BIG_sel (q := (y_LR_runsOf, 4)) 7 (by decide +kernel) (by decide +kernel)⟩
set_option maxRecDepth 20000 in
theorem Y_Pl_runs : xY y_Pl_runs b_Pl_runs 4 (some .int) 1 := ⟨BIG_at 377 rfl rfl, BIG_at 5 (by decide +kernel) (by decide +kernel), by decide +kernel, by decide +kernel, by decide +kernel⟩
theorem i_LR_165 : xIV R_LR 165 y_Pl_runs := ⟨BIG_at 374 (by decide +kernel) (by decide +kernel), BIG_at 375 (by decide +kernel) (by decide +kernel), BIG_at 376 (by decide +kernel) (by decide +kernel)⟩
set_option maxRecDepth 20000 in
theorem Y_LR_within : xY y_LR_within b_LR_within 3 (some .boolean) 3 := ⟨BIG_at 191 rfl rfl, BIG_at 1 (by decide +kernel) (by decide +kernel), by decide +kernel, by decide +kernel, by decide +kernel⟩
theorem i_LR_45 : xIS R_LR 45 y_LR_within := ⟨BIG_at 189 (by decide +kernel) (by decide +kernel), BIG_at 190 (by decide +kernel) (by decide +kernel)⟩
set_option maxRecDepth 20000 in
theorem Y_Pl_forget : xY y_Pl_forget b_Pl_forget 1 none 0 := ⟨BIG_at 184 rfl rfl, BIG_at 5 (by decide +kernel) (by decide +kernel), by decide +kernel, by decide +kernel, by decide +kernel⟩
theorem i_LR_65 : xIV R_LR 65 y_Pl_forget := ⟨BIG_at 181 (by decide +kernel) (by decide +kernel), BIG_at 182 (by decide +kernel) (by decide +kernel), BIG_at 183 (by decide +kernel) (by decide +kernel)⟩
theorem i_LR_75 : xIV R_LR 75 y_Ch_has := ⟨BIG_at 173 (by decide +kernel) (by decide +kernel), BIG_at 174 (by decide +kernel) (by decide +kernel), BIG_at 175 (by decide +kernel) (by decide +kernel)⟩
set_option maxRecDepth 20000 in
theorem Y_Ch_addSpan : xY y_Ch_addSpan b_Ch_addSpan 5 (some .boolean) 3 := ⟨BIG_at 180 rfl rfl, BIG_at 2 (by decide +kernel) (by decide +kernel), by decide +kernel, by decide +kernel, by decide +kernel⟩
theorem i_LR_79 : xIV R_LR 79 y_Ch_addSpan := ⟨BIG_at 177 (by decide +kernel) (by decide +kernel), BIG_at 178 (by decide +kernel) (by decide +kernel), BIG_at 179 (by decide +kernel) (by decide +kernel)⟩
set_option maxRecDepth 20000 in
theorem Y_Be_setGap : xY y_Be_setGap b_Be_setGap 2 none 1 := ⟨BIG_at 195 rfl rfl, BIG_at 4 (by decide +kernel) (by decide +kernel), by decide +kernel, by decide +kernel, by decide +kernel⟩
theorem i_LR_82 : xIV R_LR 82 y_Be_setGap := ⟨BIG_at 192 (by decide +kernel) (by decide +kernel), BIG_at 193 (by decide +kernel) (by decide +kernel), BIG_at 194 (by decide +kernel) (by decide +kernel)⟩
set_option maxRecDepth 20000 in
theorem Y_Pl_setOver : xY y_Pl_setOver b_Pl_setOver 2 none 1 := ⟨BIG_at 199 rfl rfl, BIG_at 5 (by decide +kernel) (by decide +kernel), by decide +kernel, by decide +kernel, by decide +kernel⟩
theorem i_LR_86 : xIV R_LR 86 y_Pl_setOver := ⟨BIG_at 196 (by decide +kernel) (by decide +kernel), BIG_at 197 (by decide +kernel) (by decide +kernel), BIG_at 198 (by decide +kernel) (by decide +kernel)⟩
set_option maxRecDepth 20000 in
theorem Y_Pl_search : xY y_Pl_search b_Pl_search 1 (some .boolean) 0 := ⟨BIG_at 207 rfl rfl, BIG_at 5 (by decide +kernel) (by decide +kernel), by decide +kernel, by decide +kernel, by decide +kernel⟩
theorem i_LR_89 : xIV R_LR 89 y_Pl_search := ⟨BIG_at 204 (by decide +kernel) (by decide +kernel), BIG_at 205 (by decide +kernel) (by decide +kernel), BIG_at 206 (by decide +kernel) (by decide +kernel)⟩
set_option maxRecDepth 20000 in
theorem Y_Pl_waiting : xY y_Pl_waiting b_Pl_waiting 1 (some .int) 0 := ⟨BIG_at 344 rfl rfl, BIG_at 5 (by decide +kernel) (by decide +kernel), by decide +kernel, by decide +kernel, by decide +kernel⟩
theorem i_LR_93 : xIV R_LR 93 y_Pl_waiting := ⟨BIG_at 341 (by decide +kernel) (by decide +kernel), BIG_at 342 (by decide +kernel) (by decide +kernel), BIG_at 343 (by decide +kernel) (by decide +kernel)⟩
theorem g_Be_15 : xF R_Be 15 3 3 := ⟨R_Be, F_Be, 6, rfl, i_Be, by decide, BIG_at 90 (by decide +kernel) (by decide +kernel)⟩
theorem g_Be_18 : xF R_Be 18 3 4 := ⟨R_Be, F_Be, 6, rfl, i_Be, by decide, BIG_at 91 (by decide +kernel) (by decide +kernel)⟩
theorem g_Be_21 : xF R_Be 21 3 0 := ⟨R_Be, F_Be, 6, rfl, i_Be, by decide, BIG_at 87 (by decide +kernel) (by decide +kernel)⟩
theorem g_Be_25 : xF R_Be 25 3 1 := ⟨R_Be, F_Be, 6, rfl, i_Be, by decide, BIG_at 88 (by decide +kernel) (by decide +kernel)⟩
theorem g_Be_29 : xF R_Be 29 3 5 := ⟨R_Be, F_Be, 6, rfl, i_Be, by decide, BIG_at 92 (by decide +kernel) (by decide +kernel)⟩
theorem g_Be_9 : xF R_Be 9 3 2 := ⟨R_Be, F_Be, 6, rfl, i_Be, by decide, BIG_at 89 (by decide +kernel) (by decide +kernel)⟩
theorem g_Ch_15 : xF R_Ch 15 1 1 := ⟨R_Ch, F_Ch, 8, rfl, i_Ch, by decide, BIG_at 31 (by decide +kernel) (by decide +kernel)⟩
theorem g_Ch_18 : xF R_Ch 18 1 2 := ⟨R_Ch, F_Ch, 8, rfl, i_Ch, by decide, BIG_at 32 (by decide +kernel) (by decide +kernel)⟩
theorem g_Ch_21 : xF R_Ch 21 1 4 := ⟨R_Ch, F_Ch, 8, rfl, i_Ch, by decide, BIG_at 34 (by decide +kernel) (by decide +kernel)⟩
theorem g_Ch_24 : xF R_Ch 24 1 5 := ⟨R_Ch, F_Ch, 8, rfl, i_Ch, by decide, BIG_at 35 (by decide +kernel) (by decide +kernel)⟩
theorem g_Ch_27 : xF R_Ch 27 1 6 := ⟨R_Ch, F_Ch, 8, rfl, i_Ch, by decide, BIG_at 36 (by decide +kernel) (by decide +kernel)⟩
theorem g_Ch_30 : xF R_Ch 30 1 3 := ⟨R_Ch, F_Ch, 8, rfl, i_Ch, by decide, BIG_at 33 (by decide +kernel) (by decide +kernel)⟩
theorem g_Ch_34 : xF R_Ch 34 1 7 := ⟨R_Ch, F_Ch, 8, rfl, i_Ch, by decide, BIG_at 37 (by decide +kernel) (by decide +kernel)⟩
theorem g_Ch_9 : xF R_Ch 9 1 0 := ⟨R_Ch, F_Ch, 8, rfl, i_Ch, by decide, BIG_at 30 (by decide +kernel) (by decide +kernel)⟩
theorem g_Fl_15 : xF R_Fl 15 2 1 := ⟨R_Fl, F_Fl, 6, rfl, i_Fl, by decide, BIG_at 63 (by decide +kernel) (by decide +kernel)⟩
theorem g_Fl_18 : xF R_Fl 18 2 2 := ⟨R_Fl, F_Fl, 6, rfl, i_Fl, by decide, BIG_at 64 (by decide +kernel) (by decide +kernel)⟩
theorem g_Fl_21 : xF R_Fl 21 2 3 := ⟨R_Fl, F_Fl, 6, rfl, i_Fl, by decide, BIG_at 65 (by decide +kernel) (by decide +kernel)⟩
theorem g_Fl_24 : xF R_Fl 24 2 4 := ⟨R_Fl, F_Fl, 6, rfl, i_Fl, by decide, BIG_at 66 (by decide +kernel) (by decide +kernel)⟩
theorem g_Fl_27 : xF R_Fl 27 2 5 := ⟨R_Fl, F_Fl, 6, rfl, i_Fl, by decide, BIG_at 67 (by decide +kernel) (by decide +kernel)⟩
theorem g_Fl_9 : xF R_Fl 9 2 0 := ⟨R_Fl, F_Fl, 6, rfl, i_Fl, by decide, BIG_at 62 (by decide +kernel) (by decide +kernel)⟩
theorem g_Pl_12 : xF R_Pl 12 5 3 := ⟨R_Pl, F_Pl, 8, rfl, i_Pl, by decide, BIG_at 134 (by decide +kernel) (by decide +kernel)⟩
theorem g_Pl_18 : xF R_Pl 18 5 4 := ⟨R_Pl, F_Pl, 8, rfl, i_Pl, by decide, BIG_at 135 (by decide +kernel) (by decide +kernel)⟩
theorem g_Pl_21 : xF R_Pl 21 5 5 := ⟨R_Pl, F_Pl, 8, rfl, i_Pl, by decide, BIG_at 136 (by decide +kernel) (by decide +kernel)⟩
theorem g_Pl_24 : xF R_Pl 24 5 7 := ⟨R_Pl, F_Pl, 8, rfl, i_Pl, by decide, BIG_at 138 (by decide +kernel) (by decide +kernel)⟩
theorem g_Pl_28 : xF R_Pl 28 5 0 := ⟨R_Pl, F_Pl, 8, rfl, i_Pl, by decide, BIG_at 131 (by decide +kernel) (by decide +kernel)⟩
theorem g_Pl_32 : xF R_Pl 32 5 1 := ⟨R_Pl, F_Pl, 8, rfl, i_Pl, by decide, BIG_at 132 (by decide +kernel) (by decide +kernel)⟩
theorem g_Pl_36 : xF R_Pl 36 5 2 := ⟨R_Pl, F_Pl, 8, rfl, i_Pl, by decide, BIG_at 133 (by decide +kernel) (by decide +kernel)⟩
theorem g_Pl_40 : xF R_Pl 40 5 6 := ⟨R_Pl, F_Pl, 8, rfl, i_Pl, by decide, BIG_at 137 (by decide +kernel) (by decide +kernel)⟩
theorem g_Tt_15 : xF R_Tt 15 4 1 := ⟨R_Tt, F_Tt, 4, rfl, i_Tt, by decide, BIG_at 119 (by decide +kernel) (by decide +kernel)⟩
theorem g_Tt_18 : xF R_Tt 18 4 2 := ⟨R_Tt, F_Tt, 4, rfl, i_Tt, by decide, BIG_at 120 (by decide +kernel) (by decide +kernel)⟩
theorem g_Tt_21 : xF R_Tt 21 4 3 := ⟨R_Tt, F_Tt, 4, rfl, i_Tt, by decide, BIG_at 121 (by decide +kernel) (by decide +kernel)⟩
theorem g_Tt_9 : xF R_Tt 9 4 0 := ⟨R_Tt, F_Tt, 4, rfl, i_Tt, by decide, BIG_at 118 (by decide +kernel) (by decide +kernel)⟩
theorem g_LR_12 : xF R_LR 12 0 0 := ⟨R_LR, F_LR, 4, rfl, i_LR, by decide, BIG_at 156 (by decide +kernel) (by decide +kernel)⟩
theorem g_LR_19 : xF R_LR 19 0 1 := ⟨R_LR, F_LR, 4, rfl, i_LR, by decide, BIG_at 157 (by decide +kernel) (by decide +kernel)⟩
theorem g_LR_28 : xF R_LR 28 0 2 := ⟨R_LR, F_LR, 4, rfl, i_LR, by decide, BIG_at 158 (by decide +kernel) (by decide +kernel)⟩
theorem g_LR_37 : xF R_LR 37 0 3 := ⟨R_LR, F_LR, 4, rfl, i_LR, by decide, BIG_at 159 (by decide +kernel) (by decide +kernel)⟩
theorem gw_Be_gap : xFW 3 5 .int := ⟨R_Be, F_Be, 6, t_Be, rfl, t_Be_ok, n_Be, rfl, by decide +kernel⟩
theorem gw_Ch_size : xFW 1 3 .int := ⟨R_Ch, F_Ch, 8, t_Ch, rfl, t_Ch_ok, n_Ch, rfl, by decide +kernel⟩
theorem gw_Ch_spans : xFW 1 7 .int := ⟨R_Ch, F_Ch, 8, t_Ch, rfl, t_Ch_ok, n_Ch, rfl, by decide +kernel⟩
theorem gw_Fl_size : xFW 2 5 .int := ⟨R_Fl, F_Fl, 6, t_Fl, rfl, t_Fl_ok, n_Fl, rfl, by decide +kernel⟩
theorem gw_Pl_over : xFW 5 7 .int := ⟨R_Pl, F_Pl, 8, t_Pl, rfl, t_Pl_ok, n_Pl, rfl, by decide +kernel⟩
theorem gw_Pl_planned : xFW 5 6 .boolean := ⟨R_Pl, F_Pl, 8, t_Pl, rfl, t_Pl_ok, n_Pl, rfl, by decide +kernel⟩
theorem gw_Tt_waiting : xFW 4 3 .int := ⟨R_Tt, F_Tt, 4, t_Tt, rfl, t_Tt_ok, n_Tt, rfl, by decide +kernel⟩
theorem mm_Be_61 : xMM R_Be 61 Lib.Math.max.name Lib.Math.max.code := ⟨BIG_at 315 (by decide +kernel) (by decide +kernel), BIG_at 316 (by decide +kernel) (by decide +kernel), BIG_at 13 (by decide +kernel) (by decide +kernel), BIG_at 317 (by decide +kernel) (by decide +kernel)⟩
theorem mm_Fl_39 : xMM R_Fl 39 Lib.Math.max.name Lib.Math.max.code := ⟨BIG_at 322 (by decide +kernel) (by decide +kernel), BIG_at 316 (by decide +kernel) (by decide +kernel), BIG_at 13 (by decide +kernel) (by decide +kernel), BIG_at 317 (by decide +kernel) (by decide +kernel)⟩
theorem mm_Pl_89 : xMM R_Pl 89 Lib.Math.max.name Lib.Math.max.code := ⟨BIG_at 323 (by decide +kernel) (by decide +kernel), BIG_at 316 (by decide +kernel) (by decide +kernel), BIG_at 13 (by decide +kernel) (by decide +kernel), BIG_at 317 (by decide +kernel) (by decide +kernel)⟩
end
section
def f_Fl_all (st : St) : Option (Int32 × St) :=
  some ((1 <<< ((st.1 2) &&& 31)) - 1, st)
def rm_Fl_all : Room := { frames := 0, cells := 0, slots := 0, locals := 0 }
def f_Ch_has (x1 : Int32) (st : St) : Option (Int32 × St) :=
  (if x1 < 0 then some (0, st) else (if (st.1 0) ≤ x1 then some (0, st) else (if 2 ≤ x1 then some (0, st) else some (1, st))))
def rm_Ch_has : Room := { frames := 0, cells := 0, slots := 0, locals := 0 }
def f_Ch_fill (x1 : Int32) (st : St) : Option (Int32 × St) :=
  (f_Ch_has x1 st).bind (fun o1 => (if o1.1 = 0 then some (0, o1.2) else (if xin x1 2 then some (o1.2.2 2 x1.toNatClampNeg, o1.2) else none)))
def rm_Ch_fill : Room := { frames := 1, cells := 0, slots := 0, locals := 21 }
def f_Pl_tryRuns_186 (REC : Int32 → Int32 → Int32 → Int32 → Int32 → Int32 → St → Option (St)) (K56 : Int32 → Int32 → Int32 → Int32 → Int32 → Int32 → Int32 → Int32 → St → Option (St)) (x1 x2 x3 x4 x5 x6 x7 x8 : Int32) (st : St) : Option (St) :=
  K56 x1 x2 x3 x4 x5 x6 x7 (x8 + 1) st
def f_LR_holds (x0 x1 : Int32) (st : St) : Option (Int32 × St) :=
  (if (x0 &&& (1 <<< (x1 &&& 31))) = 0 then some (0, st) else some (1, st))
def rm_LR_holds : Room := { frames := 0, cells := 0, slots := 0, locals := 0 }
def f_Fl_commonDirection_41 (K4 : Int32 → Int32 → Int32 → St → Option (Int32 × St)) (x1 x2 x3 : Int32) (st : St) : Option (Int32 × St) :=
  K4 x1 x2 (x3 + 1) st
def f_Fl_commonDirection_34 (K4 : Int32 → Int32 → Int32 → St → Option (Int32 × St)) (x1 x3 : Int32) (st : St) : Option (Int32 × St) :=
  (if xin x3 4 then xlet (st.2 9 x3.toNatClampNeg) (fun v3 => f_Fl_commonDirection_41 K4 x1 v3 x3 st) else none)
def b_Fl_commonDirection_4 (K4 : Int32 → Int32 → Int32 → St → Option (Int32 × St)) (x1 x2 x3 : Int32) (st : St) : Option (Int32 × St) :=
  (if 4 ≤ x3 then some (x2, st) else (f_LR_holds x1 x3 st).bind (fun o1 => (if o1.1 = 0 then f_Fl_commonDirection_41 K4 x1 x2 x3 o1.2 else (if x2 = (-1) then f_Fl_commonDirection_34 K4 x1 x3 o1.2 else (if xin x3 4 then (if x2 = (o1.2.2 9 x3.toNatClampNeg) then f_Fl_commonDirection_34 K4 x1 x3 o1.2 else some ((-1), o1.2)) else none)))))
def f_Fl_commonDirection_4 : Nat → Int32 → Int32 → Int32 → St → Option (Int32 × St)
  | 0 => fun _ _ _ _ => none
  | n + 1 => b_Fl_commonDirection_4 (f_Fl_commonDirection_4 n)
def f_Fl_commonDirection (x1 : Int32) (st : St) : Option (Int32 × St) :=
  f_Fl_commonDirection_4 40 x1 (-1) 0 st
def rm_Fl_commonDirection : Room := { frames := 1, cells := 0, slots := 0, locals := 21 }
def f_Be_canLay_60 (x3 : Int32) (st : St) : Option (Int32 × St) :=
  (if xin x3 128 then (if (st.2 13 x3.toNatClampNeg) = 1 then some (1, st) else some (0, st)) else none)
def f_Fl_has (x1 : Int32) (st : St) : Option (Int32 × St) :=
  (if x1 < 0 then some (0, st) else (if (st.1 2) ≤ x1 then some (0, st) else (if 4 ≤ x1 then some (0, st) else some (1, st))))
def rm_Fl_has : Room := { frames := 0, cells := 0, slots := 0, locals := 0 }
def f_Fl_length (x1 : Int32) (st : St) : Option (Int32 × St) :=
  (f_Fl_has x1 st).bind (fun o1 => (if o1.1 = 0 then some (0, o1.2) else (if xin x1 4 then some (o1.2.2 6 x1.toNatClampNeg, o1.2) else none)))
def rm_Fl_length : Room := { frames := 1, cells := 0, slots := 0, locals := 21 }
def f_Fl_width (x1 : Int32) (st : St) : Option (Int32 × St) :=
  (f_Fl_has x1 st).bind (fun o1 => (if o1.1 = 0 then some (0, o1.2) else (if xin x1 4 then some (o1.2.2 7 x1.toNatClampNeg, o1.2) else none)))
def rm_Fl_width : Room := { frames := 1, cells := 0, slots := 0, locals := 21 }
def f_Ch_length (x1 : Int32) (st : St) : Option (Int32 × St) :=
  (f_Ch_has x1 st).bind (fun o1 => (if o1.1 = 0 then some (0, o1.2) else (if xin x1 2 then some (o1.2.2 0 x1.toNatClampNeg, o1.2) else none)))
def rm_Ch_length : Room := { frames := 1, cells := 0, slots := 0, locals := 21 }
def f_Ch_width (x1 : Int32) (st : St) : Option (Int32 × St) :=
  (f_Ch_has x1 st).bind (fun o1 => (if o1.1 = 0 then some (0, o1.2) else (if xin x1 2 then some (o1.2.2 1 x1.toNatClampNeg, o1.2) else none)))
def rm_Ch_width : Room := { frames := 1, cells := 0, slots := 0, locals := 21 }
def f_Fl_side (x1 : Int32) (st : St) : Option (Int32 × St) :=
  (f_Fl_has x1 st).bind (fun o1 => (if o1.1 = 0 then some (2, o1.2) else (if xin x1 4 then some (o1.2.2 10 x1.toNatClampNeg, o1.2) else none)))
def rm_Fl_side : Room := { frames := 1, cells := 0, slots := 0, locals := 21 }
def f_Be_cells_62 (K10 : Int32 → Int32 → Int32 → Int32 → Int32 → St → Option (Int32 × St)) (x1 x2 x3 x4 x5 : Int32) (st : St) : Option (Int32 × St) :=
  K10 x1 x2 x3 x4 (x5 + 1) st
def b_Be_cells_30 (K10 : Int32 → Int32 → Int32 → Int32 → Int32 → St → Option (Int32 × St)) (K30 : Int32 → Int32 → Int32 → Int32 → Int32 → Int32 → St → Option (Int32 × St)) (x1 x2 x3 x4 x5 x6 : Int32) (st : St) : Option (Int32 × St) :=
  (if x3 ≤ x6 then f_Be_cells_62 K10 x1 x2 x3 x4 x5 st else (if 3 ≤ x6 then f_Be_cells_62 K10 x1 x2 x3 x4 x5 st else xlet (x4 ||| (1 <<< (((3 * x5) + x6) &&& 31))) (fun v3 => K30 x1 x2 x3 v3 x5 (x6 + 1) st)))
def f_Be_cells_30 (K10 : Int32 → Int32 → Int32 → Int32 → Int32 → St → Option (Int32 × St)) : Nat → Int32 → Int32 → Int32 → Int32 → Int32 → Int32 → St → Option (Int32 × St)
  | 0 => fun _ _ _ _ _ _ _ => none
  | n + 1 => b_Be_cells_30 K10 (f_Be_cells_30 K10 n)
def b_Be_cells_10 (K10 : Int32 → Int32 → Int32 → Int32 → Int32 → St → Option (Int32 × St)) (x1 x2 x3 x4 x5 : Int32) (st : St) : Option (Int32 × St) :=
  (if x1 ≤ x5 then some (x4, st) else (if 8 ≤ x5 then some (x4, st) else xlet (if x2 < 0 then 0 else x2) (fun v2 => f_Be_cells_30 K10 40 x1 x2 x3 x4 x5 v2 st)))
def f_Be_cells_10 : Nat → Int32 → Int32 → Int32 → Int32 → Int32 → St → Option (Int32 × St)
  | 0 => fun _ _ _ _ _ _ => none
  | n + 1 => b_Be_cells_10 (f_Be_cells_10 n)
def f_Be_cells (x0 x1 x2 x3 : Int32) (st : St) : Option (Int32 × St) :=
  xlet (if x0 < 0 then 0 else x0) (fun v1 => f_Be_cells_10 40 x1 x2 x3 0 v1 st)
def rm_Be_cells : Room := { frames := 1, cells := 0, slots := 0, locals := 21 }
def f_Be_layFrom_240 (REC : Int32 → Int32 → Int32 → Int32 → St → Option (Int32 × St)) (K132 : Int32 → Int32 → Int32 → Int32 → Int32 → Int32 → Int32 → Int32 → Int32 → Int32 → Int32 → St → Option (Int32 × St)) (K143 : Int32 → Int32 → Int32 → Int32 → Int32 → Int32 → Int32 → Int32 → Int32 → Int32 → Int32 → Int32 → St → Option (Int32 × St)) (x1 x2 x3 x4 x5 x6 x7 x8 x9 x10 x11 x12 : Int32) (st : St) : Option (Int32 × St) :=
  K143 x1 x2 x3 x4 x5 x6 x7 x8 x9 x10 x11 (x12 + 1) st
def b_Be_layFrom_143 (REC : Int32 → Int32 → Int32 → Int32 → St → Option (Int32 × St)) (K132 : Int32 → Int32 → Int32 → Int32 → Int32 → Int32 → Int32 → Int32 → Int32 → Int32 → Int32 → St → Option (Int32 × St)) (K143 : Int32 → Int32 → Int32 → Int32 → Int32 → Int32 → Int32 → Int32 → Int32 → Int32 → Int32 → Int32 → St → Option (Int32 × St)) (x1 x2 x3 x4 x5 x6 x7 x8 x9 x10 x11 x12 : Int32) (st : St) : Option (Int32 × St) :=
  (if x8 < x12 then K132 x1 x2 x3 x4 x5 x6 x7 x8 x9 x10 (x11 + 1) st else (if ((x10 <<< (((3 * x11) + x12) &&& 31)) &&& x4) = 0 then (if xin x1 4 then (if xin x1 4 then (f_Be_cells (x11 - ((sA (sA st 11 x1.toNatClampNeg x11) 12 x1.toNatClampNeg x12).1 3)) ((x11 + x5) + ((sA (sA st 11 x1.toNatClampNeg x11) 12 x1.toNatClampNeg x12).1 3)) (x12 - ((sA (sA st 11 x1.toNatClampNeg x11) 12 x1.toNatClampNeg x12).1 3)) ((x12 + x6) + ((sA (sA st 11 x1.toNatClampNeg x11) 12 x1.toNatClampNeg x12).1 3)) (sA (sA st 11 x1.toNatClampNeg x11) 12 x1.toNatClampNeg x12)).bind (fun o13 => (REC (x1 + 1) x2 x3 (x4 ||| o13.1) o13.2).bind (fun o14 => (if o14.1 = 0 then f_Be_layFrom_240 REC K132 K143 x1 x2 x3 x4 x5 x6 x7 x8 x9 x10 x11 x12 o14.2 else some (1, o14.2)))) else none) else none) else f_Be_layFrom_240 REC K132 K143 x1 x2 x3 x4 x5 x6 x7 x8 x9 x10 x11 x12 st))
def f_Be_layFrom_143 (REC : Int32 → Int32 → Int32 → Int32 → St → Option (Int32 × St)) (K132 : Int32 → Int32 → Int32 → Int32 → Int32 → Int32 → Int32 → Int32 → Int32 → Int32 → Int32 → St → Option (Int32 × St)) : Nat → Int32 → Int32 → Int32 → Int32 → Int32 → Int32 → Int32 → Int32 → Int32 → Int32 → Int32 → Int32 → St → Option (Int32 × St)
  | 0 => fun _ _ _ _ _ _ _ _ _ _ _ _ _ => none
  | n + 1 => b_Be_layFrom_143 REC K132 (f_Be_layFrom_143 REC K132 n)
def b_Be_layFrom_132 (REC : Int32 → Int32 → Int32 → Int32 → St → Option (Int32 × St)) (K132 : Int32 → Int32 → Int32 → Int32 → Int32 → Int32 → Int32 → Int32 → Int32 → Int32 → Int32 → St → Option (Int32 × St)) (x1 x2 x3 x4 x5 x6 x7 x8 x9 x10 x11 : Int32) (st : St) : Option (Int32 × St) :=
  (if x7 < x11 then some (0, st) else f_Be_layFrom_143 REC K132 40 x1 x2 x3 x4 x5 x6 x7 x8 x9 x10 x11 x9 st)
def f_Be_layFrom_132 (REC : Int32 → Int32 → Int32 → Int32 → St → Option (Int32 × St)) : Nat → Int32 → Int32 → Int32 → Int32 → Int32 → Int32 → Int32 → Int32 → Int32 → Int32 → Int32 → St → Option (Int32 × St)
  | 0 => fun _ _ _ _ _ _ _ _ _ _ _ _ => none
  | n + 1 => b_Be_layFrom_132 REC (f_Be_layFrom_132 REC n)
def f_Be_layFrom_118 (REC : Int32 → Int32 → Int32 → Int32 → St → Option (Int32 × St)) (x1 x2 x3 x4 x5 x6 x7 x8 x9 : Int32) (st : St) : Option (Int32 × St) :=
  (f_Be_cells 0 x5 0 x6 st).bind (fun o10 => f_Be_layFrom_132 REC 40 x1 x2 x3 x4 x5 x6 x7 x8 x9 o10.1 0 o10.2)
def f_Be_layFrom_102 (REC : Int32 → Int32 → Int32 → Int32 → St → Option (Int32 × St)) (x1 x2 x3 x4 x5 x6 x7 x8 y0 : Int32) (st : St) : Option (Int32 × St) :=
  (f_Fl_side x1 st).bind (fun o9 => (if o9.1 = 0 then f_Be_layFrom_118 REC x1 x2 x3 x4 x5 x6 x7 0 y0 o9.2 else f_Be_layFrom_118 REC x1 x2 x3 x4 x5 x6 x7 x8 y0 o9.2))
def fb_Be_layFrom (REC : Int32 → Int32 → Int32 → Int32 → St → Option (Int32 × St)) (x1 x2 x3 x4 : Int32) (st : St) : Option (Int32 × St) :=
  (if x1 < 0 then some (1, st) else (if x1 < 4 then (f_LR_holds x3 x1 st).bind (fun o1 => (if o1.1 = 0 then (REC (x1 + 1) x2 x3 x4 o1.2).bind (fun o15 => (if o15.1 = 0 ∨ o15.1 = 1 then some (o15.1, o15.2) else none)) else (f_Fl_length x1 o1.2).bind (fun o2 => (f_Fl_width x1 o2.2).bind (fun o3 => (f_Ch_length x2 o3.2).bind (fun o4 => xlet (o4.1 - o2.1) (fun v5 => (f_Ch_width x2 o4.2).bind (fun o6 => xlet (o6.1 - o3.1) (fun v7 => (if 0 ≤ v7 then (f_Fl_side x1 o6.2).bind (fun o8 => (if o8.1 = 1 then f_Be_layFrom_102 REC x1 x2 x3 x4 o2.1 o3.1 v5 v7 v7 o8.2 else f_Be_layFrom_102 REC x1 x2 x3 x4 o2.1 o3.1 v5 v7 0 o8.2)) else some (0, o6.2)))))))))) else some (1, st)))
def f_Be_layFrom : Nat → Int32 → Int32 → Int32 → Int32 → St → Option (Int32 × St)
  | 0 => fun _ _ _ _ _ => none
  | d + 1 => fb_Be_layFrom (f_Be_layFrom d)
def rm_Be_layFrom (d : Nat) : Room := { frames := 2 + d, cells := 0, slots := 0, locals := 47 + d * 33 }
def f_Be_canLay_59 (x3 y0 y1 : Int32) (st : St) : Option (Int32 × St) :=
  (if xin y1 128 then f_Be_canLay_60 x3 (sA st 13 y1.toNatClampNeg y0) else none)
def f_Be_canLay (x1 x2 : Int32) (st : St) : Option (Int32 × St) :=
  xlet (((((st.1 3) * 2) + x1) * 16) + x2) (fun v1 => (if v1 < 0 then some (0, st) else (if v1 < 128 then (if xin v1 128 then (if (st.2 13 v1.toNatClampNeg) = 0 then (f_Be_layFrom 5 0 x1 x2 0 st).bind (fun o4 => (if o4.1 = 0 then f_Be_canLay_59 v1 2 v1 o4.2 else f_Be_canLay_59 v1 1 v1 o4.2)) else f_Be_canLay_60 v1 st) else none) else some (0, st))))
def rm_Be_canLay : Room := { frames := 8, cells := 0, slots := 0, locals := 245 }
def f_Pl_canRun (x1 x2 : Int32) (st : St) : Option (Int32 × St) :=
  (f_Fl_commonDirection x2 st).bind (fun o1 => (if o1.1 = (-1) then some (0, o1.2) else (f_Be_canLay x1 x2 o1.2).bind (fun o2 => (if o2.1 = 0 then some (0, o2.2) else some (1, o2.2)))))
def rm_Pl_canRun : Room := { frames := 9, cells := 0, slots := 0, locals := 268 }
def f_Fl_lastArrival_28 (K4 : Int32 → Int32 → Int32 → St → Option (Int32 × St)) (x1 x2 x3 : Int32) (st : St) : Option (Int32 × St) :=
  K4 x1 x2 (x3 + 1) st
def b_Fl_lastArrival_4 (K4 : Int32 → Int32 → Int32 → St → Option (Int32 × St)) (x1 x2 x3 : Int32) (st : St) : Option (Int32 × St) :=
  (if 4 ≤ x3 then some (x2, st) else (f_LR_holds x1 x3 st).bind (fun o1 => (if o1.1 = 0 then f_Fl_lastArrival_28 K4 x1 x2 x3 o1.2 else (if xin x3 4 then xlet (if x2 < (o1.2.2 8 x3.toNatClampNeg) then o1.2.2 8 x3.toNatClampNeg else x2) (fun v3 => f_Fl_lastArrival_28 K4 x1 v3 x3 o1.2) else none))))
def f_Fl_lastArrival_4 : Nat → Int32 → Int32 → Int32 → St → Option (Int32 × St)
  | 0 => fun _ _ _ _ => none
  | n + 1 => b_Fl_lastArrival_4 (f_Fl_lastArrival_4 n)
def f_Fl_lastArrival (x1 : Int32) (st : St) : Option (Int32 × St) :=
  f_Fl_lastArrival_4 40 x1 0 0 st
def rm_Fl_lastArrival : Room := { frames := 1, cells := 0, slots := 0, locals := 21 }
def f_Ch_pastSpans_74 (K12 : Int32 → Int32 → Int32 → Int32 → St → Option (Int32 × St)) (x1 x3 x4 x5 : Int32) (st : St) : Option (Int32 × St) :=
  K12 x1 x3 x4 (x5 + 1) st
def b_Ch_pastSpans_12 (K12 : Int32 → Int32 → Int32 → Int32 → St → Option (Int32 × St)) (x1 x3 x4 x5 : Int32) (st : St) : Option (Int32 × St) :=
  (if 8 ≤ x5 then some (x4, st) else (if (st.1 1) ≤ x5 then some (x4, st) else (if xin x5 8 then (if (st.2 3 x5.toNatClampNeg) = x1 then (if xin x5 8 then (if (st.2 5 x5.toNatClampNeg) ≤ x4 then f_Ch_pastSpans_74 K12 x1 x3 x4 x5 st else (if xin x5 8 then (if (x4 + x3) ≤ (st.2 4 x5.toNatClampNeg) then f_Ch_pastSpans_74 K12 x1 x3 x4 x5 st else (if xin x5 8 then xlet (st.2 5 x5.toNatClampNeg) (fun v6 => f_Ch_pastSpans_74 K12 x1 x3 v6 x5 st) else none)) else none)) else none) else f_Ch_pastSpans_74 K12 x1 x3 x4 x5 st) else none)))
def f_Ch_pastSpans_12 : Nat → Int32 → Int32 → Int32 → Int32 → St → Option (Int32 × St)
  | 0 => fun _ _ _ _ _ => none
  | n + 1 => b_Ch_pastSpans_12 (f_Ch_pastSpans_12 n)
def f_Ch_pastSpans (x1 x2 : Int32) (st : St) : Option (Int32 × St) :=
  (f_Ch_fill x1 st).bind (fun o1 => f_Ch_pastSpans_12 40 x1 o1.1 x2 0 o1.2)
def rm_Ch_pastSpans : Room := { frames := 2, cells := 0, slots := 0, locals := 42 }
def b_Ch_firstOpen_5 (K5 : Int32 → Int32 → Int32 → St → Option (Int32 × St)) (x1 x3 x4 : Int32) (st : St) : Option (Int32 × St) :=
  (if 8 ≤ x4 then some (x3, st) else (f_Ch_pastSpans x1 x3 st).bind (fun o1 => (if o1.1 = x3 then some (x3, o1.2) else K5 x1 o1.1 (x4 + 1) o1.2)))
def f_Ch_firstOpen_5 : Nat → Int32 → Int32 → Int32 → St → Option (Int32 × St)
  | 0 => fun _ _ _ _ => none
  | n + 1 => b_Ch_firstOpen_5 (f_Ch_firstOpen_5 n)
def f_Ch_firstOpen (x1 x2 : Int32) (st : St) : Option (Int32 × St) :=
  f_Ch_firstOpen_5 40 x1 x2 0 st
def rm_Ch_firstOpen : Room := { frames := 3, cells := 0, slots := 0, locals := 67 }
def f_Tt_put_tr_43 (K3 : Int32 → Int32 → Int32 → Int32 → Int32 → St → Option (St)) (x1 x2 x3 x4 x5 : Int32) (st : St) : Option (St) :=
  K3 x1 x2 x3 x4 (x5 + 1) st
def b_Tt_put_tr_3 (K3 : Int32 → Int32 → Int32 → Int32 → Int32 → St → Option (St)) (x1 x2 x3 x4 x5 : Int32) (st : St) : Option (St) :=
  (if 4 ≤ x5 then some st else (f_LR_holds x1 x5 st).bind (fun o1 => (if o1.1 = 0 then f_Tt_put_tr_43 K3 x1 x2 x3 x4 x5 o1.2 else (if xin x5 4 then (if xin x5 4 then (if xin x5 4 then f_Tt_put_tr_43 K3 x1 x2 x3 x4 x5 (sA (sA (sA o1.2 14 x5.toNatClampNeg x4) 15 x5.toNatClampNeg x2) 16 x5.toNatClampNeg x3) else none) else none) else none))))
def f_Tt_put_tr_3 : Nat → Int32 → Int32 → Int32 → Int32 → Int32 → St → Option (St)
  | 0 => fun _ _ _ _ _ _ => none
  | n + 1 => b_Tt_put_tr_3 (f_Tt_put_tr_3 n)
def f_Tt_put_tr (x1 x2 x3 x4 : Int32) (st : St) : Option (St) :=
  f_Tt_put_tr_3 40 x1 x2 x3 x4 0 st
def rm_Tt_put_tr : Room := { frames := 1, cells := 0, slots := 0, locals := 21 }
def f_Fl_waiting_32 (K5 : Int32 → Int32 → Int32 → Int32 → St → Option (Int32 × St)) (x1 x2 x3 x4 : Int32) (st : St) : Option (Int32 × St) :=
  K5 x1 x2 x3 (x4 + 1) st
def b_Fl_waiting_5 (K5 : Int32 → Int32 → Int32 → Int32 → St → Option (Int32 × St)) (x1 x2 x3 x4 : Int32) (st : St) : Option (Int32 × St) :=
  (if 4 ≤ x4 then some (x3, st) else (f_LR_holds x1 x4 st).bind (fun o1 => (if o1.1 = 0 then f_Fl_waiting_32 K5 x1 x2 x3 x4 o1.2 else (if xin x4 4 then xlet (x3 + (x2 - (o1.2.2 8 x4.toNatClampNeg))) (fun v3 => f_Fl_waiting_32 K5 x1 x2 v3 x4 o1.2) else none))))
def f_Fl_waiting_5 : Nat → Int32 → Int32 → Int32 → Int32 → St → Option (Int32 × St)
  | 0 => fun _ _ _ _ _ => none
  | n + 1 => b_Fl_waiting_5 (f_Fl_waiting_5 n)
def f_Fl_waiting (x1 x2 : Int32) (st : St) : Option (Int32 × St) :=
  f_Fl_waiting_5 40 x1 x2 0 0 st
def rm_Fl_waiting : Room := { frames := 1, cells := 0, slots := 0, locals := 21 }
def f_Pl_tryRuns_110 (REC : Int32 → Int32 → Int32 → Int32 → Int32 → Int32 → St → Option (St)) (K56 : Int32 → Int32 → Int32 → Int32 → Int32 → Int32 → Int32 → Int32 → St → Option (St)) (x1 x2 x3 x4 x5 x6 x7 x8 x9 y0 : Int32) (st : St) : Option (St) :=
  (f_Fl_lastArrival x8 st).bind (fun o6 => (f_Ch_firstOpen x1 (if y0 < o6.1 then o6.1 else y0) o6.2).bind (fun o7 => (f_Tt_put_tr x8 x1 x2 o7.1 o7.2).bind (fun o8 => (f_Fl_waiting x8 o7.1 o8).bind (fun o9 => (REC x1 (x2 + 1) (x3 &&& (x8 ^^^ (-1))) (o7.1 + x7) (1 - x9) (x6 + o9.1) o9.2).bind (fun o10 => f_Pl_tryRuns_186 REC K56 x1 x2 x3 x4 x5 x6 x7 x8 o10)))))
def b_Pl_tryRuns_56 (REC : Int32 → Int32 → Int32 → Int32 → Int32 → Int32 → St → Option (St)) (K56 : Int32 → Int32 → Int32 → Int32 → Int32 → Int32 → Int32 → Int32 → St → Option (St)) (x1 x2 x3 x4 x5 x6 x7 x8 : Int32) (st : St) : Option (St) :=
  (if 16 ≤ x8 then (REC (x1 + 1) 0 x3 0 0 x6 st).bind (fun o3 => some o3) else (if (x8 &&& (x3 ^^^ (-1))) = 0 then (f_Pl_canRun x1 x8 st).bind (fun o4 => (if o4.1 = 0 then f_Pl_tryRuns_186 REC K56 x1 x2 x3 x4 x5 x6 x7 x8 o4.2 else (f_Fl_commonDirection x8 o4.2).bind (fun o5 => (if x5 = o5.1 then f_Pl_tryRuns_110 REC K56 x1 x2 x3 x4 x5 x6 x7 x8 o5.1 x4 o5.2 else f_Pl_tryRuns_110 REC K56 x1 x2 x3 x4 x5 x6 x7 x8 o5.1 (x4 + x7) o5.2)))) else f_Pl_tryRuns_186 REC K56 x1 x2 x3 x4 x5 x6 x7 x8 st))
def f_Pl_tryRuns_56 (REC : Int32 → Int32 → Int32 → Int32 → Int32 → Int32 → St → Option (St)) : Nat → Int32 → Int32 → Int32 → Int32 → Int32 → Int32 → Int32 → Int32 → St → Option (St)
  | 0 => fun _ _ _ _ _ _ _ _ _ => none
  | n + 1 => b_Pl_tryRuns_56 REC (f_Pl_tryRuns_56 REC n)
def f_Fl_size (st : St) : Option (Int32 × St) :=
  some (st.1 2, st)
def rm_Fl_size : Room := { frames := 0, cells := 0, slots := 0, locals := 0 }
def f_Tt_setWaiting_tr (x1 : Int32) (st : St) : Option (St) :=
  some (sI st 4 x1)
def rm_Tt_setWaiting_tr : Room := { frames := 0, cells := 0, slots := 0, locals := 0 }
def b_Tt_copyFrom_bs_tr_2 (K2 : Int32 → St → Option (St)) (x2 : Int32) (st : St) : Option (St) :=
  (if 4 ≤ x2 then some (sI st 5 (st.1 4)) else (if xin x2 4 then (if xin x2 4 then (if xin x2 4 then (if xin x2 4 then (if xin x2 4 then (if xin x2 4 then K2 (x2 + 1) (sA (sA (sA st 17 x2.toNatClampNeg (st.2 14 x2.toNatClampNeg)) 18 x2.toNatClampNeg ((sA st 17 x2.toNatClampNeg (st.2 14 x2.toNatClampNeg)).2 15 x2.toNatClampNeg)) 19 x2.toNatClampNeg ((sA (sA st 17 x2.toNatClampNeg (st.2 14 x2.toNatClampNeg)) 18 x2.toNatClampNeg ((sA st 17 x2.toNatClampNeg (st.2 14 x2.toNatClampNeg)).2 15 x2.toNatClampNeg)).2 16 x2.toNatClampNeg)) else none) else none) else none) else none) else none) else none))
def f_Tt_copyFrom_bs_tr_2 : Nat → Int32 → St → Option (St)
  | 0 => fun _ _ => none
  | n + 1 => b_Tt_copyFrom_bs_tr_2 (f_Tt_copyFrom_bs_tr_2 n)
def f_Tt_copyFrom_bs_tr (st : St) : Option (St) :=
  f_Tt_copyFrom_bs_tr_2 40 0 st
def rm_Tt_copyFrom_bs_tr : Room := { frames := 0, cells := 0, slots := 0, locals := 0 }
def f_Pl_offerTrial_72 (st : St) : Option (St) :=
  (f_Tt_copyFrom_bs_tr st).bind (fun o3 => some (sI o3 7 1))
def f_Tt_isAheadOf_tr_bs_103 (K30 : Int32 → Int32 → St → Option (Int32 × St)) (x2 x3 : Int32) (st : St) : Option (Int32 × St) :=
  K30 x2 (x3 + 1) st
def f_Tt_begin_tr (x1 : Int32) (st : St) : Option (Int32 × St) :=
  (if x1 < 0 then some ((-1), st) else (if 4 ≤ x1 then some ((-1), st) else (if xin x1 4 then some (st.2 14 x1.toNatClampNeg, st) else none)))
def rm_Tt_begin_tr : Room := { frames := 0, cells := 0, slots := 0, locals := 0 }
def f_Tt_begin_bs (x1 : Int32) (st : St) : Option (Int32 × St) :=
  (if x1 < 0 then some ((-1), st) else (if 4 ≤ x1 then some ((-1), st) else (if xin x1 4 then some (st.2 17 x1.toNatClampNeg, st) else none)))
def rm_Tt_begin_bs : Room := { frames := 0, cells := 0, slots := 0, locals := 0 }
def f_Tt_differs_tr_bs_26 (st : St) : Option (Int32 × St) :=
  some (1, st)
def f_Tt_chamberOf_tr (x1 : Int32) (st : St) : Option (Int32 × St) :=
  (if x1 < 0 then some ((-1), st) else (if 4 ≤ x1 then some ((-1), st) else (if xin x1 4 then some (st.2 15 x1.toNatClampNeg, st) else none)))
def rm_Tt_chamberOf_tr : Room := { frames := 0, cells := 0, slots := 0, locals := 0 }
def f_Tt_chamberOf_bs (x1 : Int32) (st : St) : Option (Int32 × St) :=
  (if x1 < 0 then some ((-1), st) else (if 4 ≤ x1 then some ((-1), st) else (if xin x1 4 then some (st.2 18 x1.toNatClampNeg, st) else none)))
def rm_Tt_chamberOf_bs : Room := { frames := 0, cells := 0, slots := 0, locals := 0 }
def f_Tt_differs_tr_bs (x2 : Int32) (st : St) : Option (Int32 × St) :=
  (f_Tt_begin_tr x2 st).bind (fun o1 => (f_Tt_begin_bs x2 o1.2).bind (fun o2 => (if o1.1 = o2.1 then (f_Tt_chamberOf_tr x2 o2.2).bind (fun o3 => (f_Tt_chamberOf_bs x2 o3.2).bind (fun o4 => (if o3.1 = o4.1 then some (0, o4.2) else f_Tt_differs_tr_bs_26 o4.2))) else f_Tt_differs_tr_bs_26 o2.2)))
def rm_Tt_differs_tr_bs : Room := { frames := 1, cells := 0, slots := 0, locals := 21 }
def f_Tt_isAheadOf_tr_bs_97 (st : St) : Option (Int32 × St) :=
  some (1, st)
def b_Tt_isAheadOf_tr_bs_30 (K30 : Int32 → Int32 → St → Option (Int32 × St)) (x2 x3 : Int32) (st : St) : Option (Int32 × St) :=
  (if 4 ≤ x3 then some (0, st) else (f_LR_holds x2 x3 st).bind (fun o1 => (if o1.1 = 0 then f_Tt_isAheadOf_tr_bs_103 K30 x2 x3 o1.2 else (f_Tt_differs_tr_bs x3 o1.2).bind (fun o2 => (if o2.1 = 0 then f_Tt_isAheadOf_tr_bs_103 K30 x2 x3 o2.2 else (if xin x3 4 then (if xin x3 4 then (if (o2.2.2 14 x3.toNatClampNeg) < (o2.2.2 17 x3.toNatClampNeg) then f_Tt_isAheadOf_tr_bs_97 o2.2 else (if xin x3 4 then (if xin x3 4 then (if (o2.2.2 14 x3.toNatClampNeg) = (o2.2.2 17 x3.toNatClampNeg) then (if xin x3 4 then (if xin x3 4 then (if (o2.2.2 18 x3.toNatClampNeg) ≤ (o2.2.2 15 x3.toNatClampNeg) then some (0, o2.2) else f_Tt_isAheadOf_tr_bs_97 o2.2) else none) else none) else some (0, o2.2)) else none) else none)) else none) else none))))))
def f_Tt_isAheadOf_tr_bs_30 : Nat → Int32 → Int32 → St → Option (Int32 × St)
  | 0 => fun _ _ _ => none
  | n + 1 => b_Tt_isAheadOf_tr_bs_30 (f_Tt_isAheadOf_tr_bs_30 n)
def f_Tt_isAheadOf_tr_bs (x2 : Int32) (st : St) : Option (Int32 × St) :=
  (if (st.1 4) = (st.1 5) then f_Tt_isAheadOf_tr_bs_30 40 x2 0 st else (if (st.1 5) ≤ (st.1 4) then some (0, st) else some (1, st)))
def rm_Tt_isAheadOf_tr_bs : Room := { frames := 2, cells := 0, slots := 0, locals := 43 }
def f_Fl_comesBehind_68 (st : St) : Option (Int32 × St) :=
  some (1, st)
def f_Fl_comesBehind (x1 x2 : Int32) (st : St) : Option (Int32 × St) :=
  (f_Fl_has x1 st).bind (fun o1 => (if o1.1 = 0 then some (0, o1.2) else (f_Fl_has x2 o1.2).bind (fun o2 => (if o2.1 = 0 then some (0, o2.2) else (if xin x1 4 then (if xin x2 4 then (if (o2.2.2 9 x1.toNatClampNeg) = (o2.2.2 9 x2.toNatClampNeg) then (if xin x1 4 then (if xin x2 4 then (if (o2.2.2 8 x2.toNatClampNeg) < (o2.2.2 8 x1.toNatClampNeg) then f_Fl_comesBehind_68 o2.2 else (if xin x1 4 then (if xin x2 4 then (if (o2.2.2 8 x1.toNatClampNeg) = (o2.2.2 8 x2.toNatClampNeg) then (if x1 ≤ x2 then some (0, o2.2) else f_Fl_comesBehind_68 o2.2) else some (0, o2.2)) else none) else none)) else none) else none) else some (0, o2.2)) else none) else none)))))
def rm_Fl_comesBehind : Room := { frames := 1, cells := 0, slots := 0, locals := 21 }
def f_Pl_overtaken_tr_47 (K5 : Int32 → Int32 → Int32 → St → Option (Int32 × St)) (x2 x3 x4 : Int32) (st : St) : Option (Int32 × St) :=
  K5 x2 x3 (x4 + 1) st
def b_Pl_overtaken_tr_5 (K5 : Int32 → Int32 → Int32 → St → Option (Int32 × St)) (x2 x3 x4 : Int32) (st : St) : Option (Int32 × St) :=
  (f_Fl_size st).bind (fun o1 => (if o1.1 ≤ x4 then some (x3, o1.2) else (f_Fl_comesBehind x4 x2 o1.2).bind (fun o2 => (if o2.1 = 0 then f_Pl_overtaken_tr_47 K5 x2 x3 x4 o2.2 else (f_Tt_begin_tr x4 o2.2).bind (fun o3 => (f_Tt_begin_tr x2 o3.2).bind (fun o4 => (if o4.1 ≤ o3.1 then f_Pl_overtaken_tr_47 K5 x2 x3 x4 o4.2 else f_Pl_overtaken_tr_47 K5 x2 (x3 + 1) x4 o4.2)))))))
def f_Pl_overtaken_tr_5 : Nat → Int32 → Int32 → Int32 → St → Option (Int32 × St)
  | 0 => fun _ _ _ _ => none
  | n + 1 => b_Pl_overtaken_tr_5 (f_Pl_overtaken_tr_5 n)
def f_Pl_overtaken_tr (x2 : Int32) (st : St) : Option (Int32 × St) :=
  f_Pl_overtaken_tr_5 40 x2 0 0 st
def rm_Pl_overtaken_tr : Room := { frames := 2, cells := 0, slots := 0, locals := 43 }
def b_Pl_offerTrial_2 (K2 : Int32 → Int32 → St → Option (St)) (x1 x2 : Int32) (st : St) : Option (St) :=
  (f_Fl_size st).bind (fun o1 => (if o1.1 ≤ x2 then (f_Tt_setWaiting_tr x1 o1.2).bind (fun o2 => (if (o2.1 7) = 0 then f_Pl_offerTrial_72 o2 else (f_Fl_all o2).bind (fun o4 => (f_Tt_isAheadOf_tr_bs o4.1 o4.2).bind (fun o5 => (if o5.1 = 0 then some o5.2 else f_Pl_offerTrial_72 o5.2))))) else (f_Pl_overtaken_tr x2 o1.2).bind (fun o6 => (if o6.1 ≤ (o6.2.1 8) then K2 x1 (x2 + 1) o6.2 else some o6.2))))
def f_Pl_offerTrial_2 : Nat → Int32 → Int32 → St → Option (St)
  | 0 => fun _ _ _ => none
  | n + 1 => b_Pl_offerTrial_2 (f_Pl_offerTrial_2 n)
def f_Pl_offerTrial (x1 : Int32) (st : St) : Option (St) :=
  f_Pl_offerTrial_2 40 x1 0 st
def rm_Pl_offerTrial : Room := { frames := 3, cells := 0, slots := 0, locals := 67 }
def f_Pl_tryRuns_20 (REC : Int32 → Int32 → Int32 → Int32 → Int32 → Int32 → St → Option (St)) (x1 x2 x3 x4 x5 x6 : Int32) (st : St) : Option (St) :=
  (if x3 = 0 then (f_Pl_offerTrial x6 st).bind (fun o11 => some o11) else (f_Ch_has x1 st).bind (fun o1 => (if o1.1 = 0 then some o1.2 else (f_Ch_fill x1 o1.2).bind (fun o2 => f_Pl_tryRuns_56 REC 40 x1 x2 x3 x4 x5 x6 o2.1 1 o2.2))))
def f_Tt_waiting_bs (st : St) : Option (Int32 × St) :=
  some (st.1 5, st)
def rm_Tt_waiting_bs : Room := { frames := 0, cells := 0, slots := 0, locals := 0 }
def fb_Pl_tryRuns (REC : Int32 → Int32 → Int32 → Int32 → Int32 → Int32 → St → Option (St)) (x1 x2 x3 x4 x5 x6 : Int32) (st : St) : Option (St) :=
  (if (st.1 7) = 0 then f_Pl_tryRuns_20 REC x1 x2 x3 x4 x5 x6 st else (f_Tt_waiting_bs st).bind (fun o12 => (if x6 ≤ o12.1 then f_Pl_tryRuns_20 REC x1 x2 x3 x4 x5 x6 o12.2 else some o12.2)))
def f_Pl_tryRuns : Nat → Int32 → Int32 → Int32 → Int32 → Int32 → Int32 → St → Option (St)
  | 0 => fun _ _ _ _ _ _ _ => none
  | d + 1 => fb_Pl_tryRuns (f_Pl_tryRuns d)
def rm_Pl_tryRuns (d : Nat) : Room := { frames := 10 + d, cells := 0, slots := 0, locals := 290 + d * 31 }
def f_Pl_search (st : St) : Option (Int32 × St) :=
  (f_Fl_all (sI st 7 0)).bind (fun o1 => (f_Pl_tryRuns 8 0 0 o1.1 0 0 0 o1.2).bind (fun o2 => (if (o2.1 7) = 0 ∨ (o2.1 7) = 1 then some (o2.1 7, o2) else none)))
def rm_Pl_search : Room := { frames := 19, cells := 0, slots := 0, locals := 569 }
def f_Tt_runOf_bs (x1 : Int32) (st : St) : Option (Int32 × St) :=
  (if x1 < 0 then some ((-1), st) else (if 4 ≤ x1 then some ((-1), st) else (if xin x1 4 then some (st.2 19 x1.toNatClampNeg, st) else none)))
def rm_Tt_runOf_bs : Room := { frames := 0, cells := 0, slots := 0, locals := 0 }
def f_Tt_aboard_bs_52 (K6 : Int32 → Int32 → Int32 → Int32 → Int32 → St → Option (Int32 × St)) (x1 x2 x3 x4 x5 : Int32) (st : St) : Option (Int32 × St) :=
  K6 x1 x2 x3 x4 (x5 + 1) st
def b_Tt_aboard_bs_6 (K6 : Int32 → Int32 → Int32 → Int32 → Int32 → St → Option (Int32 × St)) (x1 x2 x3 x4 x5 : Int32) (st : St) : Option (Int32 × St) :=
  (if 4 ≤ x5 then some (x4, st) else (f_LR_holds x3 x5 st).bind (fun o1 => (if o1.1 = 0 then f_Tt_aboard_bs_52 K6 x1 x2 x3 x4 x5 o1.2 else (if xin x5 4 then (if (o1.2.2 18 x5.toNatClampNeg) = x1 then (if xin x5 4 then (if (o1.2.2 19 x5.toNatClampNeg) = x2 then xlet (x4 ||| (1 <<< (x5 &&& 31))) (fun v4 => f_Tt_aboard_bs_52 K6 x1 x2 x3 v4 x5 o1.2) else f_Tt_aboard_bs_52 K6 x1 x2 x3 x4 x5 o1.2) else none) else f_Tt_aboard_bs_52 K6 x1 x2 x3 x4 x5 o1.2) else none))))
def f_Tt_aboard_bs_6 : Nat → Int32 → Int32 → Int32 → Int32 → Int32 → St → Option (Int32 × St)
  | 0 => fun _ _ _ _ _ _ => none
  | n + 1 => b_Tt_aboard_bs_6 (f_Tt_aboard_bs_6 n)
def f_Tt_aboard_bs (x1 x2 x3 : Int32) (st : St) : Option (Int32 × St) :=
  f_Tt_aboard_bs_6 40 x1 x2 x3 0 0 st
def rm_Tt_aboard_bs : Room := { frames := 1, cells := 0, slots := 0, locals := 21 }
def f_Be_lay (x1 x2 : Int32) (st : St) : Option (Int32 × St) :=
  (f_Be_layFrom 5 0 x1 x2 0 st).bind (fun o1 => (if o1.1 = 0 ∨ o1.1 = 1 then some (o1.1, o1.2) else none))
def rm_Be_lay : Room := { frames := 8, cells := 0, slots := 0, locals := 245 }
def f_Pl_layRunOf (x1 : Int32) (st : St) : Option (Int32 × St) :=
  (f_Tt_chamberOf_bs x1 st).bind (fun o1 => (f_Tt_runOf_bs x1 o1.2).bind (fun o2 => (f_Fl_all o2.2).bind (fun o3 => (f_Tt_aboard_bs o1.1 o2.1 o3.1 o3.2).bind (fun o4 => (f_Be_lay o1.1 o4.1 o4.2).bind (fun o5 => (if o5.1 = 0 ∨ o5.1 = 1 then some (o5.1, o5.2) else none))))))
def rm_Pl_layRunOf : Room := { frames := 9, cells := 0, slots := 0, locals := 267 }
def f_Be_x (x1 : Int32) (st : St) : Option (Int32 × St) :=
  (if x1 < 0 then some ((-1), st) else (if 4 ≤ x1 then some ((-1), st) else (if xin x1 4 then some (st.2 11 x1.toNatClampNeg, st) else none)))
def rm_Be_x : Room := { frames := 0, cells := 0, slots := 0, locals := 0 }
def f_Be_y (x1 : Int32) (st : St) : Option (Int32 × St) :=
  (if x1 < 0 then some ((-1), st) else (if 4 ≤ x1 then some ((-1), st) else (if xin x1 4 then some (st.2 12 x1.toNatClampNeg, st) else none)))
def rm_Be_y : Room := { frames := 0, cells := 0, slots := 0, locals := 0 }
def f_Fl_arrival (x1 : Int32) (st : St) : Option (Int32 × St) :=
  (f_Fl_has x1 st).bind (fun o1 => (if o1.1 = 0 then some (0, o1.2) else (if xin x1 4 then some (o1.2.2 8 x1.toNatClampNeg, o1.2) else none)))
def rm_Fl_arrival : Room := { frames := 1, cells := 0, slots := 0, locals := 21 }
def f_Pl_overtaken_bs_47 (K5 : Int32 → Int32 → Int32 → St → Option (Int32 × St)) (x2 x3 x4 : Int32) (st : St) : Option (Int32 × St) :=
  K5 x2 x3 (x4 + 1) st
def b_Pl_overtaken_bs_5 (K5 : Int32 → Int32 → Int32 → St → Option (Int32 × St)) (x2 x3 x4 : Int32) (st : St) : Option (Int32 × St) :=
  (f_Fl_size st).bind (fun o1 => (if o1.1 ≤ x4 then some (x3, o1.2) else (f_Fl_comesBehind x4 x2 o1.2).bind (fun o2 => (if o2.1 = 0 then f_Pl_overtaken_bs_47 K5 x2 x3 x4 o2.2 else (f_Tt_begin_bs x4 o2.2).bind (fun o3 => (f_Tt_begin_bs x2 o3.2).bind (fun o4 => (if o4.1 ≤ o3.1 then f_Pl_overtaken_bs_47 K5 x2 x3 x4 o4.2 else f_Pl_overtaken_bs_47 K5 x2 (x3 + 1) x4 o4.2)))))))
def f_Pl_overtaken_bs_5 : Nat → Int32 → Int32 → Int32 → St → Option (Int32 × St)
  | 0 => fun _ _ _ _ => none
  | n + 1 => b_Pl_overtaken_bs_5 (f_Pl_overtaken_bs_5 n)
def f_Pl_overtaken_bs (x2 : Int32) (st : St) : Option (Int32 × St) :=
  f_Pl_overtaken_bs_5 40 x2 0 0 st
def rm_Pl_overtaken_bs : Room := { frames := 2, cells := 0, slots := 0, locals := 43 }
def f_Pl_tellShip (x1 x2 : Int32) (st : St) : Option (Int32 × St) :=
  (if x2 = 0 then (f_Tt_chamberOf_bs x1 st).bind (fun o1 => some (o1.1, o1.2)) else (if x2 = 1 then (f_Tt_runOf_bs x1 st).bind (fun o2 => some (o2.1, o2.2)) else (if x2 = 2 then (f_Tt_begin_bs x1 st).bind (fun o3 => some (o3.1, o3.2)) else (if x2 = 3 then (f_Pl_layRunOf x1 st).bind (fun o4 => (if o4.1 = 0 then some ((-1), o4.2) else (f_Be_x x1 o4.2).bind (fun o5 => some (o5.1, o5.2)))) else (if x2 = 4 then (f_Pl_layRunOf x1 st).bind (fun o6 => (if o6.1 = 0 then some ((-1), o6.2) else (f_Be_y x1 o6.2).bind (fun o7 => some (o7.1, o7.2)))) else (if x2 = 5 then (f_Tt_begin_bs x1 st).bind (fun o8 => (f_Fl_arrival x1 o8.2).bind (fun o9 => some (o8.1 - o9.1, o9.2))) else (if x2 = 6 then (f_Pl_overtaken_bs x1 st).bind (fun o10 => some (o10.1, o10.2)) else some ((-1), st))))))))
def rm_Pl_tellShip : Room := { frames := 10, cells := 0, slots := 0, locals := 289 }
def b_Tt_beginOfAll_bs_2 (K2 : Int32 → Int32 → St → Option (Int32 × St)) (x1 x2 : Int32) (st : St) : Option (Int32 × St) :=
  (if 4 ≤ x2 then some ((-1), st) else (f_LR_holds x1 x2 st).bind (fun o1 => (if o1.1 = 0 then K2 x1 (x2 + 1) o1.2 else (if xin x2 4 then some (o1.2.2 17 x2.toNatClampNeg, o1.2) else none))))
def f_Tt_beginOfAll_bs_2 : Nat → Int32 → Int32 → St → Option (Int32 × St)
  | 0 => fun _ _ _ => none
  | n + 1 => b_Tt_beginOfAll_bs_2 (f_Tt_beginOfAll_bs_2 n)
def f_Tt_beginOfAll_bs (x1 : Int32) (st : St) : Option (Int32 × St) :=
  f_Tt_beginOfAll_bs_2 40 x1 0 st
def rm_Tt_beginOfAll_bs : Room := { frames := 1, cells := 0, slots := 0, locals := 21 }
def f_Pl_tellRun (x1 x2 x3 : Int32) (st : St) : Option (Int32 × St) :=
  (f_Fl_all st).bind (fun o1 => (f_Tt_aboard_bs x1 x2 o1.1 o1.2).bind (fun o2 => (if o2.1 = 0 then some ((-1), o2.2) else (if x3 = 0 then (f_Tt_beginOfAll_bs o2.1 o2.2).bind (fun o3 => some (o3.1, o3.2)) else (if x3 = 1 then (f_Fl_commonDirection o2.1 o2.2).bind (fun o4 => some (o4.1, o4.2)) else (if x3 = 2 then some (o2.1, o2.2) else some ((-1), o2.2)))))))
def rm_Pl_tellRun : Room := { frames := 2, cells := 0, slots := 0, locals := 46 }
def f_Pl_runs_42 (K4 : Int32 → Int32 → Int32 → St → Option (Int32 × St)) (x1 x2 x3 : Int32) (st : St) : Option (Int32 × St) :=
  K4 x1 x2 (x3 + 1) st
def b_Pl_runs_4 (K4 : Int32 → Int32 → Int32 → St → Option (Int32 × St)) (x1 x2 x3 : Int32) (st : St) : Option (Int32 × St) :=
  (f_Fl_size st).bind (fun o1 => (if o1.1 ≤ x3 then some (x2, o1.2) else (f_Tt_chamberOf_bs x3 o1.2).bind (fun o2 => (if o2.1 = x1 then (f_Tt_runOf_bs x3 o2.2).bind (fun o3 => xlet (if x2 < (o3.1 + 1) then o3.1 + 1 else x2) (fun v4 => f_Pl_runs_42 K4 x1 v4 x3 o3.2)) else f_Pl_runs_42 K4 x1 x2 x3 o2.2))))
def f_Pl_runs_4 : Nat → Int32 → Int32 → Int32 → St → Option (Int32 × St)
  | 0 => fun _ _ _ _ => none
  | n + 1 => b_Pl_runs_4 (f_Pl_runs_4 n)
def f_Pl_runs (x1 : Int32) (st : St) : Option (Int32 × St) :=
  f_Pl_runs_4 40 x1 0 0 st
def rm_Pl_runs : Room := { frames := 1, cells := 0, slots := 0, locals := 21 }
def f_Tt_differences_bs_pv_33 (K5 : Int32 → Int32 → Int32 → St → Option (Int32 × St)) (x2 x3 x4 : Int32) (st : St) : Option (Int32 × St) :=
  K5 x2 x3 (x4 + 1) st
def f_Tt_begin_pv (x1 : Int32) (st : St) : Option (Int32 × St) :=
  (if x1 < 0 then some ((-1), st) else (if 4 ≤ x1 then some ((-1), st) else (if xin x1 4 then some (st.2 20 x1.toNatClampNeg, st) else none)))
def rm_Tt_begin_pv : Room := { frames := 0, cells := 0, slots := 0, locals := 0 }
def f_Tt_differs_bs_pv_26 (st : St) : Option (Int32 × St) :=
  some (1, st)
def f_Tt_chamberOf_pv (x1 : Int32) (st : St) : Option (Int32 × St) :=
  (if x1 < 0 then some ((-1), st) else (if 4 ≤ x1 then some ((-1), st) else (if xin x1 4 then some (st.2 21 x1.toNatClampNeg, st) else none)))
def rm_Tt_chamberOf_pv : Room := { frames := 0, cells := 0, slots := 0, locals := 0 }
def f_Tt_differs_bs_pv (x2 : Int32) (st : St) : Option (Int32 × St) :=
  (f_Tt_begin_bs x2 st).bind (fun o1 => (f_Tt_begin_pv x2 o1.2).bind (fun o2 => (if o1.1 = o2.1 then (f_Tt_chamberOf_bs x2 o2.2).bind (fun o3 => (f_Tt_chamberOf_pv x2 o3.2).bind (fun o4 => (if o3.1 = o4.1 then some (0, o4.2) else f_Tt_differs_bs_pv_26 o4.2))) else f_Tt_differs_bs_pv_26 o2.2)))
def rm_Tt_differs_bs_pv : Room := { frames := 1, cells := 0, slots := 0, locals := 21 }
def b_Tt_differences_bs_pv_5 (K5 : Int32 → Int32 → Int32 → St → Option (Int32 × St)) (x2 x3 x4 : Int32) (st : St) : Option (Int32 × St) :=
  (if 4 ≤ x4 then some (x3, st) else (f_LR_holds x2 x4 st).bind (fun o1 => (if o1.1 = 0 then f_Tt_differences_bs_pv_33 K5 x2 x3 x4 o1.2 else (f_Tt_differs_bs_pv x4 o1.2).bind (fun o2 => (if o2.1 = 0 then f_Tt_differences_bs_pv_33 K5 x2 x3 x4 o2.2 else f_Tt_differences_bs_pv_33 K5 x2 (x3 + 1) x4 o2.2)))))
def f_Tt_differences_bs_pv_5 : Nat → Int32 → Int32 → Int32 → St → Option (Int32 × St)
  | 0 => fun _ _ _ _ => none
  | n + 1 => b_Tt_differences_bs_pv_5 (f_Tt_differences_bs_pv_5 n)
def f_Tt_differences_bs_pv (x2 : Int32) (st : St) : Option (Int32 × St) :=
  f_Tt_differences_bs_pv_5 40 x2 0 0 st
def rm_Tt_differences_bs_pv : Room := { frames := 2, cells := 0, slots := 0, locals := 43 }
def f_Pl_moved (st : St) : Option (Int32 × St) :=
  (f_Fl_all st).bind (fun o1 => (f_Tt_differences_bs_pv o1.1 o1.2).bind (fun o2 => some (o2.1, o2.2)))
def rm_Pl_moved : Room := { frames := 3, cells := 0, slots := 0, locals := 67 }
def b_Tt_copyFrom_pv_bs_2 (K2 : Int32 → St → Option (St)) (x2 : Int32) (st : St) : Option (St) :=
  (if 4 ≤ x2 then some (sI st 6 (st.1 5)) else (if xin x2 4 then (if xin x2 4 then (if xin x2 4 then (if xin x2 4 then (if xin x2 4 then (if xin x2 4 then K2 (x2 + 1) (sA (sA (sA st 20 x2.toNatClampNeg (st.2 17 x2.toNatClampNeg)) 21 x2.toNatClampNeg ((sA st 20 x2.toNatClampNeg (st.2 17 x2.toNatClampNeg)).2 18 x2.toNatClampNeg)) 22 x2.toNatClampNeg ((sA (sA st 20 x2.toNatClampNeg (st.2 17 x2.toNatClampNeg)) 21 x2.toNatClampNeg ((sA st 20 x2.toNatClampNeg (st.2 17 x2.toNatClampNeg)).2 18 x2.toNatClampNeg)).2 19 x2.toNatClampNeg)) else none) else none) else none) else none) else none) else none))
def f_Tt_copyFrom_pv_bs_2 : Nat → Int32 → St → Option (St)
  | 0 => fun _ _ => none
  | n + 1 => b_Tt_copyFrom_pv_bs_2 (f_Tt_copyFrom_pv_bs_2 n)
def f_Tt_copyFrom_pv_bs (st : St) : Option (St) :=
  f_Tt_copyFrom_pv_bs_2 40 0 st
def rm_Tt_copyFrom_pv_bs : Room := { frames := 0, cells := 0, slots := 0, locals := 0 }
def f_Pl_keepForComparison (st : St) : Option (St) :=
  (f_Tt_copyFrom_pv_bs st).bind (fun o1 => some o1)
def rm_Pl_keepForComparison : Room := { frames := 1, cells := 0, slots := 0, locals := 22 }
def f_Pl_hasPlan (st : St) : Option (Int32 × St) :=
  (if (st.1 7) = 0 ∨ (st.1 7) = 1 then some (st.1 7, st) else none)
def rm_Pl_hasPlan : Room := { frames := 0, cells := 0, slots := 0, locals := 0 }
def f_Pl_forget (st : St) : Option (St) :=
  some (sI st 7 0)
def rm_Pl_forget : Room := { frames := 0, cells := 0, slots := 0, locals := 0 }
def f_Pl_waiting (st : St) : Option (Int32 × St) :=
  (f_Tt_waiting_bs st).bind (fun o1 => some (o1.1, o1.2))
def rm_Pl_waiting : Room := { frames := 1, cells := 0, slots := 0, locals := 20 }
def f_Pl_over (st : St) : Option (Int32 × St) :=
  some (st.1 8, st)
def rm_Pl_over : Room := { frames := 0, cells := 0, slots := 0, locals := 0 }
def f_Pl_setOver (x1 : Int32) (st : St) : Option (St) :=
  some (sI st 8 x1)
def rm_Pl_setOver : Room := { frames := 0, cells := 0, slots := 0, locals := 0 }
def f_Be_setGap (x1 : Int32) (st : St) : Option (St) :=
  some (sI st 3 x1)
def rm_Be_setGap : Room := { frames := 0, cells := 0, slots := 0, locals := 0 }
def f_Be_gap (st : St) : Option (Int32 × St) :=
  some (st.1 3, st)
def rm_Be_gap : Room := { frames := 0, cells := 0, slots := 0, locals := 0 }
def f_Ch_add (x1 x2 x3 : Int32) (st : St) : Option (Int32 × St) :=
  xlet (st.1 0) (fun v1 => (if v1 < 0 then some ((-1), st) else (if v1 < 2 then (if xin v1 2 then (if xin v1 2 then (if xin v1 2 then some (v1, sI (sA (sA (sA st 0 v1.toNatClampNeg x1) 1 v1.toNatClampNeg x2) 2 v1.toNatClampNeg x3) 0 (v1 + 1)) else none) else none) else none) else some ((-1), st))))
def rm_Ch_add : Room := { frames := 0, cells := 0, slots := 0, locals := 0 }
def f_Ch_addSpan (x1 x2 x3 : Int32) (st : St) : Option (Int32 × St) :=
  xlet (st.1 1) (fun v1 => (if v1 < 0 then some (0, st) else (if v1 < 8 then (if xin v1 8 then (if xin v1 8 then (if xin v1 8 then some (1, sI (sA (sA (sA st 3 v1.toNatClampNeg x1) 4 v1.toNatClampNeg x2) 5 v1.toNatClampNeg x3) 1 (v1 + 1)) else none) else none) else none) else some (0, st))))
def rm_Ch_addSpan : Room := { frames := 0, cells := 0, slots := 0, locals := 0 }
def f_Ch_size (st : St) : Option (Int32 × St) :=
  some (st.1 0, st)
def rm_Ch_size : Room := { frames := 0, cells := 0, slots := 0, locals := 0 }
def f_Ch_spans (st : St) : Option (Int32 × St) :=
  some (st.1 1, st)
def rm_Ch_spans : Room := { frames := 0, cells := 0, slots := 0, locals := 0 }
def f_Fl_add (x1 x2 x3 x4 x5 : Int32) (st : St) : Option (Int32 × St) :=
  xlet (st.1 2) (fun v1 => (if v1 < 0 then some ((-1), st) else (if v1 < 4 then (if xin v1 4 then (if xin v1 4 then (if xin v1 4 then (if xin v1 4 then (if xin v1 4 then some (v1, sI (sA (sA (sA (sA (sA st 6 v1.toNatClampNeg x1) 7 v1.toNatClampNeg x2) 8 v1.toNatClampNeg x3) 9 v1.toNatClampNeg x4) 10 v1.toNatClampNeg x5) 2 (v1 + 1)) else none) else none) else none) else none) else none) else some ((-1), st))))
def rm_Fl_add : Room := { frames := 0, cells := 0, slots := 0, locals := 0 }
def f_Fl_setArrival (x1 x2 : Int32) (st : St) : Option (St) :=
  (f_Fl_has x1 st).bind (fun o1 => (if o1.1 = 0 then some o1.2 else (if xin x1 4 then some (sA o1.2 8 x1.toNatClampNeg x2) else none)))
def rm_Fl_setArrival : Room := { frames := 1, cells := 0, slots := 0, locals := 21 }
def f_LR_within (x0 x1 x2 : Int32) (st : St) : Option (Int32 × St) :=
  (if x0 < x1 then some (0, st) else (if x2 < x0 then some (0, st) else some (1, st)))
def rm_LR_within : Room := { frames := 0, cells := 0, slots := 0, locals := 0 }
def f_LR_canMeasure (x0 x1 : Int32) (st : St) : Option (Int32 × St) :=
  (f_LR_within x0 1 8 st).bind (fun o1 => (if o1.1 = 0 then some (0, o1.2) else (f_LR_within x1 1 3 o1.2).bind (fun o2 => (if o2.1 = 0 then some (0, o2.2) else some (1, o2.2)))))
def rm_LR_canMeasure : Room := { frames := 1, cells := 0, slots := 0, locals := 22 }
def f_LR_runsOf (x1 : Int32) (st : St) : Option (Int32 × St) :=
  (f_Ch_has x1 st).bind (fun o1 => (if o1.1 = 0 then some ((-1), o1.2) else (f_Pl_hasPlan o1.2).bind (fun o2 => (if o2.1 = 0 then some ((-1), o2.2) else (f_Pl_runs x1 o2.2).bind (fun o3 => some (o3.1, o3.2))))))
def rm_LR_runsOf : Room := { frames := 2, cells := 0, slots := 0, locals := 44 }
def f_LR_closed (x1 x2 x3 : Int32) (st : St) : Option (Int32 × St) :=
  (f_Ch_has x1 st).bind (fun o1 => (if o1.1 = 0 then some (0, o1.2) else (if x2 < 0 then some (0, o1.2) else (if x3 ≤ x2 then some (0, o1.2) else (if x3 ≤ 10000 then (f_Ch_addSpan x1 x2 x3 o1.2).bind (fun o2 => (if o2.1 = 0 then some (0, o2.2) else (f_Pl_forget o2.2).bind (fun o3 => some (1, o3)))) else some (0, o1.2))))))
def rm_LR_closed : Room := { frames := 1, cells := 0, slots := 0, locals := 24 }
def f_LR_rule (x1 x2 : Int32) (st : St) : Option (Int32 × St) :=
  (f_LR_within x1 0 3 st).bind (fun o1 => (if o1.1 = 0 then some (0, o1.2) else (f_LR_within x2 0 3 o1.2).bind (fun o2 => (if o2.1 = 0 then some (0, o2.2) else (f_Be_setGap x1 o2.2).bind (fun o3 => (f_Pl_setOver x2 o3).bind (fun o4 => (f_Pl_forget o4).bind (fun o5 => some (1, o5))))))))
def rm_LR_rule : Room := { frames := 1, cells := 0, slots := 0, locals := 22 }
def f_LR_plan (st : St) : Option (Int32 × St) :=
  (f_Pl_search st).bind (fun o1 => (if o1.1 = 0 then some ((-1), o1.2) else (f_Pl_waiting o1.2).bind (fun o2 => some (o2.1, o2.2))))
def rm_LR_plan : Room := { frames := 20, cells := 0, slots := 0, locals := 589 }
def f_LR_count (x1 : Int32) (st : St) : Option (Int32 × St) :=
  (if x1 = 0 then (f_Ch_size st).bind (fun o1 => some (o1.1, o1.2)) else (if x1 = 1 then (f_Fl_size st).bind (fun o2 => some (o2.1, o2.2)) else (if x1 = 2 then (f_Ch_spans st).bind (fun o3 => some (o3.1, o3.2)) else (if x1 = 3 then (f_Pl_hasPlan st).bind (fun o4 => (if o4.1 = 0 then some (0, o4.2) else some (1, o4.2))) else (if x1 = 4 then (f_Be_gap st).bind (fun o5 => some (o5.1, o5.2)) else (if x1 = 5 then (f_Pl_over st).bind (fun o6 => some (o6.1, o6.2)) else (if x1 = 6 then (f_LR_runsOf 0 st).bind (fun o7 => some (o7.1, o7.2)) else (if x1 = 7 then (f_LR_runsOf 1 st).bind (fun o8 => some (o8.1, o8.2)) else some ((-1), st)))))))))
def rm_LR_count : Room := { frames := 3, cells := 0, slots := 0, locals := 65 }
end
section
theorem xroom_rec_Pl_tryRuns (d : Nat) : (rm_Pl_tryRuns d).frames + 1 ≤ (rm_Pl_tryRuns (d + 1)).frames ∧ 8 + (12 + 11) + (rm_Pl_tryRuns d).locals ≤ (rm_Pl_tryRuns (d + 1)).locals := by
  constructor
  · show 10 + d + 1 ≤ 10 + (d + 1); omega
  · show 8 + (12 + 11) + (290 + d * 31) ≤ 290 + (d + 1) * 31; omega
theorem xroom_rec_Be_layFrom (d : Nat) : (rm_Be_layFrom d).frames + 1 ≤ (rm_Be_layFrom (d + 1)).frames ∧ 8 + (14 + 11) + (rm_Be_layFrom d).locals ≤ (rm_Be_layFrom (d + 1)).locals := by
  constructor
  · show 2 + d + 1 ≤ 2 + (d + 1); omega
  · show 8 + (14 + 11) + (47 + d * 33) ≤ 47 + (d + 1) * 33; omega
set_option maxHeartbeats 4000000 in
set_option maxRecDepth 20000 in
theorem c_Fl_all {l : Launch} {D : va_G} {ad : Nat → Nat} {cI : ClassId} (N : (LC ad).Nodup) {st : St} {out : Int32 × St} (hf : f_Fl_all  st = some out) : xMi l y_Fl_all b_Fl_all 1 (some .int) rm_Fl_all D (tyC cI) (WC ad cI) (LC ad) [.ref (ad 2)] st out := by
  intro sz
  refine xM_of (L := LC ad) (by decide) (Nat.le_of_ble_eq_true rfl) (fun p e s m below meth c hsz hr C => ?_)
  show j_i p l e rm_Fl_all s m _ below meth c sz D (WC ad cI) (LC ad) out 1 (WC ad cI st) [(0, .ref (ad 2))] 0 []
  unfold f_Fl_all at hf
  refine xj_iconst (v := 1) C d_Fl_all_0 rfl ?_
  refine xj_aload_n C d_Fl_all_1 rfl 0 rfl ?_
  refine xj_get C g_Fl_27 2 rfl rfl d_Fl_all_2 ?_
  refine xj_ishl C d_Fl_all_5 ?_
  refine xj_iconst (v := 1) C d_Fl_all_6 rfl ?_
  refine xj_isub C d_Fl_all_7 ?_
  exact xj_iret C hr hf d_Fl_all_8
set_option maxHeartbeats 4000000 in
set_option maxRecDepth 20000 in
theorem c_Ch_has {l : Launch} {D : va_G} {ad : Nat → Nat} {cI : ClassId} (N : (LC ad).Nodup) {x1 : Int32} {st : St} {out : Int32 × St} (hf : f_Ch_has x1 st = some out) : xMi l y_Ch_has b_Ch_has 2 (some .boolean) rm_Ch_has D (tyC cI) (WC ad cI) (LC ad) [.ref (ad 1), .int x1] st out := by
  intro sz
  refine xM_of (L := LC ad) (by decide) (Nat.le_of_ble_eq_true rfl) (fun p e s m below meth c hsz hr C => ?_)
  show j_i p l e rm_Ch_has s m _ below meth c sz D (WC ad cI) (LC ad) out 2 (WC ad cI st) [(0, .ref (ad 1)), (1, .int x1)] 0 []
  unfold f_Ch_has at hf
  refine xj_iload_n C d_Ch_has_0 rfl 1 rfl ?_
  refine xj_if_lt (tgt := 21) C d_Ch_has_1 (by decide) (fun h9 => ?_) (fun h9 => ?_)
  · have hf := xi_pos h9 hf
    refine xj_iconst (v := 0) C d_Ch_has_21 rfl ?_
    exact xj_zret C hr rfl hf d_Ch_has_22
  · have hf := xi_neg h9 hf
    refine xj_iload_n C d_Ch_has_4 rfl 1 rfl ?_
    refine xj_aload_n C d_Ch_has_5 rfl 0 rfl ?_
    refine xj_get C g_Ch_30 1 rfl rfl d_Ch_has_6 ?_
    refine xj_icmp_ge (tgt := 21) C d_Ch_has_9 (by decide) (fun h9 => ?_) (fun h9 => ?_)
    · have hf := xi_pos h9 hf
      refine xj_iconst (v := 0) C d_Ch_has_21 rfl ?_
      exact xj_zret C hr rfl hf d_Ch_has_22
    · have hf := xi_neg h9 hf
      refine xj_iload_n C d_Ch_has_12 rfl 1 rfl ?_
      refine xj_iconst (v := 2) C d_Ch_has_13 rfl ?_
      refine xj_icmp_ge (tgt := 21) C d_Ch_has_14 (by decide) (fun h9 => ?_) (fun h9 => ?_)
      · have hf := xi_pos h9 hf
        refine xj_iconst (v := 0) C d_Ch_has_21 rfl ?_
        exact xj_zret C hr rfl hf d_Ch_has_22
      · have hf := xi_neg h9 hf
        refine xj_iconst (v := 1) C d_Ch_has_17 rfl ?_
        refine xj_goto (tgt := 22) C d_Ch_has_18 (by decide) ?_
        exact xj_zret C hr rfl hf d_Ch_has_22
set_option maxHeartbeats 4000000 in
set_option maxRecDepth 20000 in
theorem c_Ch_fill {l : Launch} {D : va_G} {ad : Nat → Nat} {cI : ClassId} (N : (LC ad).Nodup) {x1 : Int32} {st : St} {out : Int32 × St} (hf : f_Ch_fill x1 st = some out) : xMi l y_Ch_fill b_Ch_fill 2 (some .int) rm_Ch_fill D (tyC cI) (WC ad cI) (LC ad) [.ref (ad 1), .int x1] st out := by
  intro sz
  refine xM_of (L := LC ad) (by decide) (Nat.le_of_ble_eq_true rfl) (fun p e s m below meth c hsz hr C => ?_)
  show j_i p l e rm_Ch_fill s m _ below meth c sz D (WC ad cI) (LC ad) out 2 (WC ad cI st) [(0, .ref (ad 1)), (1, .int x1)] 0 []
  unfold f_Ch_fill at hf
  refine xj_aload_n C d_Ch_fill_0 rfl 0 rfl ?_
  refine xj_iload_n C d_Ch_fill_1 rfl 1 rfl ?_
  obtain ⟨o1, ho1, hf⟩ := xb_some hf
  refine xj_callVi (rest := []) C (c_Ch_has N ho1) Y_Ch_has i_Ch_37 1 rfl rfl (by decide) ⟨rfl, rfl⟩ rfl rfl (Nat.le_of_ble_eq_true rfl) d_Ch_fill_2 (fun q h => Or.inl h) ?_
  refine xj_if_eq (tgt := 17) C d_Ch_fill_5 (by decide) (fun h9 => ?_) (fun h9 => ?_)
  · have hf := xi_pos h9 hf
    refine xj_iconst (v := 0) C d_Ch_fill_17 rfl ?_
    exact xj_iret C hr hf d_Ch_fill_18
  · have hf := xi_neg h9 hf
    refine xj_aload_n C d_Ch_fill_8 rfl 0 rfl ?_
    refine xj_get C g_Ch_18 1 rfl rfl d_Ch_fill_9 ?_
    refine xj_iload_n C d_Ch_fill_12 rfl 1 rfl ?_
    obtain ⟨g2, hf⟩ := xb_guard hf
    refine xj_iald C 10 0 rfl rfl g2 d_Ch_fill_13 ?_
    refine xj_goto (tgt := 18) C d_Ch_fill_14 (by decide) ?_
    exact xj_iret C hr hf d_Ch_fill_18
set_option maxHeartbeats 4000000 in
set_option maxRecDepth 20000 in
theorem w_Pl_tryRuns_186 {p : Program} {l : Launch} {e : Env} {s : State} {m : MethodId} {args : Array Value} {below : List Frame} {meth : Method} {c : Code} {sz : Nat} {D : va_G} {ad : Nat → Nat} {cI : ClassId} {out : St} {dd : Nat} (N : (LC ad).Nodup) (C : xC p s m args meth c (xA (LC ad) sz) D 12 (tyC cI) b_Pl_tryRuns R_Pl) (hr : meth.sig.returnType = none) {REC : Int32 → Int32 → Int32 → Int32 → Int32 → Int32 → St → Option (St)} (hREC : ∀ (x1 x2 x3 x4 x5 x6 : Int32) (st : St) (o : St), REC x1 x2 x3 x4 x5 x6 st = some o → xMv l y_Pl_tryRuns b_Pl_tryRuns 12 none (rm_Pl_tryRuns dd) D (tyC cI) (WC ad cI) (LC ad) [.ref (ad 4), .int x1, .int x2, .int x3, .int x4, .int x5, .int x6] st o) {K56 : Int32 → Int32 → Int32 → Int32 → Int32 → Int32 → Int32 → Int32 → St → Option (St)} (hK56 : ∀ (x1 x2 x3 x4 x5 x6 x7 x8 : Int32) (st : St), K56 x1 x2 x3 x4 x5 x6 x7 x8 st = some out → j_v p l e (rm_Pl_tryRuns (dd + 1)) s m args below meth c sz D (WC ad cI) (LC ad) out 12 (WC ad cI st) [(0, .ref (ad 4)), (1, .int x1), (2, .int x2), (3, .int x3), (4, .int x4), (5, .int x5), (6, .int x6), (7, .int x7), (8, .int x8)] 56 []) (x1 x2 x3 x4 x5 x6 x7 x8 : Int32) (st : St) (hf : f_Pl_tryRuns_186 REC K56 x1 x2 x3 x4 x5 x6 x7 x8 st = some out) : j_v p l e (rm_Pl_tryRuns (dd + 1)) s m args below meth c sz D (WC ad cI) (LC ad) out 12 (WC ad cI st) [(0, .ref (ad 4)), (1, .int x1), (2, .int x2), (3, .int x3), (4, .int x4), (5, .int x5), (6, .int x6), (7, .int x7), (8, .int x8)] 186 [] := by
  unfold f_Pl_tryRuns_186 at hf
  refine xj_iinc (v := x8 + 1) (j := 8) C d_Pl_tryRuns_186 rfl rfl (by decide) rfl ?_
  refine xj_goto (tgt := 56) C d_Pl_tryRuns_189 (by decide) ?_
  exact xj_lv [1, 2, 3, 4, 5, 6, 7, 8, 0] rfl (hK56 x1 x2 x3 x4 x5 x6 x7 (x8 + 1) st hf)
set_option maxHeartbeats 4000000 in
set_option maxRecDepth 20000 in
theorem c_LR_holds {l : Launch} {D : va_G} {ad : Nat → Nat} {cI : ClassId} (N : (LC ad).Nodup) {x0 x1 : Int32} {st : St} {out : Int32 × St} (hf : f_LR_holds x0 x1 st = some out) : xMi l y_LR_holds b_LR_holds 2 (some .boolean) rm_LR_holds D (tyC cI) (WC ad cI) (LC ad) [.int x0, .int x1] st out := by
  intro sz
  refine xM_of (L := LC ad) (by decide) (Nat.le_of_ble_eq_true rfl) (fun p e s m below meth c hsz hr C => ?_)
  show j_i p l e rm_LR_holds s m _ below meth c sz D (WC ad cI) (LC ad) out 2 (WC ad cI st) [(0, .int x0), (1, .int x1)] 0 []
  unfold f_LR_holds at hf
  refine xj_iload_n C d_LR_holds_0 rfl 0 rfl ?_
  refine xj_iconst (v := 1) C d_LR_holds_1 rfl ?_
  refine xj_iload_n C d_LR_holds_2 rfl 1 rfl ?_
  refine xj_ishl C d_LR_holds_3 ?_
  refine xj_iand C d_LR_holds_4 ?_
  refine xj_if_eq (tgt := 12) C d_LR_holds_5 (by decide) (fun h9 => ?_) (fun h9 => ?_)
  · have hf := xi_pos h9 hf
    refine xj_iconst (v := 0) C d_LR_holds_12 rfl ?_
    exact xj_zret C hr rfl hf d_LR_holds_13
  · have hf := xi_neg h9 hf
    refine xj_iconst (v := 1) C d_LR_holds_8 rfl ?_
    refine xj_goto (tgt := 13) C d_LR_holds_9 (by decide) ?_
    exact xj_zret C hr rfl hf d_LR_holds_13
set_option maxHeartbeats 4000000 in
set_option maxRecDepth 20000 in
theorem w_Fl_commonDirection_41 {p : Program} {l : Launch} {e : Env} {s : State} {m : MethodId} {args : Array Value} {below : List Frame} {meth : Method} {c : Code} {sz : Nat} {D : va_G} {ad : Nat → Nat} {cI : ClassId} {out : Int32 × St} (N : (LC ad).Nodup) (C : xC p s m args meth c (xA (LC ad) sz) D 4 (tyC cI) b_Fl_commonDirection R_Fl) (hr : meth.sig.returnType = (some .int)) {K4 : Int32 → Int32 → Int32 → St → Option (Int32 × St)} (hK4 : ∀ (x1 x2 x3 : Int32) (st : St), K4 x1 x2 x3 st = some out → j_i p l e rm_Fl_commonDirection s m args below meth c sz D (WC ad cI) (LC ad) out 4 (WC ad cI st) [(0, .ref (ad 2)), (1, .int x1), (2, .int x2), (3, .int x3)] 4 []) (x1 x2 x3 : Int32) (st : St) (hf : f_Fl_commonDirection_41 K4 x1 x2 x3 st = some out) : j_i p l e rm_Fl_commonDirection s m args below meth c sz D (WC ad cI) (LC ad) out 4 (WC ad cI st) [(0, .ref (ad 2)), (1, .int x1), (2, .int x2), (3, .int x3)] 41 [] := by
  unfold f_Fl_commonDirection_41 at hf
  refine xj_iinc (v := x3 + 1) (j := 3) C d_Fl_commonDirection_41 rfl rfl (by decide) rfl ?_
  refine xj_goto (tgt := 4) C d_Fl_commonDirection_44 (by decide) ?_
  exact xj_lv [1, 2, 3, 0] rfl (hK4 x1 x2 (x3 + 1) st hf)
set_option maxHeartbeats 4000000 in
set_option maxRecDepth 20000 in
theorem w_Fl_commonDirection_34 {p : Program} {l : Launch} {e : Env} {s : State} {m : MethodId} {args : Array Value} {below : List Frame} {meth : Method} {c : Code} {sz : Nat} {D : va_G} {ad : Nat → Nat} {cI : ClassId} {out : Int32 × St} (N : (LC ad).Nodup) (C : xC p s m args meth c (xA (LC ad) sz) D 4 (tyC cI) b_Fl_commonDirection R_Fl) (hr : meth.sig.returnType = (some .int)) {K4 : Int32 → Int32 → Int32 → St → Option (Int32 × St)} (hK4 : ∀ (x1 x2 x3 : Int32) (st : St), K4 x1 x2 x3 st = some out → j_i p l e rm_Fl_commonDirection s m args below meth c sz D (WC ad cI) (LC ad) out 4 (WC ad cI st) [(0, .ref (ad 2)), (1, .int x1), (2, .int x2), (3, .int x3)] 4 []) (x1 x3 : Int32) (st : St) (hf : f_Fl_commonDirection_34 K4 x1 x3 st = some out) : j_i p l e rm_Fl_commonDirection s m args below meth c sz D (WC ad cI) (LC ad) out 4 (WC ad cI st) [(0, .ref (ad 2)), (1, .int x1), (3, .int x3)] 34 [] := by
  unfold f_Fl_commonDirection_34 at hf
  refine xj_aload_n C d_Fl_commonDirection_34 rfl 0 rfl ?_
  refine xj_get C g_Fl_21 2 rfl rfl d_Fl_commonDirection_35 ?_
  refine xj_iload_n C d_Fl_commonDirection_38 rfl 2 rfl ?_
  obtain ⟨g2, hf⟩ := xb_guard hf
  refine xj_iald C 17 0 rfl rfl g2 d_Fl_commonDirection_39 ?_
  refine xj_topi (fun v3 ev3 => ?_)
  have hf := xlet_at ev3 hf
  refine xj_istore_n C d_Fl_commonDirection_40 rfl (by decide) rfl ?_
  exact xj_lv [1, 2, 0, 3] rfl (w_Fl_commonDirection_41 N C hr hK4 x1 v3 x3 st hf)
set_option maxHeartbeats 4000000 in
set_option maxRecDepth 20000 in
theorem wb_Fl_commonDirection_4 {p : Program} {l : Launch} {e : Env} {s : State} {m : MethodId} {args : Array Value} {below : List Frame} {meth : Method} {c : Code} {sz : Nat} {D : va_G} {ad : Nat → Nat} {cI : ClassId} {out : Int32 × St} (N : (LC ad).Nodup) (C : xC p s m args meth c (xA (LC ad) sz) D 4 (tyC cI) b_Fl_commonDirection R_Fl) (hr : meth.sig.returnType = (some .int)) {K4 : Int32 → Int32 → Int32 → St → Option (Int32 × St)} (hK4 : ∀ (x1 x2 x3 : Int32) (st : St), K4 x1 x2 x3 st = some out → j_i p l e rm_Fl_commonDirection s m args below meth c sz D (WC ad cI) (LC ad) out 4 (WC ad cI st) [(0, .ref (ad 2)), (1, .int x1), (2, .int x2), (3, .int x3)] 4 []) (x1 x2 x3 : Int32) (st : St) (hf : b_Fl_commonDirection_4 K4 x1 x2 x3 st = some out) : j_i p l e rm_Fl_commonDirection s m args below meth c sz D (WC ad cI) (LC ad) out 4 (WC ad cI st) [(0, .ref (ad 2)), (1, .int x1), (2, .int x2), (3, .int x3)] 4 [] := by
  unfold b_Fl_commonDirection_4 at hf
  refine xj_iload_n C d_Fl_commonDirection_4 rfl 3 rfl ?_
  refine xj_iconst (v := 4) C d_Fl_commonDirection_5 rfl ?_
  refine xj_icmp_ge (tgt := 47) C d_Fl_commonDirection_6 (by decide) (fun h9 => ?_) (fun h9 => ?_)
  · have hf := xi_pos h9 hf
    refine xj_iload_n C d_Fl_commonDirection_47 rfl 2 rfl ?_
    exact xj_iret C hr hf d_Fl_commonDirection_48
  · have hf := xi_neg h9 hf
    refine xj_iload_n C d_Fl_commonDirection_9 rfl 1 rfl ?_
    refine xj_iload_n C d_Fl_commonDirection_10 rfl 3 rfl ?_
    obtain ⟨o1, ho1, hf⟩ := xb_some hf
    refine xj_callSNi (rest := []) C (c_LR_holds N ho1) Y_LR_holds i_Fl_35 (by decide) ⟨rfl, rfl⟩ rfl rfl (Nat.le_of_ble_eq_true rfl) d_Fl_commonDirection_11 (fun q h => Or.inl h) ?_
    refine xj_if_eq (tgt := 41) C d_Fl_commonDirection_14 (by decide) (fun h9 => ?_) (fun h9 => ?_)
    · have hf := xi_pos h9 hf
      exact xj_lv [0, 1, 2, 3] rfl (w_Fl_commonDirection_41 N C hr hK4 x1 x2 x3 o1.2 hf)
    · have hf := xi_neg h9 hf
      refine xj_iload_n C d_Fl_commonDirection_17 rfl 2 rfl ?_
      refine xj_iconst (v := (-1)) C d_Fl_commonDirection_18 rfl ?_
      refine xj_icmp_eq (tgt := 34) C d_Fl_commonDirection_19 (by decide) (fun h9 => ?_) (fun h9 => ?_)
      · have hf := xi_pos h9 hf
        exact xj_lv [0, 1, 3] rfl (w_Fl_commonDirection_34 N C hr hK4 x1 x3 o1.2 hf)
      · have hf := xi_neg h9 hf
        refine xj_iload_n C d_Fl_commonDirection_22 rfl 2 rfl ?_
        refine xj_aload_n C d_Fl_commonDirection_23 rfl 0 rfl ?_
        refine xj_get C g_Fl_21 2 rfl rfl d_Fl_commonDirection_24 ?_
        refine xj_iload_n C d_Fl_commonDirection_27 rfl 3 rfl ?_
        obtain ⟨g4, hf⟩ := xb_guard hf
        refine xj_iald C 17 0 rfl rfl g4 d_Fl_commonDirection_28 ?_
        refine xj_icmp_eq (tgt := 34) C d_Fl_commonDirection_29 (by decide) (fun h9 => ?_) (fun h9 => ?_)
        · have hf := xi_pos h9 hf
          exact xj_lv [0, 1, 3] rfl (w_Fl_commonDirection_34 N C hr hK4 x1 x3 o1.2 hf)
        · have hf := xi_neg h9 hf
          refine xj_iconst (v := (-1)) C d_Fl_commonDirection_32 rfl ?_
          exact xj_iret C hr hf d_Fl_commonDirection_33
set_option maxHeartbeats 4000000 in
set_option maxRecDepth 20000 in
theorem w_Fl_commonDirection_4 {p : Program} {l : Launch} {e : Env} {s : State} {m : MethodId} {args : Array Value} {below : List Frame} {meth : Method} {c : Code} {sz : Nat} {D : va_G} {ad : Nat → Nat} {cI : ClassId} {out : Int32 × St} (N : (LC ad).Nodup) (C : xC p s m args meth c (xA (LC ad) sz) D 4 (tyC cI) b_Fl_commonDirection R_Fl) (hr : meth.sig.returnType = (some .int)) (n : Nat) : ∀ (x1 x2 x3 : Int32) (st : St), f_Fl_commonDirection_4 n x1 x2 x3 st = some out → j_i p l e rm_Fl_commonDirection s m args below meth c sz D (WC ad cI) (LC ad) out 4 (WC ad cI st) [(0, .ref (ad 2)), (1, .int x1), (2, .int x2), (3, .int x3)] 4 [] := by
  induction n with
  | zero => intro x1 x2 x3 st hf; exact absurd (show (none : Option (Int32 × St)) = some out from hf) (fun h => by cases h)
  | succ n ih => intro x1 x2 x3 st hf; exact wb_Fl_commonDirection_4 N C hr ih x1 x2 x3 st hf
set_option maxHeartbeats 4000000 in
set_option maxRecDepth 20000 in
theorem c_Fl_commonDirection {l : Launch} {D : va_G} {ad : Nat → Nat} {cI : ClassId} (N : (LC ad).Nodup) {x1 : Int32} {st : St} {out : Int32 × St} (hf : f_Fl_commonDirection x1 st = some out) : xMi l y_Fl_commonDirection b_Fl_commonDirection 4 (some .int) rm_Fl_commonDirection D (tyC cI) (WC ad cI) (LC ad) [.ref (ad 2), .int x1] st out := by
  intro sz
  refine xM_of (L := LC ad) (by decide) (Nat.le_of_ble_eq_true rfl) (fun p e s m below meth c hsz hr C => ?_)
  show j_i p l e rm_Fl_commonDirection s m _ below meth c sz D (WC ad cI) (LC ad) out 4 (WC ad cI st) [(0, .ref (ad 2)), (1, .int x1)] 0 []
  unfold f_Fl_commonDirection at hf
  refine xj_iconst (v := (-1)) C d_Fl_commonDirection_0 rfl ?_
  refine xj_istore_n C d_Fl_commonDirection_1 rfl (by decide) rfl ?_
  refine xj_iconst (v := 0) C d_Fl_commonDirection_2 rfl ?_
  refine xj_istore_n C d_Fl_commonDirection_3 rfl (by decide) rfl ?_
  exact xj_lv [2, 3, 1, 0] rfl (w_Fl_commonDirection_4 N C hr 40 x1 (-1) 0 st hf)
set_option maxHeartbeats 4000000 in
set_option maxRecDepth 20000 in
theorem w_Be_canLay_60 {p : Program} {l : Launch} {e : Env} {s : State} {m : MethodId} {args : Array Value} {below : List Frame} {meth : Method} {c : Code} {sz : Nat} {D : va_G} {ad : Nat → Nat} {cI : ClassId} {out : Int32 × St} (N : (LC ad).Nodup) (C : xC p s m args meth c (xA (LC ad) sz) D 4 (tyC cI) b_Be_canLay R_Be) (hr : meth.sig.returnType = (some .boolean)) (x3 : Int32) (st : St) (hf : f_Be_canLay_60 x3 st = some out) : j_i p l e rm_Be_canLay s m args below meth c sz D (WC ad cI) (LC ad) out 4 (WC ad cI st) [(0, .ref (ad 3)), (3, .int x3)] 60 [] := by
  unfold f_Be_canLay_60 at hf
  refine xj_aload_n C d_Be_canLay_60 rfl 0 rfl ?_
  refine xj_get C g_Be_18 3 rfl rfl d_Be_canLay_61 ?_
  refine xj_iload_n C d_Be_canLay_64 rfl 1 rfl ?_
  obtain ⟨g3, hf⟩ := xb_guard hf
  refine xj_iald C 21 0 rfl rfl g3 d_Be_canLay_65 ?_
  refine xj_iconst (v := 1) C d_Be_canLay_66 rfl ?_
  refine xj_icmp_ne (tgt := 74) C d_Be_canLay_67 (by decide) (fun h9 => ?_) (fun h9 => ?_)
  · have hf := xi_neg h9 hf
    refine xj_iconst (v := 0) C d_Be_canLay_74 rfl ?_
    exact xj_zret C hr rfl hf d_Be_canLay_75
  · have hf := xi_pos h9 hf
    refine xj_iconst (v := 1) C d_Be_canLay_70 rfl ?_
    refine xj_goto (tgt := 75) C d_Be_canLay_71 (by decide) ?_
    exact xj_zret C hr rfl hf d_Be_canLay_75
set_option maxHeartbeats 4000000 in
set_option maxRecDepth 20000 in
theorem c_Fl_has {l : Launch} {D : va_G} {ad : Nat → Nat} {cI : ClassId} (N : (LC ad).Nodup) {x1 : Int32} {st : St} {out : Int32 × St} (hf : f_Fl_has x1 st = some out) : xMi l y_Fl_has b_Fl_has 2 (some .boolean) rm_Fl_has D (tyC cI) (WC ad cI) (LC ad) [.ref (ad 2), .int x1] st out := by
  intro sz
  refine xM_of (L := LC ad) (by decide) (Nat.le_of_ble_eq_true rfl) (fun p e s m below meth c hsz hr C => ?_)
  show j_i p l e rm_Fl_has s m _ below meth c sz D (WC ad cI) (LC ad) out 2 (WC ad cI st) [(0, .ref (ad 2)), (1, .int x1)] 0 []
  unfold f_Fl_has at hf
  refine xj_iload_n C d_Fl_has_0 rfl 1 rfl ?_
  refine xj_if_lt (tgt := 21) C d_Fl_has_1 (by decide) (fun h9 => ?_) (fun h9 => ?_)
  · have hf := xi_pos h9 hf
    refine xj_iconst (v := 0) C d_Fl_has_21 rfl ?_
    exact xj_zret C hr rfl hf d_Fl_has_22
  · have hf := xi_neg h9 hf
    refine xj_iload_n C d_Fl_has_4 rfl 1 rfl ?_
    refine xj_aload_n C d_Fl_has_5 rfl 0 rfl ?_
    refine xj_get C g_Fl_27 2 rfl rfl d_Fl_has_6 ?_
    refine xj_icmp_ge (tgt := 21) C d_Fl_has_9 (by decide) (fun h9 => ?_) (fun h9 => ?_)
    · have hf := xi_pos h9 hf
      refine xj_iconst (v := 0) C d_Fl_has_21 rfl ?_
      exact xj_zret C hr rfl hf d_Fl_has_22
    · have hf := xi_neg h9 hf
      refine xj_iload_n C d_Fl_has_12 rfl 1 rfl ?_
      refine xj_iconst (v := 4) C d_Fl_has_13 rfl ?_
      refine xj_icmp_ge (tgt := 21) C d_Fl_has_14 (by decide) (fun h9 => ?_) (fun h9 => ?_)
      · have hf := xi_pos h9 hf
        refine xj_iconst (v := 0) C d_Fl_has_21 rfl ?_
        exact xj_zret C hr rfl hf d_Fl_has_22
      · have hf := xi_neg h9 hf
        refine xj_iconst (v := 1) C d_Fl_has_17 rfl ?_
        refine xj_goto (tgt := 22) C d_Fl_has_18 (by decide) ?_
        exact xj_zret C hr rfl hf d_Fl_has_22
set_option maxHeartbeats 4000000 in
set_option maxRecDepth 20000 in
theorem c_Fl_length {l : Launch} {D : va_G} {ad : Nat → Nat} {cI : ClassId} (N : (LC ad).Nodup) {x1 : Int32} {st : St} {out : Int32 × St} (hf : f_Fl_length x1 st = some out) : xMi l y_Fl_length b_Fl_length 2 (some .int) rm_Fl_length D (tyC cI) (WC ad cI) (LC ad) [.ref (ad 2), .int x1] st out := by
  intro sz
  refine xM_of (L := LC ad) (by decide) (Nat.le_of_ble_eq_true rfl) (fun p e s m below meth c hsz hr C => ?_)
  show j_i p l e rm_Fl_length s m _ below meth c sz D (WC ad cI) (LC ad) out 2 (WC ad cI st) [(0, .ref (ad 2)), (1, .int x1)] 0 []
  unfold f_Fl_length at hf
  refine xj_aload_n C d_Fl_length_0 rfl 0 rfl ?_
  refine xj_iload_n C d_Fl_length_1 rfl 1 rfl ?_
  obtain ⟨o1, ho1, hf⟩ := xb_some hf
  refine xj_callVi (rest := []) C (c_Fl_has N ho1) Y_Fl_has i_Fl_31 2 rfl rfl (by decide) ⟨rfl, rfl⟩ rfl rfl (Nat.le_of_ble_eq_true rfl) d_Fl_length_2 (fun q h => Or.inl h) ?_
  refine xj_if_eq (tgt := 17) C d_Fl_length_5 (by decide) (fun h9 => ?_) (fun h9 => ?_)
  · have hf := xi_pos h9 hf
    refine xj_iconst (v := 0) C d_Fl_length_17 rfl ?_
    exact xj_iret C hr hf d_Fl_length_18
  · have hf := xi_neg h9 hf
    refine xj_aload_n C d_Fl_length_8 rfl 0 rfl ?_
    refine xj_get C g_Fl_9 2 rfl rfl d_Fl_length_9 ?_
    refine xj_iload_n C d_Fl_length_12 rfl 1 rfl ?_
    obtain ⟨g2, hf⟩ := xb_guard hf
    refine xj_iald C 14 0 rfl rfl g2 d_Fl_length_13 ?_
    refine xj_goto (tgt := 18) C d_Fl_length_14 (by decide) ?_
    exact xj_iret C hr hf d_Fl_length_18
set_option maxHeartbeats 4000000 in
set_option maxRecDepth 20000 in
theorem c_Fl_width {l : Launch} {D : va_G} {ad : Nat → Nat} {cI : ClassId} (N : (LC ad).Nodup) {x1 : Int32} {st : St} {out : Int32 × St} (hf : f_Fl_width x1 st = some out) : xMi l y_Fl_width b_Fl_width 2 (some .int) rm_Fl_width D (tyC cI) (WC ad cI) (LC ad) [.ref (ad 2), .int x1] st out := by
  intro sz
  refine xM_of (L := LC ad) (by decide) (Nat.le_of_ble_eq_true rfl) (fun p e s m below meth c hsz hr C => ?_)
  show j_i p l e rm_Fl_width s m _ below meth c sz D (WC ad cI) (LC ad) out 2 (WC ad cI st) [(0, .ref (ad 2)), (1, .int x1)] 0 []
  unfold f_Fl_width at hf
  refine xj_aload_n C d_Fl_width_0 rfl 0 rfl ?_
  refine xj_iload_n C d_Fl_width_1 rfl 1 rfl ?_
  obtain ⟨o1, ho1, hf⟩ := xb_some hf
  refine xj_callVi (rest := []) C (c_Fl_has N ho1) Y_Fl_has i_Fl_31 2 rfl rfl (by decide) ⟨rfl, rfl⟩ rfl rfl (Nat.le_of_ble_eq_true rfl) d_Fl_width_2 (fun q h => Or.inl h) ?_
  refine xj_if_eq (tgt := 17) C d_Fl_width_5 (by decide) (fun h9 => ?_) (fun h9 => ?_)
  · have hf := xi_pos h9 hf
    refine xj_iconst (v := 0) C d_Fl_width_17 rfl ?_
    exact xj_iret C hr hf d_Fl_width_18
  · have hf := xi_neg h9 hf
    refine xj_aload_n C d_Fl_width_8 rfl 0 rfl ?_
    refine xj_get C g_Fl_15 2 rfl rfl d_Fl_width_9 ?_
    refine xj_iload_n C d_Fl_width_12 rfl 1 rfl ?_
    obtain ⟨g2, hf⟩ := xb_guard hf
    refine xj_iald C 15 0 rfl rfl g2 d_Fl_width_13 ?_
    refine xj_goto (tgt := 18) C d_Fl_width_14 (by decide) ?_
    exact xj_iret C hr hf d_Fl_width_18
set_option maxHeartbeats 4000000 in
set_option maxRecDepth 20000 in
theorem c_Ch_length {l : Launch} {D : va_G} {ad : Nat → Nat} {cI : ClassId} (N : (LC ad).Nodup) {x1 : Int32} {st : St} {out : Int32 × St} (hf : f_Ch_length x1 st = some out) : xMi l y_Ch_length b_Ch_length 2 (some .int) rm_Ch_length D (tyC cI) (WC ad cI) (LC ad) [.ref (ad 1), .int x1] st out := by
  intro sz
  refine xM_of (L := LC ad) (by decide) (Nat.le_of_ble_eq_true rfl) (fun p e s m below meth c hsz hr C => ?_)
  show j_i p l e rm_Ch_length s m _ below meth c sz D (WC ad cI) (LC ad) out 2 (WC ad cI st) [(0, .ref (ad 1)), (1, .int x1)] 0 []
  unfold f_Ch_length at hf
  refine xj_aload_n C d_Ch_length_0 rfl 0 rfl ?_
  refine xj_iload_n C d_Ch_length_1 rfl 1 rfl ?_
  obtain ⟨o1, ho1, hf⟩ := xb_some hf
  refine xj_callVi (rest := []) C (c_Ch_has N ho1) Y_Ch_has i_Ch_37 1 rfl rfl (by decide) ⟨rfl, rfl⟩ rfl rfl (Nat.le_of_ble_eq_true rfl) d_Ch_length_2 (fun q h => Or.inl h) ?_
  refine xj_if_eq (tgt := 17) C d_Ch_length_5 (by decide) (fun h9 => ?_) (fun h9 => ?_)
  · have hf := xi_pos h9 hf
    refine xj_iconst (v := 0) C d_Ch_length_17 rfl ?_
    exact xj_iret C hr hf d_Ch_length_18
  · have hf := xi_neg h9 hf
    refine xj_aload_n C d_Ch_length_8 rfl 0 rfl ?_
    refine xj_get C g_Ch_9 1 rfl rfl d_Ch_length_9 ?_
    refine xj_iload_n C d_Ch_length_12 rfl 1 rfl ?_
    obtain ⟨g2, hf⟩ := xb_guard hf
    refine xj_iald C 8 0 rfl rfl g2 d_Ch_length_13 ?_
    refine xj_goto (tgt := 18) C d_Ch_length_14 (by decide) ?_
    exact xj_iret C hr hf d_Ch_length_18
set_option maxHeartbeats 4000000 in
set_option maxRecDepth 20000 in
theorem c_Ch_width {l : Launch} {D : va_G} {ad : Nat → Nat} {cI : ClassId} (N : (LC ad).Nodup) {x1 : Int32} {st : St} {out : Int32 × St} (hf : f_Ch_width x1 st = some out) : xMi l y_Ch_width b_Ch_width 2 (some .int) rm_Ch_width D (tyC cI) (WC ad cI) (LC ad) [.ref (ad 1), .int x1] st out := by
  intro sz
  refine xM_of (L := LC ad) (by decide) (Nat.le_of_ble_eq_true rfl) (fun p e s m below meth c hsz hr C => ?_)
  show j_i p l e rm_Ch_width s m _ below meth c sz D (WC ad cI) (LC ad) out 2 (WC ad cI st) [(0, .ref (ad 1)), (1, .int x1)] 0 []
  unfold f_Ch_width at hf
  refine xj_aload_n C d_Ch_width_0 rfl 0 rfl ?_
  refine xj_iload_n C d_Ch_width_1 rfl 1 rfl ?_
  obtain ⟨o1, ho1, hf⟩ := xb_some hf
  refine xj_callVi (rest := []) C (c_Ch_has N ho1) Y_Ch_has i_Ch_37 1 rfl rfl (by decide) ⟨rfl, rfl⟩ rfl rfl (Nat.le_of_ble_eq_true rfl) d_Ch_width_2 (fun q h => Or.inl h) ?_
  refine xj_if_eq (tgt := 17) C d_Ch_width_5 (by decide) (fun h9 => ?_) (fun h9 => ?_)
  · have hf := xi_pos h9 hf
    refine xj_iconst (v := 0) C d_Ch_width_17 rfl ?_
    exact xj_iret C hr hf d_Ch_width_18
  · have hf := xi_neg h9 hf
    refine xj_aload_n C d_Ch_width_8 rfl 0 rfl ?_
    refine xj_get C g_Ch_15 1 rfl rfl d_Ch_width_9 ?_
    refine xj_iload_n C d_Ch_width_12 rfl 1 rfl ?_
    obtain ⟨g2, hf⟩ := xb_guard hf
    refine xj_iald C 9 0 rfl rfl g2 d_Ch_width_13 ?_
    refine xj_goto (tgt := 18) C d_Ch_width_14 (by decide) ?_
    exact xj_iret C hr hf d_Ch_width_18
set_option maxHeartbeats 4000000 in
set_option maxRecDepth 20000 in
theorem c_Fl_side {l : Launch} {D : va_G} {ad : Nat → Nat} {cI : ClassId} (N : (LC ad).Nodup) {x1 : Int32} {st : St} {out : Int32 × St} (hf : f_Fl_side x1 st = some out) : xMi l y_Fl_side b_Fl_side 2 (some .int) rm_Fl_side D (tyC cI) (WC ad cI) (LC ad) [.ref (ad 2), .int x1] st out := by
  intro sz
  refine xM_of (L := LC ad) (by decide) (Nat.le_of_ble_eq_true rfl) (fun p e s m below meth c hsz hr C => ?_)
  show j_i p l e rm_Fl_side s m _ below meth c sz D (WC ad cI) (LC ad) out 2 (WC ad cI st) [(0, .ref (ad 2)), (1, .int x1)] 0 []
  unfold f_Fl_side at hf
  refine xj_aload_n C d_Fl_side_0 rfl 0 rfl ?_
  refine xj_iload_n C d_Fl_side_1 rfl 1 rfl ?_
  obtain ⟨o1, ho1, hf⟩ := xb_some hf
  refine xj_callVi (rest := []) C (c_Fl_has N ho1) Y_Fl_has i_Fl_31 2 rfl rfl (by decide) ⟨rfl, rfl⟩ rfl rfl (Nat.le_of_ble_eq_true rfl) d_Fl_side_2 (fun q h => Or.inl h) ?_
  refine xj_if_eq (tgt := 17) C d_Fl_side_5 (by decide) (fun h9 => ?_) (fun h9 => ?_)
  · have hf := xi_pos h9 hf
    refine xj_iconst (v := 2) C d_Fl_side_17 rfl ?_
    exact xj_iret C hr hf d_Fl_side_18
  · have hf := xi_neg h9 hf
    refine xj_aload_n C d_Fl_side_8 rfl 0 rfl ?_
    refine xj_get C g_Fl_24 2 rfl rfl d_Fl_side_9 ?_
    refine xj_iload_n C d_Fl_side_12 rfl 1 rfl ?_
    obtain ⟨g2, hf⟩ := xb_guard hf
    refine xj_iald C 18 0 rfl rfl g2 d_Fl_side_13 ?_
    refine xj_goto (tgt := 18) C d_Fl_side_14 (by decide) ?_
    exact xj_iret C hr hf d_Fl_side_18
set_option maxHeartbeats 4000000 in
set_option maxRecDepth 20000 in
theorem w_Be_cells_62 {p : Program} {l : Launch} {e : Env} {s : State} {m : MethodId} {args : Array Value} {below : List Frame} {meth : Method} {c : Code} {sz : Nat} {D : va_G} {ad : Nat → Nat} {cI : ClassId} {out : Int32 × St} (N : (LC ad).Nodup) (C : xC p s m args meth c (xA (LC ad) sz) D 7 (tyC cI) b_Be_cells R_Be) (hr : meth.sig.returnType = (some .int)) {K10 : Int32 → Int32 → Int32 → Int32 → Int32 → St → Option (Int32 × St)} (hK10 : ∀ (x1 x2 x3 x4 x5 : Int32) (st : St), K10 x1 x2 x3 x4 x5 st = some out → j_i p l e rm_Be_cells s m args below meth c sz D (WC ad cI) (LC ad) out 7 (WC ad cI st) [(1, .int x1), (2, .int x2), (3, .int x3), (4, .int x4), (5, .int x5)] 10 []) (x1 x2 x3 x4 x5 : Int32) (st : St) (hf : f_Be_cells_62 K10 x1 x2 x3 x4 x5 st = some out) : j_i p l e rm_Be_cells s m args below meth c sz D (WC ad cI) (LC ad) out 7 (WC ad cI st) [(1, .int x1), (2, .int x2), (3, .int x3), (4, .int x4), (5, .int x5)] 62 [] := by
  unfold f_Be_cells_62 at hf
  refine xj_iinc (v := x5 + 1) (j := 4) C d_Be_cells_62 rfl rfl (by decide) rfl ?_
  refine xj_goto (tgt := 10) C d_Be_cells_65 (by decide) ?_
  exact xj_lv [1, 2, 3, 4, 0] rfl (hK10 x1 x2 x3 x4 (x5 + 1) st hf)
set_option maxHeartbeats 4000000 in
set_option maxRecDepth 20000 in
theorem wb_Be_cells_30 {p : Program} {l : Launch} {e : Env} {s : State} {m : MethodId} {args : Array Value} {below : List Frame} {meth : Method} {c : Code} {sz : Nat} {D : va_G} {ad : Nat → Nat} {cI : ClassId} {out : Int32 × St} (N : (LC ad).Nodup) (C : xC p s m args meth c (xA (LC ad) sz) D 7 (tyC cI) b_Be_cells R_Be) (hr : meth.sig.returnType = (some .int)) {K10 : Int32 → Int32 → Int32 → Int32 → Int32 → St → Option (Int32 × St)} (hK10 : ∀ (x1 x2 x3 x4 x5 : Int32) (st : St), K10 x1 x2 x3 x4 x5 st = some out → j_i p l e rm_Be_cells s m args below meth c sz D (WC ad cI) (LC ad) out 7 (WC ad cI st) [(1, .int x1), (2, .int x2), (3, .int x3), (4, .int x4), (5, .int x5)] 10 []) {K30 : Int32 → Int32 → Int32 → Int32 → Int32 → Int32 → St → Option (Int32 × St)} (hK30 : ∀ (x1 x2 x3 x4 x5 x6 : Int32) (st : St), K30 x1 x2 x3 x4 x5 x6 st = some out → j_i p l e rm_Be_cells s m args below meth c sz D (WC ad cI) (LC ad) out 7 (WC ad cI st) [(1, .int x1), (2, .int x2), (3, .int x3), (4, .int x4), (5, .int x5), (6, .int x6)] 30 []) (x1 x2 x3 x4 x5 x6 : Int32) (st : St) (hf : b_Be_cells_30 K10 K30 x1 x2 x3 x4 x5 x6 st = some out) : j_i p l e rm_Be_cells s m args below meth c sz D (WC ad cI) (LC ad) out 7 (WC ad cI st) [(1, .int x1), (2, .int x2), (3, .int x3), (4, .int x4), (5, .int x5), (6, .int x6)] 30 [] := by
  unfold b_Be_cells_30 at hf
  refine xj_iload C d_Be_cells_30 5 rfl ?_
  refine xj_iload_n C d_Be_cells_32 rfl 2 rfl ?_
  refine xj_icmp_ge (tgt := 62) C d_Be_cells_33 (by decide) (fun h9 => ?_) (fun h9 => ?_)
  · have hf := xi_pos h9 hf
    exact xj_lv [0, 1, 2, 3, 4] rfl (w_Be_cells_62 N C hr hK10 x1 x2 x3 x4 x5 st hf)
  · have hf := xi_neg h9 hf
    refine xj_iload C d_Be_cells_36 5 rfl ?_
    refine xj_iconst (v := 3) C d_Be_cells_38 rfl ?_
    refine xj_icmp_ge (tgt := 62) C d_Be_cells_39 (by decide) (fun h9 => ?_) (fun h9 => ?_)
    · have hf := xi_pos h9 hf
      exact xj_lv [0, 1, 2, 3, 4] rfl (w_Be_cells_62 N C hr hK10 x1 x2 x3 x4 x5 st hf)
    · have hf := xi_neg h9 hf
      refine xj_iload C d_Be_cells_42 3 rfl ?_
      refine xj_iconst (v := 1) C d_Be_cells_44 rfl ?_
      refine xj_iconst (v := 3) C d_Be_cells_45 rfl ?_
      refine xj_iload C d_Be_cells_46 4 rfl ?_
      refine xj_imul C d_Be_cells_48 ?_
      refine xj_iload C d_Be_cells_49 5 rfl ?_
      refine xj_iadd C d_Be_cells_51 ?_
      refine xj_ishl C d_Be_cells_52 ?_
      refine xj_ior C d_Be_cells_53 ?_
      refine xj_topi (fun v3 ev3 => ?_)
      have hf := xlet_at ev3 hf
      refine xj_istore C d_Be_cells_54 (by decide) rfl ?_
      refine xj_iinc (v := x6 + 1) (j := 5) C d_Be_cells_56 rfl rfl (by decide) rfl ?_
      refine xj_goto (tgt := 30) C d_Be_cells_59 (by decide) ?_
      exact xj_lv [2, 3, 4, 1, 5, 0] rfl (hK30 x1 x2 x3 v3 x5 (x6 + 1) st hf)
set_option maxHeartbeats 4000000 in
set_option maxRecDepth 20000 in
theorem w_Be_cells_30 {p : Program} {l : Launch} {e : Env} {s : State} {m : MethodId} {args : Array Value} {below : List Frame} {meth : Method} {c : Code} {sz : Nat} {D : va_G} {ad : Nat → Nat} {cI : ClassId} {out : Int32 × St} (N : (LC ad).Nodup) (C : xC p s m args meth c (xA (LC ad) sz) D 7 (tyC cI) b_Be_cells R_Be) (hr : meth.sig.returnType = (some .int)) {K10 : Int32 → Int32 → Int32 → Int32 → Int32 → St → Option (Int32 × St)} (hK10 : ∀ (x1 x2 x3 x4 x5 : Int32) (st : St), K10 x1 x2 x3 x4 x5 st = some out → j_i p l e rm_Be_cells s m args below meth c sz D (WC ad cI) (LC ad) out 7 (WC ad cI st) [(1, .int x1), (2, .int x2), (3, .int x3), (4, .int x4), (5, .int x5)] 10 []) (n : Nat) : ∀ (x1 x2 x3 x4 x5 x6 : Int32) (st : St), f_Be_cells_30 K10 n x1 x2 x3 x4 x5 x6 st = some out → j_i p l e rm_Be_cells s m args below meth c sz D (WC ad cI) (LC ad) out 7 (WC ad cI st) [(1, .int x1), (2, .int x2), (3, .int x3), (4, .int x4), (5, .int x5), (6, .int x6)] 30 [] := by
  induction n with
  | zero => intro x1 x2 x3 x4 x5 x6 st hf; exact absurd (show (none : Option (Int32 × St)) = some out from hf) (fun h => by cases h)
  | succ n ih => intro x1 x2 x3 x4 x5 x6 st hf; exact wb_Be_cells_30 N C hr hK10 ih x1 x2 x3 x4 x5 x6 st hf
set_option maxHeartbeats 4000000 in
set_option maxRecDepth 20000 in
theorem wb_Be_cells_10 {p : Program} {l : Launch} {e : Env} {s : State} {m : MethodId} {args : Array Value} {below : List Frame} {meth : Method} {c : Code} {sz : Nat} {D : va_G} {ad : Nat → Nat} {cI : ClassId} {out : Int32 × St} (N : (LC ad).Nodup) (C : xC p s m args meth c (xA (LC ad) sz) D 7 (tyC cI) b_Be_cells R_Be) (hr : meth.sig.returnType = (some .int)) {K10 : Int32 → Int32 → Int32 → Int32 → Int32 → St → Option (Int32 × St)} (hK10 : ∀ (x1 x2 x3 x4 x5 : Int32) (st : St), K10 x1 x2 x3 x4 x5 st = some out → j_i p l e rm_Be_cells s m args below meth c sz D (WC ad cI) (LC ad) out 7 (WC ad cI st) [(1, .int x1), (2, .int x2), (3, .int x3), (4, .int x4), (5, .int x5)] 10 []) (x1 x2 x3 x4 x5 : Int32) (st : St) (hf : b_Be_cells_10 K10 x1 x2 x3 x4 x5 st = some out) : j_i p l e rm_Be_cells s m args below meth c sz D (WC ad cI) (LC ad) out 7 (WC ad cI st) [(1, .int x1), (2, .int x2), (3, .int x3), (4, .int x4), (5, .int x5)] 10 [] := by
  unfold b_Be_cells_10 at hf
  refine xj_iload C d_Be_cells_10 4 rfl ?_
  refine xj_iload_n C d_Be_cells_12 rfl 0 rfl ?_
  refine xj_icmp_ge (tgt := 68) C d_Be_cells_13 (by decide) (fun h9 => ?_) (fun h9 => ?_)
  · have hf := xi_pos h9 hf
    refine xj_iload C d_Be_cells_68 3 rfl ?_
    exact xj_iret C hr hf d_Be_cells_70
  · have hf := xi_neg h9 hf
    refine xj_iload C d_Be_cells_16 4 rfl ?_
    refine xj_bipush (v := 8) C d_Be_cells_18 rfl ?_
    refine xj_icmp_ge (tgt := 68) C d_Be_cells_20 (by decide) (fun h9 => ?_) (fun h9 => ?_)
    · have hf := xi_pos h9 hf
      refine xj_iload C d_Be_cells_68 3 rfl ?_
      exact xj_iret C hr hf d_Be_cells_70
    · have hf := xi_neg h9 hf
      refine xj_iload_n C d_Be_cells_23 rfl 1 rfl ?_
      refine xj_iconst (v := 0) C d_Be_cells_24 rfl ?_
      refine xj_mmax C mm_Be_61 (by decide) (Nat.le_of_ble_eq_true rfl) d_Be_cells_25 ?_
      refine xj_topi (fun v2 ev2 => ?_)
      have hf := xlet_at ev2 hf
      refine xj_istore C d_Be_cells_28 (by decide) rfl ?_
      exact xj_lv [1, 2, 3, 4, 5, 0] rfl (w_Be_cells_30 N C hr hK10 40 x1 x2 x3 x4 x5 v2 st hf)
set_option maxHeartbeats 4000000 in
set_option maxRecDepth 20000 in
theorem w_Be_cells_10 {p : Program} {l : Launch} {e : Env} {s : State} {m : MethodId} {args : Array Value} {below : List Frame} {meth : Method} {c : Code} {sz : Nat} {D : va_G} {ad : Nat → Nat} {cI : ClassId} {out : Int32 × St} (N : (LC ad).Nodup) (C : xC p s m args meth c (xA (LC ad) sz) D 7 (tyC cI) b_Be_cells R_Be) (hr : meth.sig.returnType = (some .int)) (n : Nat) : ∀ (x1 x2 x3 x4 x5 : Int32) (st : St), f_Be_cells_10 n x1 x2 x3 x4 x5 st = some out → j_i p l e rm_Be_cells s m args below meth c sz D (WC ad cI) (LC ad) out 7 (WC ad cI st) [(1, .int x1), (2, .int x2), (3, .int x3), (4, .int x4), (5, .int x5)] 10 [] := by
  induction n with
  | zero => intro x1 x2 x3 x4 x5 st hf; exact absurd (show (none : Option (Int32 × St)) = some out from hf) (fun h => by cases h)
  | succ n ih => intro x1 x2 x3 x4 x5 st hf; exact wb_Be_cells_10 N C hr ih x1 x2 x3 x4 x5 st hf
set_option maxHeartbeats 4000000 in
set_option maxRecDepth 20000 in
theorem c_Be_cells {l : Launch} {D : va_G} {ad : Nat → Nat} {cI : ClassId} (N : (LC ad).Nodup) {x0 x1 x2 x3 : Int32} {st : St} {out : Int32 × St} (hf : f_Be_cells x0 x1 x2 x3 st = some out) : xMi l y_Be_cells b_Be_cells 7 (some .int) rm_Be_cells D (tyC cI) (WC ad cI) (LC ad) [.int x0, .int x1, .int x2, .int x3] st out := by
  intro sz
  refine xM_of (L := LC ad) (by decide) (Nat.le_of_ble_eq_true rfl) (fun p e s m below meth c hsz hr C => ?_)
  show j_i p l e rm_Be_cells s m _ below meth c sz D (WC ad cI) (LC ad) out 7 (WC ad cI st) [(0, .int x0), (1, .int x1), (2, .int x2), (3, .int x3)] 0 []
  unfold f_Be_cells at hf
  refine xj_iconst (v := 0) C d_Be_cells_0 rfl ?_
  refine xj_istore C d_Be_cells_1 (by decide) rfl ?_
  refine xj_iload_n C d_Be_cells_3 rfl 1 rfl ?_
  refine xj_iconst (v := 0) C d_Be_cells_4 rfl ?_
  refine xj_mmax C mm_Be_61 (by decide) (Nat.le_of_ble_eq_true rfl) d_Be_cells_5 ?_
  refine xj_topi (fun v1 ev1 => ?_)
  have hf := xlet_at ev1 hf
  refine xj_istore C d_Be_cells_8 (by decide) rfl ?_
  exact xj_lv [3, 4, 5, 1, 0] rfl (w_Be_cells_10 N C hr 40 x1 x2 x3 0 v1 st hf)
set_option maxHeartbeats 4000000 in
set_option maxRecDepth 20000 in
theorem w_Be_layFrom_240 {p : Program} {l : Launch} {e : Env} {s : State} {m : MethodId} {args : Array Value} {below : List Frame} {meth : Method} {c : Code} {sz : Nat} {D : va_G} {ad : Nat → Nat} {cI : ClassId} {out : Int32 × St} {dd : Nat} (N : (LC ad).Nodup) (C : xC p s m args meth c (xA (LC ad) sz) D 14 (tyC cI) b_Be_layFrom R_Be) (hr : meth.sig.returnType = (some .boolean)) {REC : Int32 → Int32 → Int32 → Int32 → St → Option (Int32 × St)} (hREC : ∀ (x1 x2 x3 x4 : Int32) (st : St) (o : Int32 × St), REC x1 x2 x3 x4 st = some o → xMi l y_Be_layFrom b_Be_layFrom 14 (some .boolean) (rm_Be_layFrom dd) D (tyC cI) (WC ad cI) (LC ad) [.ref (ad 3), .int x1, .int x2, .int x3, .int x4] st o) {K132 : Int32 → Int32 → Int32 → Int32 → Int32 → Int32 → Int32 → Int32 → Int32 → Int32 → Int32 → St → Option (Int32 × St)} {K143 : Int32 → Int32 → Int32 → Int32 → Int32 → Int32 → Int32 → Int32 → Int32 → Int32 → Int32 → Int32 → St → Option (Int32 × St)} (hK132 : ∀ (x1 x2 x3 x4 x5 x6 x7 x8 x9 x10 x11 : Int32) (st : St), K132 x1 x2 x3 x4 x5 x6 x7 x8 x9 x10 x11 st = some out → j_i p l e (rm_Be_layFrom (dd + 1)) s m args below meth c sz D (WC ad cI) (LC ad) out 14 (WC ad cI st) [(0, .ref (ad 3)), (1, .int x1), (2, .int x2), (3, .int x3), (4, .int x4), (5, .int x5), (6, .int x6), (7, .int x7), (8, .int x8), (9, .int x9), (10, .int x10), (11, .int x11)] 132 []) (hK143 : ∀ (x1 x2 x3 x4 x5 x6 x7 x8 x9 x10 x11 x12 : Int32) (st : St), K143 x1 x2 x3 x4 x5 x6 x7 x8 x9 x10 x11 x12 st = some out → j_i p l e (rm_Be_layFrom (dd + 1)) s m args below meth c sz D (WC ad cI) (LC ad) out 14 (WC ad cI st) [(0, .ref (ad 3)), (1, .int x1), (2, .int x2), (3, .int x3), (4, .int x4), (5, .int x5), (6, .int x6), (7, .int x7), (8, .int x8), (9, .int x9), (10, .int x10), (11, .int x11), (12, .int x12)] 143 []) (x1 x2 x3 x4 x5 x6 x7 x8 x9 x10 x11 x12 : Int32) (st : St) (hf : f_Be_layFrom_240 REC K132 K143 x1 x2 x3 x4 x5 x6 x7 x8 x9 x10 x11 x12 st = some out) : j_i p l e (rm_Be_layFrom (dd + 1)) s m args below meth c sz D (WC ad cI) (LC ad) out 14 (WC ad cI st) [(0, .ref (ad 3)), (1, .int x1), (2, .int x2), (3, .int x3), (4, .int x4), (5, .int x5), (6, .int x6), (7, .int x7), (8, .int x8), (9, .int x9), (10, .int x10), (11, .int x11), (12, .int x12)] 240 [] := by
  unfold f_Be_layFrom_240 at hf
  refine xj_iinc (v := x12 + 1) (j := 12) C d_Be_layFrom_240 rfl rfl (by decide) rfl ?_
  refine xj_goto (tgt := 143) C d_Be_layFrom_243 (by decide) ?_
  exact xj_lv [1, 2, 3, 4, 5, 6, 7, 8, 9, 10, 11, 12, 0] rfl (hK143 x1 x2 x3 x4 x5 x6 x7 x8 x9 x10 x11 (x12 + 1) st hf)
set_option maxHeartbeats 4000000 in
set_option maxRecDepth 20000 in
theorem wb_Be_layFrom_143 {p : Program} {l : Launch} {e : Env} {s : State} {m : MethodId} {args : Array Value} {below : List Frame} {meth : Method} {c : Code} {sz : Nat} {D : va_G} {ad : Nat → Nat} {cI : ClassId} {out : Int32 × St} {dd : Nat} (N : (LC ad).Nodup) (C : xC p s m args meth c (xA (LC ad) sz) D 14 (tyC cI) b_Be_layFrom R_Be) (hr : meth.sig.returnType = (some .boolean)) {REC : Int32 → Int32 → Int32 → Int32 → St → Option (Int32 × St)} (hREC : ∀ (x1 x2 x3 x4 : Int32) (st : St) (o : Int32 × St), REC x1 x2 x3 x4 st = some o → xMi l y_Be_layFrom b_Be_layFrom 14 (some .boolean) (rm_Be_layFrom dd) D (tyC cI) (WC ad cI) (LC ad) [.ref (ad 3), .int x1, .int x2, .int x3, .int x4] st o) {K132 : Int32 → Int32 → Int32 → Int32 → Int32 → Int32 → Int32 → Int32 → Int32 → Int32 → Int32 → St → Option (Int32 × St)} (hK132 : ∀ (x1 x2 x3 x4 x5 x6 x7 x8 x9 x10 x11 : Int32) (st : St), K132 x1 x2 x3 x4 x5 x6 x7 x8 x9 x10 x11 st = some out → j_i p l e (rm_Be_layFrom (dd + 1)) s m args below meth c sz D (WC ad cI) (LC ad) out 14 (WC ad cI st) [(0, .ref (ad 3)), (1, .int x1), (2, .int x2), (3, .int x3), (4, .int x4), (5, .int x5), (6, .int x6), (7, .int x7), (8, .int x8), (9, .int x9), (10, .int x10), (11, .int x11)] 132 []) {K143 : Int32 → Int32 → Int32 → Int32 → Int32 → Int32 → Int32 → Int32 → Int32 → Int32 → Int32 → Int32 → St → Option (Int32 × St)} (hK143 : ∀ (x1 x2 x3 x4 x5 x6 x7 x8 x9 x10 x11 x12 : Int32) (st : St), K143 x1 x2 x3 x4 x5 x6 x7 x8 x9 x10 x11 x12 st = some out → j_i p l e (rm_Be_layFrom (dd + 1)) s m args below meth c sz D (WC ad cI) (LC ad) out 14 (WC ad cI st) [(0, .ref (ad 3)), (1, .int x1), (2, .int x2), (3, .int x3), (4, .int x4), (5, .int x5), (6, .int x6), (7, .int x7), (8, .int x8), (9, .int x9), (10, .int x10), (11, .int x11), (12, .int x12)] 143 []) (x1 x2 x3 x4 x5 x6 x7 x8 x9 x10 x11 x12 : Int32) (st : St) (hf : b_Be_layFrom_143 REC K132 K143 x1 x2 x3 x4 x5 x6 x7 x8 x9 x10 x11 x12 st = some out) : j_i p l e (rm_Be_layFrom (dd + 1)) s m args below meth c sz D (WC ad cI) (LC ad) out 14 (WC ad cI st) [(0, .ref (ad 3)), (1, .int x1), (2, .int x2), (3, .int x3), (4, .int x4), (5, .int x5), (6, .int x6), (7, .int x7), (8, .int x8), (9, .int x9), (10, .int x10), (11, .int x11), (12, .int x12)] 143 [] := by
  unfold b_Be_layFrom_143 at hf
  refine xj_iload C d_Be_layFrom_143 12 rfl ?_
  refine xj_iload C d_Be_layFrom_145 8 rfl ?_
  refine xj_icmp_gt (tgt := 246) C d_Be_layFrom_147 (by decide) (fun h9 => ?_) (fun h9 => ?_)
  · have hf := xi_pos h9 hf
    refine xj_iinc (v := x11 + 1) (j := 11) C d_Be_layFrom_246 rfl rfl (by decide) rfl ?_
    refine xj_goto (tgt := 132) C d_Be_layFrom_249 (by decide) ?_
    exact xj_lv [1, 2, 3, 4, 5, 6, 7, 8, 9, 10, 11, 0] rfl (hK132 x1 x2 x3 x4 x5 x6 x7 x8 x9 x10 (x11 + 1) st hf)
  · have hf := xi_neg h9 hf
    refine xj_iload C d_Be_layFrom_150 10 rfl ?_
    refine xj_iconst (v := 3) C d_Be_layFrom_152 rfl ?_
    refine xj_iload C d_Be_layFrom_153 11 rfl ?_
    refine xj_imul C d_Be_layFrom_155 ?_
    refine xj_iload C d_Be_layFrom_156 12 rfl ?_
    refine xj_iadd C d_Be_layFrom_158 ?_
    refine xj_ishl C d_Be_layFrom_159 ?_
    refine xj_iload C d_Be_layFrom_160 4 rfl ?_
    refine xj_iand C d_Be_layFrom_162 ?_
    refine xj_if_ne (tgt := 240) C d_Be_layFrom_163 (by decide) (fun h9 => ?_) (fun h9 => ?_)
    · have hf := xi_neg h9 hf
      exact xj_lv [0, 1, 2, 3, 4, 5, 6, 7, 8, 9, 10, 11, 12] rfl (w_Be_layFrom_240 N C hr hREC hK132 hK143 x1 x2 x3 x4 x5 x6 x7 x8 x9 x10 x11 x12 st hf)
    · have hf := xi_pos h9 hf
      refine xj_aload_n C d_Be_layFrom_166 rfl 0 rfl ?_
      refine xj_get C g_Be_9 3 rfl rfl d_Be_layFrom_167 ?_
      refine xj_iload_n C d_Be_layFrom_170 rfl 1 rfl ?_
      refine xj_iload C d_Be_layFrom_171 11 rfl ?_
      obtain ⟨g11, hf⟩ := xb_guard hf
      refine xj_iast (ws' := WC ad cI (sA st 11 x1.toNatClampNeg x11)) C (WC_D N sz _) 19 0 rfl rfl g11 d_Be_layFrom_173 rfl ?_
      refine xj_aload_n C d_Be_layFrom_174 rfl 0 rfl ?_
      refine xj_get C g_Be_15 3 rfl rfl d_Be_layFrom_175 ?_
      refine xj_iload_n C d_Be_layFrom_178 rfl 1 rfl ?_
      refine xj_iload C d_Be_layFrom_179 12 rfl ?_
      obtain ⟨g12, hf⟩ := xb_guard hf
      refine xj_iast (ws' := WC ad cI (sA (sA st 11 x1.toNatClampNeg x11) 12 x1.toNatClampNeg x12)) C (WC_D N sz _) 20 0 rfl rfl g12 d_Be_layFrom_181 rfl ?_
      refine xj_iload C d_Be_layFrom_182 11 rfl ?_
      refine xj_aload_n C d_Be_layFrom_184 rfl 0 rfl ?_
      refine xj_get C g_Be_29 3 rfl rfl d_Be_layFrom_185 ?_
      refine xj_isub C d_Be_layFrom_188 ?_
      refine xj_iload C d_Be_layFrom_189 11 rfl ?_
      refine xj_iload C d_Be_layFrom_191 5 rfl ?_
      refine xj_iadd C d_Be_layFrom_193 ?_
      refine xj_aload_n C d_Be_layFrom_194 rfl 0 rfl ?_
      refine xj_get C g_Be_29 3 rfl rfl d_Be_layFrom_195 ?_
      refine xj_iadd C d_Be_layFrom_198 ?_
      refine xj_iload C d_Be_layFrom_199 12 rfl ?_
      refine xj_aload_n C d_Be_layFrom_201 rfl 0 rfl ?_
      refine xj_get C g_Be_29 3 rfl rfl d_Be_layFrom_202 ?_
      refine xj_isub C d_Be_layFrom_205 ?_
      refine xj_iload C d_Be_layFrom_206 12 rfl ?_
      refine xj_iload C d_Be_layFrom_208 6 rfl ?_
      refine xj_iadd C d_Be_layFrom_210 ?_
      refine xj_aload_n C d_Be_layFrom_211 rfl 0 rfl ?_
      refine xj_get C g_Be_29 3 rfl rfl d_Be_layFrom_212 ?_
      refine xj_iadd C d_Be_layFrom_215 ?_
      obtain ⟨o13, ho13, hf⟩ := xb_some hf
      refine xj_callSi (rest := []) C (c_Be_cells N ho13) Y_Be_cells i_Be_57 (by simp only [rm_Be_layFrom, rm_Be_cells]; omega) ⟨rfl, rfl⟩ rfl rfl (Nat.le_of_ble_eq_true rfl) d_Be_layFrom_216 (fun q h => Or.inl h) ?_
      refine xj_istore C d_Be_layFrom_219 (by decide) rfl ?_
      refine xj_aload_n C d_Be_layFrom_221 rfl 1 rfl ?_
      refine xj_iload_n C d_Be_layFrom_222 rfl 2 rfl ?_
      refine xj_iconst (v := 1) C d_Be_layFrom_223 rfl ?_
      refine xj_iadd C d_Be_layFrom_224 ?_
      refine xj_iload_n C d_Be_layFrom_225 rfl 3 rfl ?_
      refine xj_iload_n C d_Be_layFrom_226 rfl 4 rfl ?_
      refine xj_iload C d_Be_layFrom_227 5 rfl ?_
      refine xj_iload C d_Be_layFrom_229 0 rfl ?_
      refine xj_ior C d_Be_layFrom_231 ?_
      obtain ⟨o14, ho14, hf⟩ := xb_some hf
      refine xj_callVi (rest := []) C (hREC (x1 + 1) x2 x3 (x4 ||| o13.1) o13.2 o14 ho14) Y_Be_layFrom i_Be_33 3 rfl rfl (xroom_rec_Be_layFrom dd) ⟨rfl, rfl⟩ rfl rfl (Nat.le_of_ble_eq_true rfl) d_Be_layFrom_232 (fun q h => Or.inl h) ?_
      refine xj_if_eq (tgt := 240) C d_Be_layFrom_235 (by decide) (fun h9 => ?_) (fun h9 => ?_)
      · have hf := xi_pos h9 hf
        exact xj_lv [1, 2, 3, 4, 5, 6, 7, 8, 9, 10, 11, 12, 13] rfl (w_Be_layFrom_240 N C hr hREC hK132 hK143 x1 x2 x3 x4 x5 x6 x7 x8 x9 x10 x11 x12 o14.2 hf)
      · have hf := xi_neg h9 hf
        refine xj_iconst (v := 1) C d_Be_layFrom_238 rfl ?_
        exact xj_zret C hr rfl hf d_Be_layFrom_239
set_option maxHeartbeats 4000000 in
set_option maxRecDepth 20000 in
theorem w_Be_layFrom_143 {p : Program} {l : Launch} {e : Env} {s : State} {m : MethodId} {args : Array Value} {below : List Frame} {meth : Method} {c : Code} {sz : Nat} {D : va_G} {ad : Nat → Nat} {cI : ClassId} {out : Int32 × St} {dd : Nat} (N : (LC ad).Nodup) (C : xC p s m args meth c (xA (LC ad) sz) D 14 (tyC cI) b_Be_layFrom R_Be) (hr : meth.sig.returnType = (some .boolean)) {REC : Int32 → Int32 → Int32 → Int32 → St → Option (Int32 × St)} (hREC : ∀ (x1 x2 x3 x4 : Int32) (st : St) (o : Int32 × St), REC x1 x2 x3 x4 st = some o → xMi l y_Be_layFrom b_Be_layFrom 14 (some .boolean) (rm_Be_layFrom dd) D (tyC cI) (WC ad cI) (LC ad) [.ref (ad 3), .int x1, .int x2, .int x3, .int x4] st o) {K132 : Int32 → Int32 → Int32 → Int32 → Int32 → Int32 → Int32 → Int32 → Int32 → Int32 → Int32 → St → Option (Int32 × St)} (hK132 : ∀ (x1 x2 x3 x4 x5 x6 x7 x8 x9 x10 x11 : Int32) (st : St), K132 x1 x2 x3 x4 x5 x6 x7 x8 x9 x10 x11 st = some out → j_i p l e (rm_Be_layFrom (dd + 1)) s m args below meth c sz D (WC ad cI) (LC ad) out 14 (WC ad cI st) [(0, .ref (ad 3)), (1, .int x1), (2, .int x2), (3, .int x3), (4, .int x4), (5, .int x5), (6, .int x6), (7, .int x7), (8, .int x8), (9, .int x9), (10, .int x10), (11, .int x11)] 132 []) (n : Nat) : ∀ (x1 x2 x3 x4 x5 x6 x7 x8 x9 x10 x11 x12 : Int32) (st : St), f_Be_layFrom_143 REC K132 n x1 x2 x3 x4 x5 x6 x7 x8 x9 x10 x11 x12 st = some out → j_i p l e (rm_Be_layFrom (dd + 1)) s m args below meth c sz D (WC ad cI) (LC ad) out 14 (WC ad cI st) [(0, .ref (ad 3)), (1, .int x1), (2, .int x2), (3, .int x3), (4, .int x4), (5, .int x5), (6, .int x6), (7, .int x7), (8, .int x8), (9, .int x9), (10, .int x10), (11, .int x11), (12, .int x12)] 143 [] := by
  induction n with
  | zero => intro x1 x2 x3 x4 x5 x6 x7 x8 x9 x10 x11 x12 st hf; exact absurd (show (none : Option (Int32 × St)) = some out from hf) (fun h => by cases h)
  | succ n ih => intro x1 x2 x3 x4 x5 x6 x7 x8 x9 x10 x11 x12 st hf; exact wb_Be_layFrom_143 N C hr hREC hK132 ih x1 x2 x3 x4 x5 x6 x7 x8 x9 x10 x11 x12 st hf
set_option maxHeartbeats 4000000 in
set_option maxRecDepth 20000 in
theorem wb_Be_layFrom_132 {p : Program} {l : Launch} {e : Env} {s : State} {m : MethodId} {args : Array Value} {below : List Frame} {meth : Method} {c : Code} {sz : Nat} {D : va_G} {ad : Nat → Nat} {cI : ClassId} {out : Int32 × St} {dd : Nat} (N : (LC ad).Nodup) (C : xC p s m args meth c (xA (LC ad) sz) D 14 (tyC cI) b_Be_layFrom R_Be) (hr : meth.sig.returnType = (some .boolean)) {REC : Int32 → Int32 → Int32 → Int32 → St → Option (Int32 × St)} (hREC : ∀ (x1 x2 x3 x4 : Int32) (st : St) (o : Int32 × St), REC x1 x2 x3 x4 st = some o → xMi l y_Be_layFrom b_Be_layFrom 14 (some .boolean) (rm_Be_layFrom dd) D (tyC cI) (WC ad cI) (LC ad) [.ref (ad 3), .int x1, .int x2, .int x3, .int x4] st o) {K132 : Int32 → Int32 → Int32 → Int32 → Int32 → Int32 → Int32 → Int32 → Int32 → Int32 → Int32 → St → Option (Int32 × St)} (hK132 : ∀ (x1 x2 x3 x4 x5 x6 x7 x8 x9 x10 x11 : Int32) (st : St), K132 x1 x2 x3 x4 x5 x6 x7 x8 x9 x10 x11 st = some out → j_i p l e (rm_Be_layFrom (dd + 1)) s m args below meth c sz D (WC ad cI) (LC ad) out 14 (WC ad cI st) [(0, .ref (ad 3)), (1, .int x1), (2, .int x2), (3, .int x3), (4, .int x4), (5, .int x5), (6, .int x6), (7, .int x7), (8, .int x8), (9, .int x9), (10, .int x10), (11, .int x11)] 132 []) (x1 x2 x3 x4 x5 x6 x7 x8 x9 x10 x11 : Int32) (st : St) (hf : b_Be_layFrom_132 REC K132 x1 x2 x3 x4 x5 x6 x7 x8 x9 x10 x11 st = some out) : j_i p l e (rm_Be_layFrom (dd + 1)) s m args below meth c sz D (WC ad cI) (LC ad) out 14 (WC ad cI st) [(0, .ref (ad 3)), (1, .int x1), (2, .int x2), (3, .int x3), (4, .int x4), (5, .int x5), (6, .int x6), (7, .int x7), (8, .int x8), (9, .int x9), (10, .int x10), (11, .int x11)] 132 [] := by
  unfold b_Be_layFrom_132 at hf
  refine xj_iload C d_Be_layFrom_132 11 rfl ?_
  refine xj_iload C d_Be_layFrom_134 7 rfl ?_
  refine xj_icmp_gt (tgt := 252) C d_Be_layFrom_136 (by decide) (fun h9 => ?_) (fun h9 => ?_)
  · have hf := xi_pos h9 hf
    refine xj_iconst (v := 0) C d_Be_layFrom_252 rfl ?_
    exact xj_zret C hr rfl hf d_Be_layFrom_253
  · have hf := xi_neg h9 hf
    refine xj_iload C d_Be_layFrom_139 9 rfl ?_
    refine xj_istore C d_Be_layFrom_141 (by decide) rfl ?_
    exact xj_lv [1, 2, 3, 4, 5, 6, 7, 8, 9, 10, 11, 12, 0] rfl (w_Be_layFrom_143 N C hr hREC hK132 40 x1 x2 x3 x4 x5 x6 x7 x8 x9 x10 x11 x9 st hf)
set_option maxHeartbeats 4000000 in
set_option maxRecDepth 20000 in
theorem w_Be_layFrom_132 {p : Program} {l : Launch} {e : Env} {s : State} {m : MethodId} {args : Array Value} {below : List Frame} {meth : Method} {c : Code} {sz : Nat} {D : va_G} {ad : Nat → Nat} {cI : ClassId} {out : Int32 × St} {dd : Nat} (N : (LC ad).Nodup) (C : xC p s m args meth c (xA (LC ad) sz) D 14 (tyC cI) b_Be_layFrom R_Be) (hr : meth.sig.returnType = (some .boolean)) {REC : Int32 → Int32 → Int32 → Int32 → St → Option (Int32 × St)} (hREC : ∀ (x1 x2 x3 x4 : Int32) (st : St) (o : Int32 × St), REC x1 x2 x3 x4 st = some o → xMi l y_Be_layFrom b_Be_layFrom 14 (some .boolean) (rm_Be_layFrom dd) D (tyC cI) (WC ad cI) (LC ad) [.ref (ad 3), .int x1, .int x2, .int x3, .int x4] st o) (n : Nat) : ∀ (x1 x2 x3 x4 x5 x6 x7 x8 x9 x10 x11 : Int32) (st : St), f_Be_layFrom_132 REC n x1 x2 x3 x4 x5 x6 x7 x8 x9 x10 x11 st = some out → j_i p l e (rm_Be_layFrom (dd + 1)) s m args below meth c sz D (WC ad cI) (LC ad) out 14 (WC ad cI st) [(0, .ref (ad 3)), (1, .int x1), (2, .int x2), (3, .int x3), (4, .int x4), (5, .int x5), (6, .int x6), (7, .int x7), (8, .int x8), (9, .int x9), (10, .int x10), (11, .int x11)] 132 [] := by
  induction n with
  | zero => intro x1 x2 x3 x4 x5 x6 x7 x8 x9 x10 x11 st hf; exact absurd (show (none : Option (Int32 × St)) = some out from hf) (fun h => by cases h)
  | succ n ih => intro x1 x2 x3 x4 x5 x6 x7 x8 x9 x10 x11 st hf; exact wb_Be_layFrom_132 N C hr hREC ih x1 x2 x3 x4 x5 x6 x7 x8 x9 x10 x11 st hf
set_option maxHeartbeats 4000000 in
set_option maxRecDepth 20000 in
theorem w_Be_layFrom_118 {p : Program} {l : Launch} {e : Env} {s : State} {m : MethodId} {args : Array Value} {below : List Frame} {meth : Method} {c : Code} {sz : Nat} {D : va_G} {ad : Nat → Nat} {cI : ClassId} {out : Int32 × St} {dd : Nat} (N : (LC ad).Nodup) (C : xC p s m args meth c (xA (LC ad) sz) D 14 (tyC cI) b_Be_layFrom R_Be) (hr : meth.sig.returnType = (some .boolean)) {REC : Int32 → Int32 → Int32 → Int32 → St → Option (Int32 × St)} (hREC : ∀ (x1 x2 x3 x4 : Int32) (st : St) (o : Int32 × St), REC x1 x2 x3 x4 st = some o → xMi l y_Be_layFrom b_Be_layFrom 14 (some .boolean) (rm_Be_layFrom dd) D (tyC cI) (WC ad cI) (LC ad) [.ref (ad 3), .int x1, .int x2, .int x3, .int x4] st o) (x1 x2 x3 x4 x5 x6 x7 x8 x9 : Int32) (st : St) (hf : f_Be_layFrom_118 REC x1 x2 x3 x4 x5 x6 x7 x8 x9 st = some out) : j_i p l e (rm_Be_layFrom (dd + 1)) s m args below meth c sz D (WC ad cI) (LC ad) out 14 (WC ad cI st) [(0, .ref (ad 3)), (1, .int x1), (2, .int x2), (3, .int x3), (4, .int x4), (5, .int x5), (6, .int x6), (7, .int x7), (8, .int x8), (9, .int x9)] 118 [] := by
  unfold f_Be_layFrom_118 at hf
  refine xj_iconst (v := 0) C d_Be_layFrom_118 rfl ?_
  refine xj_iload C d_Be_layFrom_119 5 rfl ?_
  refine xj_iconst (v := 0) C d_Be_layFrom_121 rfl ?_
  refine xj_iload C d_Be_layFrom_122 6 rfl ?_
  obtain ⟨o10, ho10, hf⟩ := xb_some hf
  refine xj_callSi (rest := []) C (c_Be_cells N ho10) Y_Be_cells i_Be_57 (by simp only [rm_Be_layFrom, rm_Be_cells]; omega) ⟨rfl, rfl⟩ rfl rfl (Nat.le_of_ble_eq_true rfl) d_Be_layFrom_124 (fun q h => Or.inl h) ?_
  refine xj_istore C d_Be_layFrom_127 (by decide) rfl ?_
  refine xj_iconst (v := 0) C d_Be_layFrom_129 rfl ?_
  refine xj_istore C d_Be_layFrom_130 (by decide) rfl ?_
  exact xj_lv [2, 3, 4, 5, 6, 7, 8, 9, 10, 11, 1, 0] rfl (w_Be_layFrom_132 N C hr hREC 40 x1 x2 x3 x4 x5 x6 x7 x8 x9 o10.1 0 o10.2 hf)
set_option maxHeartbeats 4000000 in
set_option maxRecDepth 20000 in
theorem w_Be_layFrom_102 {p : Program} {l : Launch} {e : Env} {s : State} {m : MethodId} {args : Array Value} {below : List Frame} {meth : Method} {c : Code} {sz : Nat} {D : va_G} {ad : Nat → Nat} {cI : ClassId} {out : Int32 × St} {dd : Nat} (N : (LC ad).Nodup) (C : xC p s m args meth c (xA (LC ad) sz) D 14 (tyC cI) b_Be_layFrom R_Be) (hr : meth.sig.returnType = (some .boolean)) {REC : Int32 → Int32 → Int32 → Int32 → St → Option (Int32 × St)} (hREC : ∀ (x1 x2 x3 x4 : Int32) (st : St) (o : Int32 × St), REC x1 x2 x3 x4 st = some o → xMi l y_Be_layFrom b_Be_layFrom 14 (some .boolean) (rm_Be_layFrom dd) D (tyC cI) (WC ad cI) (LC ad) [.ref (ad 3), .int x1, .int x2, .int x3, .int x4] st o) (x1 x2 x3 x4 x5 x6 x7 x8 y0 : Int32) (st : St) (hf : f_Be_layFrom_102 REC x1 x2 x3 x4 x5 x6 x7 x8 y0 st = some out) : j_i p l e (rm_Be_layFrom (dd + 1)) s m args below meth c sz D (WC ad cI) (LC ad) out 14 (WC ad cI st) [(0, .ref (ad 3)), (1, .int x1), (2, .int x2), (3, .int x3), (4, .int x4), (5, .int x5), (6, .int x6), (7, .int x7), (8, .int x8)] 102 [.int y0] := by
  unfold f_Be_layFrom_102 at hf
  refine xj_istore C d_Be_layFrom_102 (by decide) rfl ?_
  refine xj_aload_n C d_Be_layFrom_104 rfl 1 rfl ?_
  refine xj_get C g_Be_25 3 rfl rfl d_Be_layFrom_105 ?_
  refine xj_iload_n C d_Be_layFrom_108 rfl 2 rfl ?_
  obtain ⟨o9, ho9, hf⟩ := xb_some hf
  refine xj_callVi (rest := []) C (c_Fl_side N ho9) Y_Fl_side i_Be_54 2 rfl rfl (by simp only [rm_Be_layFrom, rm_Fl_side]; omega) ⟨rfl, rfl⟩ rfl rfl (Nat.le_of_ble_eq_true rfl) d_Be_layFrom_109 (fun q h => Or.inl h) ?_
  refine xj_if_ne (tgt := 118) C d_Be_layFrom_112 (by decide) (fun h9 => ?_) (fun h9 => ?_)
  · have hf := xi_neg h9 hf
    exact xj_lv [1, 2, 3, 4, 5, 6, 7, 8, 9, 0] rfl (w_Be_layFrom_118 N C hr hREC x1 x2 x3 x4 x5 x6 x7 x8 y0 o9.2 hf)
  · have hf := xi_pos h9 hf
    refine xj_iconst (v := 0) C d_Be_layFrom_115 rfl ?_
    refine xj_istore C d_Be_layFrom_116 (by decide) rfl ?_
    exact xj_lv [2, 3, 4, 5, 6, 7, 8, 9, 0, 1] rfl (w_Be_layFrom_118 N C hr hREC x1 x2 x3 x4 x5 x6 x7 0 y0 o9.2 hf)
set_option maxHeartbeats 4000000 in
set_option maxRecDepth 20000 in
theorem we_Be_layFrom {p : Program} {l : Launch} {e : Env} {s : State} {m : MethodId} {args : Array Value} {below : List Frame} {meth : Method} {c : Code} {sz : Nat} {D : va_G} {ad : Nat → Nat} {cI : ClassId} {out : Int32 × St} {dd : Nat} (N : (LC ad).Nodup) (C : xC p s m args meth c (xA (LC ad) sz) D 14 (tyC cI) b_Be_layFrom R_Be) (hr : meth.sig.returnType = (some .boolean)) {REC : Int32 → Int32 → Int32 → Int32 → St → Option (Int32 × St)} (hREC : ∀ (x1 x2 x3 x4 : Int32) (st : St) (o : Int32 × St), REC x1 x2 x3 x4 st = some o → xMi l y_Be_layFrom b_Be_layFrom 14 (some .boolean) (rm_Be_layFrom dd) D (tyC cI) (WC ad cI) (LC ad) [.ref (ad 3), .int x1, .int x2, .int x3, .int x4] st o) (x1 x2 x3 x4 : Int32) (st : St) (hf : fb_Be_layFrom REC x1 x2 x3 x4 st = some out) : j_i p l e (rm_Be_layFrom (dd + 1)) s m args below meth c sz D (WC ad cI) (LC ad) out 14 (WC ad cI st) [(0, .ref (ad 3)), (1, .int x1), (2, .int x2), (3, .int x3), (4, .int x4)] 0 [] := by
  unfold fb_Be_layFrom at hf
  refine xj_iload_n C d_Be_layFrom_0 rfl 1 rfl ?_
  refine xj_if_lt (tgt := 9) C d_Be_layFrom_1 (by decide) (fun h9 => ?_) (fun h9 => ?_)
  · have hf := xi_pos h9 hf
    refine xj_iconst (v := 1) C d_Be_layFrom_9 rfl ?_
    exact xj_zret C hr rfl hf d_Be_layFrom_10
  · have hf := xi_neg h9 hf
    refine xj_iload_n C d_Be_layFrom_4 rfl 1 rfl ?_
    refine xj_iconst (v := 4) C d_Be_layFrom_5 rfl ?_
    refine xj_icmp_lt (tgt := 11) C d_Be_layFrom_6 (by decide) (fun h9 => ?_) (fun h9 => ?_)
    · have hf := xi_pos h9 hf
      refine xj_iload_n C d_Be_layFrom_11 rfl 3 rfl ?_
      refine xj_iload_n C d_Be_layFrom_12 rfl 1 rfl ?_
      obtain ⟨o1, ho1, hf⟩ := xb_some hf
      refine xj_callSNi (rest := []) C (c_LR_holds N ho1) Y_LR_holds i_Be_37 (by simp only [rm_Be_layFrom, rm_LR_holds]; omega) ⟨rfl, rfl⟩ rfl rfl (Nat.le_of_ble_eq_true rfl) d_Be_layFrom_13 (fun q h => Or.inl h) ?_
      refine xj_if_ne (tgt := 31) C d_Be_layFrom_16 (by decide) (fun h9 => ?_) (fun h9 => ?_)
      · have hf := xi_neg h9 hf
        refine xj_aload_n C d_Be_layFrom_31 rfl 0 rfl ?_
        refine xj_get C g_Be_25 3 rfl rfl d_Be_layFrom_32 ?_
        refine xj_iload_n C d_Be_layFrom_35 rfl 1 rfl ?_
        obtain ⟨o2, ho2, hf⟩ := xb_some hf
        refine xj_callVi (rest := []) C (c_Fl_length N ho2) Y_Fl_length i_Be_41 2 rfl rfl (by simp only [rm_Be_layFrom, rm_Fl_length]; omega) ⟨rfl, rfl⟩ rfl rfl (Nat.le_of_ble_eq_true rfl) d_Be_layFrom_36 (fun q h => Or.inl h) ?_
        refine xj_istore C d_Be_layFrom_39 (by decide) rfl ?_
        refine xj_aload_n C d_Be_layFrom_41 rfl 1 rfl ?_
        refine xj_get C g_Be_25 3 rfl rfl d_Be_layFrom_42 ?_
        refine xj_iload_n C d_Be_layFrom_45 rfl 2 rfl ?_
        obtain ⟨o3, ho3, hf⟩ := xb_some hf
        refine xj_callVi (rest := []) C (c_Fl_width N ho3) Y_Fl_width i_Be_47 2 rfl rfl (by simp only [rm_Be_layFrom, rm_Fl_width]; omega) ⟨rfl, rfl⟩ rfl rfl (Nat.le_of_ble_eq_true rfl) d_Be_layFrom_46 (fun q h => Or.inl h) ?_
        refine xj_istore C d_Be_layFrom_49 (by decide) rfl ?_
        refine xj_aload_n C d_Be_layFrom_51 rfl 2 rfl ?_
        refine xj_get C g_Be_21 3 rfl rfl d_Be_layFrom_52 ?_
        refine xj_iload_n C d_Be_layFrom_55 rfl 4 rfl ?_
        obtain ⟨o4, ho4, hf⟩ := xb_some hf
        refine xj_callVi (rest := []) C (c_Ch_length N ho4) Y_Ch_length i_Be_50 1 rfl rfl (by simp only [rm_Be_layFrom, rm_Ch_length]; omega) ⟨rfl, rfl⟩ rfl rfl (Nat.le_of_ble_eq_true rfl) d_Be_layFrom_56 (fun q h => Or.inl h) ?_
        refine xj_iload C d_Be_layFrom_59 1 rfl ?_
        refine xj_isub C d_Be_layFrom_61 ?_
        refine xj_topi (fun v5 ev5 => ?_)
        have hf := xlet_at ev5 hf
        refine xj_istore C d_Be_layFrom_62 (by decide) rfl ?_
        refine xj_aload_n C d_Be_layFrom_64 rfl 3 rfl ?_
        refine xj_get C g_Be_21 3 rfl rfl d_Be_layFrom_65 ?_
        refine xj_iload_n C d_Be_layFrom_68 rfl 5 rfl ?_
        obtain ⟨o6, ho6, hf⟩ := xb_some hf
        refine xj_callVi (rest := []) C (c_Ch_width N ho6) Y_Ch_width i_Be_53 1 rfl rfl (by simp only [rm_Be_layFrom, rm_Ch_width]; omega) ⟨rfl, rfl⟩ rfl rfl (Nat.le_of_ble_eq_true rfl) d_Be_layFrom_69 (fun q h => Or.inl h) ?_
        refine xj_iload C d_Be_layFrom_72 1 rfl ?_
        refine xj_isub C d_Be_layFrom_74 ?_
        refine xj_topi (fun v7 ev7 => ?_)
        have hf := xlet_at ev7 hf
        refine xj_istore C d_Be_layFrom_75 (by decide) rfl ?_
        refine xj_iload C d_Be_layFrom_77 0 rfl ?_
        refine xj_if_ge (tgt := 84) C d_Be_layFrom_79 (by decide) (fun h9 => ?_) (fun h9 => ?_)
        · have hf := xi_pos h9 hf
          refine xj_aload_n C d_Be_layFrom_84 rfl 4 rfl ?_
          refine xj_get C g_Be_25 3 rfl rfl d_Be_layFrom_85 ?_
          refine xj_iload_n C d_Be_layFrom_88 rfl 5 rfl ?_
          obtain ⟨o8, ho8, hf⟩ := xb_some hf
          refine xj_callVi (rest := []) C (c_Fl_side N ho8) Y_Fl_side i_Be_54 2 rfl rfl (by simp only [rm_Be_layFrom, rm_Fl_side]; omega) ⟨rfl, rfl⟩ rfl rfl (Nat.le_of_ble_eq_true rfl) d_Be_layFrom_89 (fun q h => Or.inl h) ?_
          refine xj_iconst (v := 1) C d_Be_layFrom_92 rfl ?_
          refine xj_icmp_ne (tgt := 101) C d_Be_layFrom_93 (by decide) (fun h9 => ?_) (fun h9 => ?_)
          · have hf := xi_neg h9 hf
            refine xj_iconst (v := 0) C d_Be_layFrom_101 rfl ?_
            exact xj_lv [4, 5, 6, 7, 8, 3, 2, 1, 0] rfl (w_Be_layFrom_102 N C hr hREC x1 x2 x3 x4 o2.1 o3.1 v5 v7 0 o8.2 hf)
          · have hf := xi_pos h9 hf
            refine xj_iload C d_Be_layFrom_96 0 rfl ?_
            refine xj_goto (tgt := 102) C d_Be_layFrom_98 (by decide) ?_
            exact xj_lv [4, 5, 6, 7, 8, 3, 2, 1, 0] rfl (w_Be_layFrom_102 N C hr hREC x1 x2 x3 x4 o2.1 o3.1 v5 v7 v7 o8.2 hf)
        · have hf := xi_neg h9 hf
          refine xj_iconst (v := 0) C d_Be_layFrom_82 rfl ?_
          exact xj_zret C hr rfl hf d_Be_layFrom_83
      · have hf := xi_pos h9 hf
        refine xj_aload_n C d_Be_layFrom_19 rfl 0 rfl ?_
        refine xj_iload_n C d_Be_layFrom_20 rfl 1 rfl ?_
        refine xj_iconst (v := 1) C d_Be_layFrom_21 rfl ?_
        refine xj_iadd C d_Be_layFrom_22 ?_
        refine xj_iload_n C d_Be_layFrom_23 rfl 2 rfl ?_
        refine xj_iload_n C d_Be_layFrom_24 rfl 3 rfl ?_
        refine xj_iload C d_Be_layFrom_25 4 rfl ?_
        obtain ⟨o15, ho15, hf⟩ := xb_some hf
        refine xj_callVi (rest := []) C (hREC (x1 + 1) x2 x3 x4 o1.2 o15 ho15) Y_Be_layFrom i_Be_33 3 rfl rfl (xroom_rec_Be_layFrom dd) ⟨rfl, rfl⟩ rfl rfl (Nat.le_of_ble_eq_true rfl) d_Be_layFrom_27 (fun q h => Or.inl h) ?_
        obtain ⟨g16, hf⟩ := xb_guard hf
        exact xj_zret C hr (xb_narrow g16) hf d_Be_layFrom_30
    · have hf := xi_neg h9 hf
      refine xj_iconst (v := 1) C d_Be_layFrom_9 rfl ?_
      exact xj_zret C hr rfl hf d_Be_layFrom_10
end
section
set_option maxHeartbeats 4000000 in
set_option maxRecDepth 20000 in
theorem c_Be_layFrom {l : Launch} {D : va_G} {ad : Nat → Nat} {cI : ClassId} (N : (LC ad).Nodup) (d : Nat) : ∀ {x1 x2 x3 x4 : Int32} {st : St} {out : Int32 × St}, f_Be_layFrom d x1 x2 x3 x4 st = some out → xMi l y_Be_layFrom b_Be_layFrom 14 (some .boolean) (rm_Be_layFrom d) D (tyC cI) (WC ad cI) (LC ad) [.ref (ad 3), .int x1, .int x2, .int x3, .int x4] st out := by
  induction d with
  | zero => intro x1 x2 x3 x4 st out hf; exact absurd (show (none : Option (Int32 × St)) = some out from hf) (fun h => by cases h)
  | succ dd ih =>
    intro x1 x2 x3 x4 st out hf
    have hREC : ∀ (x1 x2 x3 x4 : Int32) (st : St) (o : Int32 × St), f_Be_layFrom dd x1 x2 x3 x4 st = some o → xMi l y_Be_layFrom b_Be_layFrom 14 (some .boolean) (rm_Be_layFrom dd) D (tyC cI) (WC ad cI) (LC ad) [.ref (ad 3), .int x1, .int x2, .int x3, .int x4] st o := fun x1 x2 x3 x4 st o h => ih h
    exact fun sz => xM_of (L := LC ad) (by decide) (Nat.le_of_ble_eq_true rfl) (fun p e s m below meth c hsz hr C => we_Be_layFrom N C hr hREC x1 x2 x3 x4 st hf)
set_option maxHeartbeats 4000000 in
set_option maxRecDepth 20000 in
theorem w_Be_canLay_59 {p : Program} {l : Launch} {e : Env} {s : State} {m : MethodId} {args : Array Value} {below : List Frame} {meth : Method} {c : Code} {sz : Nat} {D : va_G} {ad : Nat → Nat} {cI : ClassId} {out : Int32 × St} (N : (LC ad).Nodup) (C : xC p s m args meth c (xA (LC ad) sz) D 4 (tyC cI) b_Be_canLay R_Be) (hr : meth.sig.returnType = (some .boolean)) (x3 y0 y1 : Int32) (st : St) (hf : f_Be_canLay_59 x3 y0 y1 st = some out) : j_i p l e rm_Be_canLay s m args below meth c sz D (WC ad cI) (LC ad) out 4 (WC ad cI st) [(0, .ref (ad 3)), (3, .int x3)] 59 [.int y0, .int y1, .ref (ad 21)] := by
  unfold f_Be_canLay_59 at hf
  obtain ⟨g5, hf⟩ := xb_guard hf
  refine xj_iast (ws' := WC ad cI (sA st 13 y1.toNatClampNeg y0)) C (WC_D N sz _) 21 0 rfl rfl g5 d_Be_canLay_59 rfl ?_
  exact xj_lv [0, 1] rfl (w_Be_canLay_60 N C hr x3 (sA st 13 y1.toNatClampNeg y0) hf)
set_option maxHeartbeats 4000000 in
set_option maxRecDepth 20000 in
theorem c_Be_canLay {l : Launch} {D : va_G} {ad : Nat → Nat} {cI : ClassId} (N : (LC ad).Nodup) {x1 x2 : Int32} {st : St} {out : Int32 × St} (hf : f_Be_canLay x1 x2 st = some out) : xMi l y_Be_canLay b_Be_canLay 4 (some .boolean) rm_Be_canLay D (tyC cI) (WC ad cI) (LC ad) [.ref (ad 3), .int x1, .int x2] st out := by
  intro sz
  refine xM_of (L := LC ad) (by decide) (Nat.le_of_ble_eq_true rfl) (fun p e s m below meth c hsz hr C => ?_)
  show j_i p l e rm_Be_canLay s m _ below meth c sz D (WC ad cI) (LC ad) out 4 (WC ad cI st) [(0, .ref (ad 3)), (1, .int x1), (2, .int x2)] 0 []
  unfold f_Be_canLay at hf
  refine xj_aload_n C d_Be_canLay_0 rfl 0 rfl ?_
  refine xj_get C g_Be_29 3 rfl rfl d_Be_canLay_1 ?_
  refine xj_iconst (v := 2) C d_Be_canLay_4 rfl ?_
  refine xj_imul C d_Be_canLay_5 ?_
  refine xj_iload_n C d_Be_canLay_6 rfl 1 rfl ?_
  refine xj_iadd C d_Be_canLay_7 ?_
  refine xj_bipush (v := 16) C d_Be_canLay_8 rfl ?_
  refine xj_imul C d_Be_canLay_10 ?_
  refine xj_iload_n C d_Be_canLay_11 rfl 2 rfl ?_
  refine xj_iadd C d_Be_canLay_12 ?_
  refine xj_topi (fun v1 ev1 => ?_)
  have hf := xlet_at ev1 hf
  refine xj_istore_n C d_Be_canLay_13 rfl (by decide) rfl ?_
  refine xj_iload_n C d_Be_canLay_14 rfl 0 rfl ?_
  refine xj_if_lt (tgt := 27) C d_Be_canLay_15 (by decide) (fun h9 => ?_) (fun h9 => ?_)
  · have hf := xi_pos h9 hf
    refine xj_iconst (v := 0) C d_Be_canLay_27 rfl ?_
    exact xj_zret C hr rfl hf d_Be_canLay_28
  · have hf := xi_neg h9 hf
    refine xj_iload_n C d_Be_canLay_18 rfl 0 rfl ?_
    refine xj_aload_n C d_Be_canLay_19 rfl 1 rfl ?_
    refine xj_get C g_Be_18 3 rfl rfl d_Be_canLay_20 ?_
    refine xj_alen (v := 128) C 21 0 rfl rfl rfl d_Be_canLay_23 ?_
    refine xj_icmp_lt (tgt := 29) C d_Be_canLay_24 (by decide) (fun h9 => ?_) (fun h9 => ?_)
    · have hf := xi_pos h9 hf
      refine xj_aload_n C d_Be_canLay_29 rfl 1 rfl ?_
      refine xj_get C g_Be_18 3 rfl rfl d_Be_canLay_30 ?_
      refine xj_iload_n C d_Be_canLay_33 rfl 0 rfl ?_
      obtain ⟨g2, hf⟩ := xb_guard hf
      refine xj_iald C 21 0 rfl rfl g2 d_Be_canLay_34 ?_
      refine xj_if_ne (tgt := 60) C d_Be_canLay_35 (by decide) (fun h9 => ?_) (fun h9 => ?_)
      · have hf := xi_neg h9 hf
        exact xj_lv [1, 0] rfl (w_Be_canLay_60 N C hr v1 st hf)
      · have hf := xi_pos h9 hf
        refine xj_aload_n C d_Be_canLay_38 rfl 1 rfl ?_
        refine xj_get C g_Be_18 3 rfl rfl d_Be_canLay_39 ?_
        refine xj_iload_n C d_Be_canLay_42 rfl 0 rfl ?_
        refine xj_aload_n C d_Be_canLay_43 rfl 1 rfl ?_
        refine xj_iconst (v := 0) C d_Be_canLay_44 rfl ?_
        refine xj_iload_n C d_Be_canLay_45 rfl 2 rfl ?_
        refine xj_iload_n C d_Be_canLay_46 rfl 3 rfl ?_
        refine xj_iconst (v := 0) C d_Be_canLay_47 rfl ?_
        obtain ⟨o4, ho4, hf⟩ := xb_some hf
        refine xj_callVi (rest := [.int v1, .ref (ad 21)]) C (c_Be_layFrom N 5 ho4) Y_Be_layFrom i_Be_33 3 rfl rfl (by decide) ⟨rfl, rfl⟩ rfl rfl (Nat.le_of_ble_eq_true rfl) d_Be_canLay_48 (fun q h => Or.inl h) ?_
        refine xj_if_eq (tgt := 58) C d_Be_canLay_51 (by decide) (fun h9 => ?_) (fun h9 => ?_)
        · have hf := xi_pos h9 hf
          refine xj_iconst (v := 2) C d_Be_canLay_58 rfl ?_
          exact xj_lv [1, 0] rfl (w_Be_canLay_59 N C hr v1 2 v1 o4.2 hf)
        · have hf := xi_neg h9 hf
          refine xj_iconst (v := 1) C d_Be_canLay_54 rfl ?_
          refine xj_goto (tgt := 59) C d_Be_canLay_55 (by decide) ?_
          exact xj_lv [1, 0] rfl (w_Be_canLay_59 N C hr v1 1 v1 o4.2 hf)
    · have hf := xi_neg h9 hf
      refine xj_iconst (v := 0) C d_Be_canLay_27 rfl ?_
      exact xj_zret C hr rfl hf d_Be_canLay_28
set_option maxHeartbeats 4000000 in
set_option maxRecDepth 20000 in
theorem c_Pl_canRun {l : Launch} {D : va_G} {ad : Nat → Nat} {cI : ClassId} (N : (LC ad).Nodup) {x1 x2 : Int32} {st : St} {out : Int32 × St} (hf : f_Pl_canRun x1 x2 st = some out) : xMi l y_Pl_canRun b_Pl_canRun 3 (some .boolean) rm_Pl_canRun D (tyC cI) (WC ad cI) (LC ad) [.ref (ad 4), .int x1, .int x2] st out := by
  intro sz
  refine xM_of (L := LC ad) (by decide) (Nat.le_of_ble_eq_true rfl) (fun p e s m below meth c hsz hr C => ?_)
  show j_i p l e rm_Pl_canRun s m _ below meth c sz D (WC ad cI) (LC ad) out 3 (WC ad cI st) [(0, .ref (ad 4)), (1, .int x1), (2, .int x2)] 0 []
  unfold f_Pl_canRun at hf
  refine xj_aload_n C d_Pl_canRun_0 rfl 0 rfl ?_
  refine xj_get C g_Pl_32 4 rfl rfl d_Pl_canRun_1 ?_
  refine xj_iload_n C d_Pl_canRun_4 rfl 2 rfl ?_
  obtain ⟨o1, ho1, hf⟩ := xb_some hf
  refine xj_callVi (rest := []) C (c_Fl_commonDirection N ho1) Y_Fl_commonDirection i_Pl_83 2 rfl rfl (by decide) ⟨rfl, rfl⟩ rfl rfl (Nat.le_of_ble_eq_true rfl) d_Pl_canRun_5 (fun q h => Or.inl h) ?_
  refine xj_iconst (v := (-1)) C d_Pl_canRun_8 rfl ?_
  refine xj_icmp_eq (tgt := 28) C d_Pl_canRun_9 (by decide) (fun h9 => ?_) (fun h9 => ?_)
  · have hf := xi_pos h9 hf
    refine xj_iconst (v := 0) C d_Pl_canRun_28 rfl ?_
    exact xj_zret C hr rfl hf d_Pl_canRun_29
  · have hf := xi_neg h9 hf
    refine xj_aload_n C d_Pl_canRun_12 rfl 0 rfl ?_
    refine xj_get C g_Pl_36 4 rfl rfl d_Pl_canRun_13 ?_
    refine xj_iload_n C d_Pl_canRun_16 rfl 1 rfl ?_
    refine xj_iload_n C d_Pl_canRun_17 rfl 2 rfl ?_
    obtain ⟨o2, ho2, hf⟩ := xb_some hf
    refine xj_callVi (rest := []) C (c_Be_canLay N ho2) Y_Be_canLay i_Pl_104 3 rfl rfl (by decide) ⟨rfl, rfl⟩ rfl rfl (Nat.le_of_ble_eq_true rfl) d_Pl_canRun_18 (fun q h => Or.inl h) ?_
    refine xj_if_eq (tgt := 28) C d_Pl_canRun_21 (by decide) (fun h9 => ?_) (fun h9 => ?_)
    · have hf := xi_pos h9 hf
      refine xj_iconst (v := 0) C d_Pl_canRun_28 rfl ?_
      exact xj_zret C hr rfl hf d_Pl_canRun_29
    · have hf := xi_neg h9 hf
      refine xj_iconst (v := 1) C d_Pl_canRun_24 rfl ?_
      refine xj_goto (tgt := 29) C d_Pl_canRun_25 (by decide) ?_
      exact xj_zret C hr rfl hf d_Pl_canRun_29
set_option maxHeartbeats 4000000 in
set_option maxRecDepth 20000 in
theorem w_Fl_lastArrival_28 {p : Program} {l : Launch} {e : Env} {s : State} {m : MethodId} {args : Array Value} {below : List Frame} {meth : Method} {c : Code} {sz : Nat} {D : va_G} {ad : Nat → Nat} {cI : ClassId} {out : Int32 × St} (N : (LC ad).Nodup) (C : xC p s m args meth c (xA (LC ad) sz) D 4 (tyC cI) b_Fl_lastArrival R_Fl) (hr : meth.sig.returnType = (some .int)) {K4 : Int32 → Int32 → Int32 → St → Option (Int32 × St)} (hK4 : ∀ (x1 x2 x3 : Int32) (st : St), K4 x1 x2 x3 st = some out → j_i p l e rm_Fl_lastArrival s m args below meth c sz D (WC ad cI) (LC ad) out 4 (WC ad cI st) [(0, .ref (ad 2)), (1, .int x1), (2, .int x2), (3, .int x3)] 4 []) (x1 x2 x3 : Int32) (st : St) (hf : f_Fl_lastArrival_28 K4 x1 x2 x3 st = some out) : j_i p l e rm_Fl_lastArrival s m args below meth c sz D (WC ad cI) (LC ad) out 4 (WC ad cI st) [(0, .ref (ad 2)), (1, .int x1), (2, .int x2), (3, .int x3)] 28 [] := by
  unfold f_Fl_lastArrival_28 at hf
  refine xj_iinc (v := x3 + 1) (j := 3) C d_Fl_lastArrival_28 rfl rfl (by decide) rfl ?_
  refine xj_goto (tgt := 4) C d_Fl_lastArrival_31 (by decide) ?_
  exact xj_lv [1, 2, 3, 0] rfl (hK4 x1 x2 (x3 + 1) st hf)
set_option maxHeartbeats 4000000 in
set_option maxRecDepth 20000 in
theorem wb_Fl_lastArrival_4 {p : Program} {l : Launch} {e : Env} {s : State} {m : MethodId} {args : Array Value} {below : List Frame} {meth : Method} {c : Code} {sz : Nat} {D : va_G} {ad : Nat → Nat} {cI : ClassId} {out : Int32 × St} (N : (LC ad).Nodup) (C : xC p s m args meth c (xA (LC ad) sz) D 4 (tyC cI) b_Fl_lastArrival R_Fl) (hr : meth.sig.returnType = (some .int)) {K4 : Int32 → Int32 → Int32 → St → Option (Int32 × St)} (hK4 : ∀ (x1 x2 x3 : Int32) (st : St), K4 x1 x2 x3 st = some out → j_i p l e rm_Fl_lastArrival s m args below meth c sz D (WC ad cI) (LC ad) out 4 (WC ad cI st) [(0, .ref (ad 2)), (1, .int x1), (2, .int x2), (3, .int x3)] 4 []) (x1 x2 x3 : Int32) (st : St) (hf : b_Fl_lastArrival_4 K4 x1 x2 x3 st = some out) : j_i p l e rm_Fl_lastArrival s m args below meth c sz D (WC ad cI) (LC ad) out 4 (WC ad cI st) [(0, .ref (ad 2)), (1, .int x1), (2, .int x2), (3, .int x3)] 4 [] := by
  unfold b_Fl_lastArrival_4 at hf
  refine xj_iload_n C d_Fl_lastArrival_4 rfl 3 rfl ?_
  refine xj_iconst (v := 4) C d_Fl_lastArrival_5 rfl ?_
  refine xj_icmp_ge (tgt := 34) C d_Fl_lastArrival_6 (by decide) (fun h9 => ?_) (fun h9 => ?_)
  · have hf := xi_pos h9 hf
    refine xj_iload_n C d_Fl_lastArrival_34 rfl 2 rfl ?_
    exact xj_iret C hr hf d_Fl_lastArrival_35
  · have hf := xi_neg h9 hf
    refine xj_iload_n C d_Fl_lastArrival_9 rfl 1 rfl ?_
    refine xj_iload_n C d_Fl_lastArrival_10 rfl 3 rfl ?_
    obtain ⟨o1, ho1, hf⟩ := xb_some hf
    refine xj_callSNi (rest := []) C (c_LR_holds N ho1) Y_LR_holds i_Fl_35 (by decide) ⟨rfl, rfl⟩ rfl rfl (Nat.le_of_ble_eq_true rfl) d_Fl_lastArrival_11 (fun q h => Or.inl h) ?_
    refine xj_if_eq (tgt := 28) C d_Fl_lastArrival_14 (by decide) (fun h9 => ?_) (fun h9 => ?_)
    · have hf := xi_pos h9 hf
      exact xj_lv [0, 1, 2, 3] rfl (w_Fl_lastArrival_28 N C hr hK4 x1 x2 x3 o1.2 hf)
    · have hf := xi_neg h9 hf
      refine xj_iload_n C d_Fl_lastArrival_17 rfl 2 rfl ?_
      refine xj_aload_n C d_Fl_lastArrival_18 rfl 0 rfl ?_
      refine xj_get C g_Fl_18 2 rfl rfl d_Fl_lastArrival_19 ?_
      refine xj_iload_n C d_Fl_lastArrival_22 rfl 3 rfl ?_
      obtain ⟨g2, hf⟩ := xb_guard hf
      refine xj_iald C 16 0 rfl rfl g2 d_Fl_lastArrival_23 ?_
      refine xj_mmax C mm_Fl_39 (by decide) (Nat.le_of_ble_eq_true rfl) d_Fl_lastArrival_24 ?_
      refine xj_topi (fun v3 ev3 => ?_)
      have hf := xlet_at ev3 hf
      refine xj_istore_n C d_Fl_lastArrival_27 rfl (by decide) rfl ?_
      exact xj_lv [1, 2, 0, 3] rfl (w_Fl_lastArrival_28 N C hr hK4 x1 v3 x3 o1.2 hf)
set_option maxHeartbeats 4000000 in
set_option maxRecDepth 20000 in
theorem w_Fl_lastArrival_4 {p : Program} {l : Launch} {e : Env} {s : State} {m : MethodId} {args : Array Value} {below : List Frame} {meth : Method} {c : Code} {sz : Nat} {D : va_G} {ad : Nat → Nat} {cI : ClassId} {out : Int32 × St} (N : (LC ad).Nodup) (C : xC p s m args meth c (xA (LC ad) sz) D 4 (tyC cI) b_Fl_lastArrival R_Fl) (hr : meth.sig.returnType = (some .int)) (n : Nat) : ∀ (x1 x2 x3 : Int32) (st : St), f_Fl_lastArrival_4 n x1 x2 x3 st = some out → j_i p l e rm_Fl_lastArrival s m args below meth c sz D (WC ad cI) (LC ad) out 4 (WC ad cI st) [(0, .ref (ad 2)), (1, .int x1), (2, .int x2), (3, .int x3)] 4 [] := by
  induction n with
  | zero => intro x1 x2 x3 st hf; exact absurd (show (none : Option (Int32 × St)) = some out from hf) (fun h => by cases h)
  | succ n ih => intro x1 x2 x3 st hf; exact wb_Fl_lastArrival_4 N C hr ih x1 x2 x3 st hf
set_option maxHeartbeats 4000000 in
set_option maxRecDepth 20000 in
theorem c_Fl_lastArrival {l : Launch} {D : va_G} {ad : Nat → Nat} {cI : ClassId} (N : (LC ad).Nodup) {x1 : Int32} {st : St} {out : Int32 × St} (hf : f_Fl_lastArrival x1 st = some out) : xMi l y_Fl_lastArrival b_Fl_lastArrival 4 (some .int) rm_Fl_lastArrival D (tyC cI) (WC ad cI) (LC ad) [.ref (ad 2), .int x1] st out := by
  intro sz
  refine xM_of (L := LC ad) (by decide) (Nat.le_of_ble_eq_true rfl) (fun p e s m below meth c hsz hr C => ?_)
  show j_i p l e rm_Fl_lastArrival s m _ below meth c sz D (WC ad cI) (LC ad) out 4 (WC ad cI st) [(0, .ref (ad 2)), (1, .int x1)] 0 []
  unfold f_Fl_lastArrival at hf
  refine xj_iconst (v := 0) C d_Fl_lastArrival_0 rfl ?_
  refine xj_istore_n C d_Fl_lastArrival_1 rfl (by decide) rfl ?_
  refine xj_iconst (v := 0) C d_Fl_lastArrival_2 rfl ?_
  refine xj_istore_n C d_Fl_lastArrival_3 rfl (by decide) rfl ?_
  exact xj_lv [2, 3, 1, 0] rfl (w_Fl_lastArrival_4 N C hr 40 x1 0 0 st hf)
set_option maxHeartbeats 4000000 in
set_option maxRecDepth 20000 in
theorem w_Ch_pastSpans_74 {p : Program} {l : Launch} {e : Env} {s : State} {m : MethodId} {args : Array Value} {below : List Frame} {meth : Method} {c : Code} {sz : Nat} {D : va_G} {ad : Nat → Nat} {cI : ClassId} {out : Int32 × St} (N : (LC ad).Nodup) (C : xC p s m args meth c (xA (LC ad) sz) D 6 (tyC cI) b_Ch_pastSpans R_Ch) (hr : meth.sig.returnType = (some .int)) {K12 : Int32 → Int32 → Int32 → Int32 → St → Option (Int32 × St)} (hK12 : ∀ (x1 x3 x4 x5 : Int32) (st : St), K12 x1 x3 x4 x5 st = some out → j_i p l e rm_Ch_pastSpans s m args below meth c sz D (WC ad cI) (LC ad) out 6 (WC ad cI st) [(0, .ref (ad 1)), (1, .int x1), (3, .int x3), (4, .int x4), (5, .int x5)] 12 []) (x1 x3 x4 x5 : Int32) (st : St) (hf : f_Ch_pastSpans_74 K12 x1 x3 x4 x5 st = some out) : j_i p l e rm_Ch_pastSpans s m args below meth c sz D (WC ad cI) (LC ad) out 6 (WC ad cI st) [(0, .ref (ad 1)), (1, .int x1), (3, .int x3), (4, .int x4), (5, .int x5)] 74 [] := by
  unfold f_Ch_pastSpans_74 at hf
  refine xj_iinc (v := x5 + 1) (j := 4) C d_Ch_pastSpans_74 rfl rfl (by decide) rfl ?_
  refine xj_goto (tgt := 12) C d_Ch_pastSpans_77 (by decide) ?_
  exact xj_lv [1, 2, 3, 4, 0] rfl (hK12 x1 x3 x4 (x5 + 1) st hf)
set_option maxHeartbeats 4000000 in
set_option maxRecDepth 20000 in
theorem wb_Ch_pastSpans_12 {p : Program} {l : Launch} {e : Env} {s : State} {m : MethodId} {args : Array Value} {below : List Frame} {meth : Method} {c : Code} {sz : Nat} {D : va_G} {ad : Nat → Nat} {cI : ClassId} {out : Int32 × St} (N : (LC ad).Nodup) (C : xC p s m args meth c (xA (LC ad) sz) D 6 (tyC cI) b_Ch_pastSpans R_Ch) (hr : meth.sig.returnType = (some .int)) {K12 : Int32 → Int32 → Int32 → Int32 → St → Option (Int32 × St)} (hK12 : ∀ (x1 x3 x4 x5 : Int32) (st : St), K12 x1 x3 x4 x5 st = some out → j_i p l e rm_Ch_pastSpans s m args below meth c sz D (WC ad cI) (LC ad) out 6 (WC ad cI st) [(0, .ref (ad 1)), (1, .int x1), (3, .int x3), (4, .int x4), (5, .int x5)] 12 []) (x1 x3 x4 x5 : Int32) (st : St) (hf : b_Ch_pastSpans_12 K12 x1 x3 x4 x5 st = some out) : j_i p l e rm_Ch_pastSpans s m args below meth c sz D (WC ad cI) (LC ad) out 6 (WC ad cI st) [(0, .ref (ad 1)), (1, .int x1), (3, .int x3), (4, .int x4), (5, .int x5)] 12 [] := by
  unfold b_Ch_pastSpans_12 at hf
  refine xj_iload C d_Ch_pastSpans_12 4 rfl ?_
  refine xj_bipush (v := 8) C d_Ch_pastSpans_14 rfl ?_
  refine xj_icmp_ge (tgt := 80) C d_Ch_pastSpans_16 (by decide) (fun h9 => ?_) (fun h9 => ?_)
  · have hf := xi_pos h9 hf
    refine xj_iload C d_Ch_pastSpans_80 3 rfl ?_
    exact xj_iret C hr hf d_Ch_pastSpans_82
  · have hf := xi_neg h9 hf
    refine xj_iload C d_Ch_pastSpans_19 4 rfl ?_
    refine xj_aload_n C d_Ch_pastSpans_21 rfl 0 rfl ?_
    refine xj_get C g_Ch_34 1 rfl rfl d_Ch_pastSpans_22 ?_
    refine xj_icmp_ge (tgt := 80) C d_Ch_pastSpans_25 (by decide) (fun h9 => ?_) (fun h9 => ?_)
    · have hf := xi_pos h9 hf
      refine xj_iload C d_Ch_pastSpans_80 3 rfl ?_
      exact xj_iret C hr hf d_Ch_pastSpans_82
    · have hf := xi_neg h9 hf
      refine xj_aload_n C d_Ch_pastSpans_28 rfl 0 rfl ?_
      refine xj_get C g_Ch_21 1 rfl rfl d_Ch_pastSpans_29 ?_
      refine xj_iload C d_Ch_pastSpans_32 4 rfl ?_
      obtain ⟨g2, hf⟩ := xb_guard hf
      refine xj_iald C 11 0 rfl rfl g2 d_Ch_pastSpans_34 ?_
      refine xj_iload_n C d_Ch_pastSpans_35 rfl 1 rfl ?_
      refine xj_icmp_ne (tgt := 74) C d_Ch_pastSpans_36 (by decide) (fun h9 => ?_) (fun h9 => ?_)
      · have hf := xi_neg h9 hf
        exact xj_lv [0, 1, 2, 3, 4] rfl (w_Ch_pastSpans_74 N C hr hK12 x1 x3 x4 x5 st hf)
      · have hf := xi_pos h9 hf
        refine xj_iload C d_Ch_pastSpans_39 3 rfl ?_
        refine xj_aload_n C d_Ch_pastSpans_41 rfl 0 rfl ?_
        refine xj_get C g_Ch_27 1 rfl rfl d_Ch_pastSpans_42 ?_
        refine xj_iload C d_Ch_pastSpans_45 4 rfl ?_
        obtain ⟨g3, hf⟩ := xb_guard hf
        refine xj_iald C 13 0 rfl rfl g3 d_Ch_pastSpans_47 ?_
        refine xj_icmp_ge (tgt := 74) C d_Ch_pastSpans_48 (by decide) (fun h9 => ?_) (fun h9 => ?_)
        · have hf := xi_pos h9 hf
          exact xj_lv [0, 1, 2, 3, 4] rfl (w_Ch_pastSpans_74 N C hr hK12 x1 x3 x4 x5 st hf)
        · have hf := xi_neg h9 hf
          refine xj_iload C d_Ch_pastSpans_51 3 rfl ?_
          refine xj_iload_n C d_Ch_pastSpans_53 rfl 2 rfl ?_
          refine xj_iadd C d_Ch_pastSpans_54 ?_
          refine xj_aload_n C d_Ch_pastSpans_55 rfl 0 rfl ?_
          refine xj_get C g_Ch_24 1 rfl rfl d_Ch_pastSpans_56 ?_
          refine xj_iload C d_Ch_pastSpans_59 4 rfl ?_
          obtain ⟨g4, hf⟩ := xb_guard hf
          refine xj_iald C 12 0 rfl rfl g4 d_Ch_pastSpans_61 ?_
          refine xj_icmp_le (tgt := 74) C d_Ch_pastSpans_62 (by decide) (fun h9 => ?_) (fun h9 => ?_)
          · have hf := xi_pos h9 hf
            exact xj_lv [0, 1, 2, 3, 4] rfl (w_Ch_pastSpans_74 N C hr hK12 x1 x3 x4 x5 st hf)
          · have hf := xi_neg h9 hf
            refine xj_aload_n C d_Ch_pastSpans_65 rfl 0 rfl ?_
            refine xj_get C g_Ch_27 1 rfl rfl d_Ch_pastSpans_66 ?_
            refine xj_iload C d_Ch_pastSpans_69 4 rfl ?_
            obtain ⟨g5, hf⟩ := xb_guard hf
            refine xj_iald C 13 0 rfl rfl g5 d_Ch_pastSpans_71 ?_
            refine xj_topi (fun v6 ev6 => ?_)
            have hf := xlet_at ev6 hf
            refine xj_istore C d_Ch_pastSpans_72 (by decide) rfl ?_
            exact xj_lv [1, 2, 3, 0, 4] rfl (w_Ch_pastSpans_74 N C hr hK12 x1 x3 v6 x5 st hf)
set_option maxHeartbeats 4000000 in
set_option maxRecDepth 20000 in
theorem w_Ch_pastSpans_12 {p : Program} {l : Launch} {e : Env} {s : State} {m : MethodId} {args : Array Value} {below : List Frame} {meth : Method} {c : Code} {sz : Nat} {D : va_G} {ad : Nat → Nat} {cI : ClassId} {out : Int32 × St} (N : (LC ad).Nodup) (C : xC p s m args meth c (xA (LC ad) sz) D 6 (tyC cI) b_Ch_pastSpans R_Ch) (hr : meth.sig.returnType = (some .int)) (n : Nat) : ∀ (x1 x3 x4 x5 : Int32) (st : St), f_Ch_pastSpans_12 n x1 x3 x4 x5 st = some out → j_i p l e rm_Ch_pastSpans s m args below meth c sz D (WC ad cI) (LC ad) out 6 (WC ad cI st) [(0, .ref (ad 1)), (1, .int x1), (3, .int x3), (4, .int x4), (5, .int x5)] 12 [] := by
  induction n with
  | zero => intro x1 x3 x4 x5 st hf; exact absurd (show (none : Option (Int32 × St)) = some out from hf) (fun h => by cases h)
  | succ n ih => intro x1 x3 x4 x5 st hf; exact wb_Ch_pastSpans_12 N C hr ih x1 x3 x4 x5 st hf
set_option maxHeartbeats 4000000 in
set_option maxRecDepth 20000 in
theorem c_Ch_pastSpans {l : Launch} {D : va_G} {ad : Nat → Nat} {cI : ClassId} (N : (LC ad).Nodup) {x1 x2 : Int32} {st : St} {out : Int32 × St} (hf : f_Ch_pastSpans x1 x2 st = some out) : xMi l y_Ch_pastSpans b_Ch_pastSpans 6 (some .int) rm_Ch_pastSpans D (tyC cI) (WC ad cI) (LC ad) [.ref (ad 1), .int x1, .int x2] st out := by
  intro sz
  refine xM_of (L := LC ad) (by decide) (Nat.le_of_ble_eq_true rfl) (fun p e s m below meth c hsz hr C => ?_)
  show j_i p l e rm_Ch_pastSpans s m _ below meth c sz D (WC ad cI) (LC ad) out 6 (WC ad cI st) [(0, .ref (ad 1)), (1, .int x1), (2, .int x2)] 0 []
  unfold f_Ch_pastSpans at hf
  refine xj_aload_n C d_Ch_pastSpans_0 rfl 0 rfl ?_
  refine xj_iload_n C d_Ch_pastSpans_1 rfl 1 rfl ?_
  obtain ⟨o1, ho1, hf⟩ := xb_some hf
  refine xj_callVi (rest := []) C (c_Ch_fill N ho1) Y_Ch_fill i_Ch_45 1 rfl rfl (by decide) ⟨rfl, rfl⟩ rfl rfl (Nat.le_of_ble_eq_true rfl) d_Ch_pastSpans_2 (fun q h => Or.inl h) ?_
  refine xj_istore_n C d_Ch_pastSpans_5 rfl (by decide) rfl ?_
  refine xj_iload_n C d_Ch_pastSpans_6 rfl 3 rfl ?_
  refine xj_istore C d_Ch_pastSpans_7 (by decide) rfl ?_
  refine xj_iconst (v := 0) C d_Ch_pastSpans_9 rfl ?_
  refine xj_istore C d_Ch_pastSpans_10 (by decide) rfl ?_
  exact xj_lv [3, 4, 2, 1, 0] rfl (w_Ch_pastSpans_12 N C hr 40 x1 o1.1 x2 0 o1.2 hf)
set_option maxHeartbeats 4000000 in
set_option maxRecDepth 20000 in
theorem wb_Ch_firstOpen_5 {p : Program} {l : Launch} {e : Env} {s : State} {m : MethodId} {args : Array Value} {below : List Frame} {meth : Method} {c : Code} {sz : Nat} {D : va_G} {ad : Nat → Nat} {cI : ClassId} {out : Int32 × St} (N : (LC ad).Nodup) (C : xC p s m args meth c (xA (LC ad) sz) D 6 (tyC cI) b_Ch_firstOpen R_Ch) (hr : meth.sig.returnType = (some .int)) {K5 : Int32 → Int32 → Int32 → St → Option (Int32 × St)} (hK5 : ∀ (x1 x3 x4 : Int32) (st : St), K5 x1 x3 x4 st = some out → j_i p l e rm_Ch_firstOpen s m args below meth c sz D (WC ad cI) (LC ad) out 6 (WC ad cI st) [(0, .ref (ad 1)), (1, .int x1), (3, .int x3), (4, .int x4)] 5 []) (x1 x3 x4 : Int32) (st : St) (hf : b_Ch_firstOpen_5 K5 x1 x3 x4 st = some out) : j_i p l e rm_Ch_firstOpen s m args below meth c sz D (WC ad cI) (LC ad) out 6 (WC ad cI st) [(0, .ref (ad 1)), (1, .int x1), (3, .int x3), (4, .int x4)] 5 [] := by
  unfold b_Ch_firstOpen_5 at hf
  refine xj_iload C d_Ch_firstOpen_5 3 rfl ?_
  refine xj_bipush (v := 8) C d_Ch_firstOpen_7 rfl ?_
  refine xj_icmp_ge (tgt := 38) C d_Ch_firstOpen_9 (by decide) (fun h9 => ?_) (fun h9 => ?_)
  · have hf := xi_pos h9 hf
    refine xj_iload_n C d_Ch_firstOpen_38 rfl 2 rfl ?_
    exact xj_iret C hr hf d_Ch_firstOpen_39
  · have hf := xi_neg h9 hf
    refine xj_aload_n C d_Ch_firstOpen_12 rfl 0 rfl ?_
    refine xj_iload_n C d_Ch_firstOpen_13 rfl 1 rfl ?_
    refine xj_iload_n C d_Ch_firstOpen_14 rfl 2 rfl ?_
    obtain ⟨o1, ho1, hf⟩ := xb_some hf
    refine xj_callVi (rest := []) C (c_Ch_pastSpans N ho1) Y_Ch_pastSpans i_Ch_41 1 rfl rfl (by decide) ⟨rfl, rfl⟩ rfl rfl (Nat.le_of_ble_eq_true rfl) d_Ch_firstOpen_15 (fun q h => Or.inl h) ?_
    refine xj_istore C d_Ch_firstOpen_18 (by decide) rfl ?_
    refine xj_iload C d_Ch_firstOpen_20 0 rfl ?_
    refine xj_iload_n C d_Ch_firstOpen_22 rfl 3 rfl ?_
    refine xj_icmp_ne (tgt := 29) C d_Ch_firstOpen_23 (by decide) (fun h9 => ?_) (fun h9 => ?_)
    · have hf := xi_neg h9 hf
      refine xj_iload C d_Ch_firstOpen_29 0 rfl ?_
      refine xj_istore_n C d_Ch_firstOpen_31 rfl (by decide) rfl ?_
      refine xj_iinc (v := x4 + 1) (j := 4) C d_Ch_firstOpen_32 rfl rfl (by decide) rfl ?_
      refine xj_goto (tgt := 5) C d_Ch_firstOpen_35 (by decide) ?_
      exact xj_lv [3, 4, 1, 0] rfl (hK5 x1 o1.1 (x4 + 1) o1.2 hf)
    · have hf := xi_pos h9 hf
      refine xj_goto (tgt := 38) C d_Ch_firstOpen_26 (by decide) ?_
      refine xj_iload_n C d_Ch_firstOpen_38 rfl 3 rfl ?_
      exact xj_iret C hr hf d_Ch_firstOpen_39
set_option maxHeartbeats 4000000 in
set_option maxRecDepth 20000 in
theorem w_Ch_firstOpen_5 {p : Program} {l : Launch} {e : Env} {s : State} {m : MethodId} {args : Array Value} {below : List Frame} {meth : Method} {c : Code} {sz : Nat} {D : va_G} {ad : Nat → Nat} {cI : ClassId} {out : Int32 × St} (N : (LC ad).Nodup) (C : xC p s m args meth c (xA (LC ad) sz) D 6 (tyC cI) b_Ch_firstOpen R_Ch) (hr : meth.sig.returnType = (some .int)) (n : Nat) : ∀ (x1 x3 x4 : Int32) (st : St), f_Ch_firstOpen_5 n x1 x3 x4 st = some out → j_i p l e rm_Ch_firstOpen s m args below meth c sz D (WC ad cI) (LC ad) out 6 (WC ad cI st) [(0, .ref (ad 1)), (1, .int x1), (3, .int x3), (4, .int x4)] 5 [] := by
  induction n with
  | zero => intro x1 x3 x4 st hf; exact absurd (show (none : Option (Int32 × St)) = some out from hf) (fun h => by cases h)
  | succ n ih => intro x1 x3 x4 st hf; exact wb_Ch_firstOpen_5 N C hr ih x1 x3 x4 st hf
set_option maxHeartbeats 4000000 in
set_option maxRecDepth 20000 in
theorem c_Ch_firstOpen {l : Launch} {D : va_G} {ad : Nat → Nat} {cI : ClassId} (N : (LC ad).Nodup) {x1 x2 : Int32} {st : St} {out : Int32 × St} (hf : f_Ch_firstOpen x1 x2 st = some out) : xMi l y_Ch_firstOpen b_Ch_firstOpen 6 (some .int) rm_Ch_firstOpen D (tyC cI) (WC ad cI) (LC ad) [.ref (ad 1), .int x1, .int x2] st out := by
  intro sz
  refine xM_of (L := LC ad) (by decide) (Nat.le_of_ble_eq_true rfl) (fun p e s m below meth c hsz hr C => ?_)
  show j_i p l e rm_Ch_firstOpen s m _ below meth c sz D (WC ad cI) (LC ad) out 6 (WC ad cI st) [(0, .ref (ad 1)), (1, .int x1), (2, .int x2)] 0 []
  unfold f_Ch_firstOpen at hf
  refine xj_iload_n C d_Ch_firstOpen_0 rfl 2 rfl ?_
  refine xj_istore_n C d_Ch_firstOpen_1 rfl (by decide) rfl ?_
  refine xj_iconst (v := 0) C d_Ch_firstOpen_2 rfl ?_
  refine xj_istore C d_Ch_firstOpen_3 (by decide) rfl ?_
  exact xj_lv [2, 3, 1, 0] rfl (w_Ch_firstOpen_5 N C hr 40 x1 x2 0 st hf)
set_option maxHeartbeats 4000000 in
set_option maxRecDepth 20000 in
theorem w_Tt_put_tr_43 {p : Program} {l : Launch} {e : Env} {s : State} {m : MethodId} {args : Array Value} {below : List Frame} {meth : Method} {c : Code} {sz : Nat} {D : va_G} {ad : Nat → Nat} {cI : ClassId} {out : St} (N : (LC ad).Nodup) (C : xC p s m args meth c (xA (LC ad) sz) D 6 (tyC cI) b_Tt_put R_Tt) (hr : meth.sig.returnType = none) {K3 : Int32 → Int32 → Int32 → Int32 → Int32 → St → Option (St)} (hK3 : ∀ (x1 x2 x3 x4 x5 : Int32) (st : St), K3 x1 x2 x3 x4 x5 st = some out → j_v p l e rm_Tt_put_tr s m args below meth c sz D (WC ad cI) (LC ad) out 6 (WC ad cI st) [(0, .ref (ad 5)), (1, .int x1), (2, .int x2), (3, .int x3), (4, .int x4), (5, .int x5)] 3 []) (x1 x2 x3 x4 x5 : Int32) (st : St) (hf : f_Tt_put_tr_43 K3 x1 x2 x3 x4 x5 st = some out) : j_v p l e rm_Tt_put_tr s m args below meth c sz D (WC ad cI) (LC ad) out 6 (WC ad cI st) [(0, .ref (ad 5)), (1, .int x1), (2, .int x2), (3, .int x3), (4, .int x4), (5, .int x5)] 43 [] := by
  unfold f_Tt_put_tr_43 at hf
  refine xj_iinc (v := x5 + 1) (j := 5) C d_Tt_put_43 rfl rfl (by decide) rfl ?_
  refine xj_goto (tgt := 3) C d_Tt_put_46 (by decide) ?_
  exact xj_lv [1, 2, 3, 4, 5, 0] rfl (hK3 x1 x2 x3 x4 (x5 + 1) st hf)
set_option maxHeartbeats 4000000 in
set_option maxRecDepth 20000 in
theorem wb_Tt_put_tr_3 {p : Program} {l : Launch} {e : Env} {s : State} {m : MethodId} {args : Array Value} {below : List Frame} {meth : Method} {c : Code} {sz : Nat} {D : va_G} {ad : Nat → Nat} {cI : ClassId} {out : St} (N : (LC ad).Nodup) (C : xC p s m args meth c (xA (LC ad) sz) D 6 (tyC cI) b_Tt_put R_Tt) (hr : meth.sig.returnType = none) {K3 : Int32 → Int32 → Int32 → Int32 → Int32 → St → Option (St)} (hK3 : ∀ (x1 x2 x3 x4 x5 : Int32) (st : St), K3 x1 x2 x3 x4 x5 st = some out → j_v p l e rm_Tt_put_tr s m args below meth c sz D (WC ad cI) (LC ad) out 6 (WC ad cI st) [(0, .ref (ad 5)), (1, .int x1), (2, .int x2), (3, .int x3), (4, .int x4), (5, .int x5)] 3 []) (x1 x2 x3 x4 x5 : Int32) (st : St) (hf : b_Tt_put_tr_3 K3 x1 x2 x3 x4 x5 st = some out) : j_v p l e rm_Tt_put_tr s m args below meth c sz D (WC ad cI) (LC ad) out 6 (WC ad cI st) [(0, .ref (ad 5)), (1, .int x1), (2, .int x2), (3, .int x3), (4, .int x4), (5, .int x5)] 3 [] := by
  unfold b_Tt_put_tr_3 at hf
  refine xj_iload C d_Tt_put_3 5 rfl ?_
  refine xj_iconst (v := 4) C d_Tt_put_5 rfl ?_
  refine xj_icmp_ge (tgt := 49) C d_Tt_put_6 (by decide) (fun h9 => ?_) (fun h9 => ?_)
  · have hf := xi_pos h9 hf
    exact xj_vret C hr hf d_Tt_put_49
  · have hf := xi_neg h9 hf
    refine xj_iload_n C d_Tt_put_9 rfl 1 rfl ?_
    refine xj_iload C d_Tt_put_10 5 rfl ?_
    obtain ⟨o1, ho1, hf⟩ := xb_some hf
    refine xj_callSNi (rest := []) C (c_LR_holds N ho1) Y_LR_holds i_Tt_25 (by decide) ⟨rfl, rfl⟩ rfl rfl (Nat.le_of_ble_eq_true rfl) d_Tt_put_12 (fun q h => Or.inl h) ?_
    refine xj_if_eq (tgt := 43) C d_Tt_put_15 (by decide) (fun h9 => ?_) (fun h9 => ?_)
    · have hf := xi_pos h9 hf
      exact xj_lv [0, 1, 2, 3, 4, 5] rfl (w_Tt_put_tr_43 N C hr hK3 x1 x2 x3 x4 x5 o1.2 hf)
    · have hf := xi_neg h9 hf
      refine xj_aload_n C d_Tt_put_18 rfl 0 rfl ?_
      refine xj_get C g_Tt_9 5 rfl rfl d_Tt_put_19 ?_
      refine xj_iload C d_Tt_put_22 5 rfl ?_
      refine xj_iload C d_Tt_put_24 4 rfl ?_
      obtain ⟨g2, hf⟩ := xb_guard hf
      refine xj_iast (ws' := WC ad cI (sA o1.2 14 x5.toNatClampNeg x4)) C (WC_D N sz _) 22 0 rfl rfl g2 d_Tt_put_26 rfl ?_
      refine xj_aload_n C d_Tt_put_27 rfl 0 rfl ?_
      refine xj_get C g_Tt_15 5 rfl rfl d_Tt_put_28 ?_
      refine xj_iload C d_Tt_put_31 5 rfl ?_
      refine xj_iload_n C d_Tt_put_33 rfl 2 rfl ?_
      obtain ⟨g3, hf⟩ := xb_guard hf
      refine xj_iast (ws' := WC ad cI (sA (sA o1.2 14 x5.toNatClampNeg x4) 15 x5.toNatClampNeg x2)) C (WC_D N sz _) 23 0 rfl rfl g3 d_Tt_put_34 rfl ?_
      refine xj_aload_n C d_Tt_put_35 rfl 0 rfl ?_
      refine xj_get C g_Tt_18 5 rfl rfl d_Tt_put_36 ?_
      refine xj_iload C d_Tt_put_39 5 rfl ?_
      refine xj_iload_n C d_Tt_put_41 rfl 3 rfl ?_
      obtain ⟨g4, hf⟩ := xb_guard hf
      refine xj_iast (ws' := WC ad cI (sA (sA (sA o1.2 14 x5.toNatClampNeg x4) 15 x5.toNatClampNeg x2) 16 x5.toNatClampNeg x3)) C (WC_D N sz _) 24 0 rfl rfl g4 d_Tt_put_42 rfl ?_
      exact xj_lv [0, 1, 2, 3, 4, 5] rfl (w_Tt_put_tr_43 N C hr hK3 x1 x2 x3 x4 x5 (sA (sA (sA o1.2 14 x5.toNatClampNeg x4) 15 x5.toNatClampNeg x2) 16 x5.toNatClampNeg x3) hf)
set_option maxHeartbeats 4000000 in
set_option maxRecDepth 20000 in
theorem w_Tt_put_tr_3 {p : Program} {l : Launch} {e : Env} {s : State} {m : MethodId} {args : Array Value} {below : List Frame} {meth : Method} {c : Code} {sz : Nat} {D : va_G} {ad : Nat → Nat} {cI : ClassId} {out : St} (N : (LC ad).Nodup) (C : xC p s m args meth c (xA (LC ad) sz) D 6 (tyC cI) b_Tt_put R_Tt) (hr : meth.sig.returnType = none) (n : Nat) : ∀ (x1 x2 x3 x4 x5 : Int32) (st : St), f_Tt_put_tr_3 n x1 x2 x3 x4 x5 st = some out → j_v p l e rm_Tt_put_tr s m args below meth c sz D (WC ad cI) (LC ad) out 6 (WC ad cI st) [(0, .ref (ad 5)), (1, .int x1), (2, .int x2), (3, .int x3), (4, .int x4), (5, .int x5)] 3 [] := by
  induction n with
  | zero => intro x1 x2 x3 x4 x5 st hf; exact absurd (show (none : Option (St)) = some out from hf) (fun h => by cases h)
  | succ n ih => intro x1 x2 x3 x4 x5 st hf; exact wb_Tt_put_tr_3 N C hr ih x1 x2 x3 x4 x5 st hf
set_option maxHeartbeats 4000000 in
set_option maxRecDepth 20000 in
theorem c_Tt_put_tr {l : Launch} {D : va_G} {ad : Nat → Nat} {cI : ClassId} (N : (LC ad).Nodup) {x1 x2 x3 x4 : Int32} {st : St} {out : St} (hf : f_Tt_put_tr x1 x2 x3 x4 st = some out) : xMv l y_Tt_put b_Tt_put 6 none rm_Tt_put_tr D (tyC cI) (WC ad cI) (LC ad) [.ref (ad 5), .int x1, .int x2, .int x3, .int x4] st out := by
  intro sz
  refine xM_of (L := LC ad) (by decide) (Nat.le_of_ble_eq_true rfl) (fun p e s m below meth c hsz hr C => ?_)
  show j_v p l e rm_Tt_put_tr s m _ below meth c sz D (WC ad cI) (LC ad) out 6 (WC ad cI st) [(0, .ref (ad 5)), (1, .int x1), (2, .int x2), (3, .int x3), (4, .int x4)] 0 []
  unfold f_Tt_put_tr at hf
  refine xj_iconst (v := 0) C d_Tt_put_0 rfl ?_
  refine xj_istore C d_Tt_put_1 (by decide) rfl ?_
  exact xj_lv [1, 2, 3, 4, 5, 0] rfl (w_Tt_put_tr_3 N C hr 40 x1 x2 x3 x4 0 st hf)
set_option maxHeartbeats 4000000 in
set_option maxRecDepth 20000 in
theorem w_Fl_waiting_32 {p : Program} {l : Launch} {e : Env} {s : State} {m : MethodId} {args : Array Value} {below : List Frame} {meth : Method} {c : Code} {sz : Nat} {D : va_G} {ad : Nat → Nat} {cI : ClassId} {out : Int32 × St} (N : (LC ad).Nodup) (C : xC p s m args meth c (xA (LC ad) sz) D 5 (tyC cI) b_Fl_waiting R_Fl) (hr : meth.sig.returnType = (some .int)) {K5 : Int32 → Int32 → Int32 → Int32 → St → Option (Int32 × St)} (hK5 : ∀ (x1 x2 x3 x4 : Int32) (st : St), K5 x1 x2 x3 x4 st = some out → j_i p l e rm_Fl_waiting s m args below meth c sz D (WC ad cI) (LC ad) out 5 (WC ad cI st) [(0, .ref (ad 2)), (1, .int x1), (2, .int x2), (3, .int x3), (4, .int x4)] 5 []) (x1 x2 x3 x4 : Int32) (st : St) (hf : f_Fl_waiting_32 K5 x1 x2 x3 x4 st = some out) : j_i p l e rm_Fl_waiting s m args below meth c sz D (WC ad cI) (LC ad) out 5 (WC ad cI st) [(0, .ref (ad 2)), (1, .int x1), (2, .int x2), (3, .int x3), (4, .int x4)] 32 [] := by
  unfold f_Fl_waiting_32 at hf
  refine xj_iinc (v := x4 + 1) (j := 4) C d_Fl_waiting_32 rfl rfl (by decide) rfl ?_
  refine xj_goto (tgt := 5) C d_Fl_waiting_35 (by decide) ?_
  exact xj_lv [1, 2, 3, 4, 0] rfl (hK5 x1 x2 x3 (x4 + 1) st hf)
set_option maxHeartbeats 4000000 in
set_option maxRecDepth 20000 in
theorem wb_Fl_waiting_5 {p : Program} {l : Launch} {e : Env} {s : State} {m : MethodId} {args : Array Value} {below : List Frame} {meth : Method} {c : Code} {sz : Nat} {D : va_G} {ad : Nat → Nat} {cI : ClassId} {out : Int32 × St} (N : (LC ad).Nodup) (C : xC p s m args meth c (xA (LC ad) sz) D 5 (tyC cI) b_Fl_waiting R_Fl) (hr : meth.sig.returnType = (some .int)) {K5 : Int32 → Int32 → Int32 → Int32 → St → Option (Int32 × St)} (hK5 : ∀ (x1 x2 x3 x4 : Int32) (st : St), K5 x1 x2 x3 x4 st = some out → j_i p l e rm_Fl_waiting s m args below meth c sz D (WC ad cI) (LC ad) out 5 (WC ad cI st) [(0, .ref (ad 2)), (1, .int x1), (2, .int x2), (3, .int x3), (4, .int x4)] 5 []) (x1 x2 x3 x4 : Int32) (st : St) (hf : b_Fl_waiting_5 K5 x1 x2 x3 x4 st = some out) : j_i p l e rm_Fl_waiting s m args below meth c sz D (WC ad cI) (LC ad) out 5 (WC ad cI st) [(0, .ref (ad 2)), (1, .int x1), (2, .int x2), (3, .int x3), (4, .int x4)] 5 [] := by
  unfold b_Fl_waiting_5 at hf
  refine xj_iload C d_Fl_waiting_5 4 rfl ?_
  refine xj_iconst (v := 4) C d_Fl_waiting_7 rfl ?_
  refine xj_icmp_ge (tgt := 38) C d_Fl_waiting_8 (by decide) (fun h9 => ?_) (fun h9 => ?_)
  · have hf := xi_pos h9 hf
    refine xj_iload_n C d_Fl_waiting_38 rfl 3 rfl ?_
    exact xj_iret C hr hf d_Fl_waiting_39
  · have hf := xi_neg h9 hf
    refine xj_iload_n C d_Fl_waiting_11 rfl 1 rfl ?_
    refine xj_iload C d_Fl_waiting_12 4 rfl ?_
    obtain ⟨o1, ho1, hf⟩ := xb_some hf
    refine xj_callSNi (rest := []) C (c_LR_holds N ho1) Y_LR_holds i_Fl_35 (by decide) ⟨rfl, rfl⟩ rfl rfl (Nat.le_of_ble_eq_true rfl) d_Fl_waiting_14 (fun q h => Or.inl h) ?_
    refine xj_if_eq (tgt := 32) C d_Fl_waiting_17 (by decide) (fun h9 => ?_) (fun h9 => ?_)
    · have hf := xi_pos h9 hf
      exact xj_lv [0, 1, 2, 3, 4] rfl (w_Fl_waiting_32 N C hr hK5 x1 x2 x3 x4 o1.2 hf)
    · have hf := xi_neg h9 hf
      refine xj_iload_n C d_Fl_waiting_20 rfl 3 rfl ?_
      refine xj_iload_n C d_Fl_waiting_21 rfl 2 rfl ?_
      refine xj_aload_n C d_Fl_waiting_22 rfl 0 rfl ?_
      refine xj_get C g_Fl_18 2 rfl rfl d_Fl_waiting_23 ?_
      refine xj_iload C d_Fl_waiting_26 4 rfl ?_
      obtain ⟨g2, hf⟩ := xb_guard hf
      refine xj_iald C 16 0 rfl rfl g2 d_Fl_waiting_28 ?_
      refine xj_isub C d_Fl_waiting_29 ?_
      refine xj_iadd C d_Fl_waiting_30 ?_
      refine xj_topi (fun v3 ev3 => ?_)
      have hf := xlet_at ev3 hf
      refine xj_istore_n C d_Fl_waiting_31 rfl (by decide) rfl ?_
      exact xj_lv [1, 2, 3, 0, 4] rfl (w_Fl_waiting_32 N C hr hK5 x1 x2 v3 x4 o1.2 hf)
set_option maxHeartbeats 4000000 in
set_option maxRecDepth 20000 in
theorem w_Fl_waiting_5 {p : Program} {l : Launch} {e : Env} {s : State} {m : MethodId} {args : Array Value} {below : List Frame} {meth : Method} {c : Code} {sz : Nat} {D : va_G} {ad : Nat → Nat} {cI : ClassId} {out : Int32 × St} (N : (LC ad).Nodup) (C : xC p s m args meth c (xA (LC ad) sz) D 5 (tyC cI) b_Fl_waiting R_Fl) (hr : meth.sig.returnType = (some .int)) (n : Nat) : ∀ (x1 x2 x3 x4 : Int32) (st : St), f_Fl_waiting_5 n x1 x2 x3 x4 st = some out → j_i p l e rm_Fl_waiting s m args below meth c sz D (WC ad cI) (LC ad) out 5 (WC ad cI st) [(0, .ref (ad 2)), (1, .int x1), (2, .int x2), (3, .int x3), (4, .int x4)] 5 [] := by
  induction n with
  | zero => intro x1 x2 x3 x4 st hf; exact absurd (show (none : Option (Int32 × St)) = some out from hf) (fun h => by cases h)
  | succ n ih => intro x1 x2 x3 x4 st hf; exact wb_Fl_waiting_5 N C hr ih x1 x2 x3 x4 st hf
set_option maxHeartbeats 4000000 in
set_option maxRecDepth 20000 in
theorem c_Fl_waiting {l : Launch} {D : va_G} {ad : Nat → Nat} {cI : ClassId} (N : (LC ad).Nodup) {x1 x2 : Int32} {st : St} {out : Int32 × St} (hf : f_Fl_waiting x1 x2 st = some out) : xMi l y_Fl_waiting b_Fl_waiting 5 (some .int) rm_Fl_waiting D (tyC cI) (WC ad cI) (LC ad) [.ref (ad 2), .int x1, .int x2] st out := by
  intro sz
  refine xM_of (L := LC ad) (by decide) (Nat.le_of_ble_eq_true rfl) (fun p e s m below meth c hsz hr C => ?_)
  show j_i p l e rm_Fl_waiting s m _ below meth c sz D (WC ad cI) (LC ad) out 5 (WC ad cI st) [(0, .ref (ad 2)), (1, .int x1), (2, .int x2)] 0 []
  unfold f_Fl_waiting at hf
  refine xj_iconst (v := 0) C d_Fl_waiting_0 rfl ?_
  refine xj_istore_n C d_Fl_waiting_1 rfl (by decide) rfl ?_
  refine xj_iconst (v := 0) C d_Fl_waiting_2 rfl ?_
  refine xj_istore C d_Fl_waiting_3 (by decide) rfl ?_
  exact xj_lv [2, 3, 4, 1, 0] rfl (w_Fl_waiting_5 N C hr 40 x1 x2 0 0 st hf)
set_option maxHeartbeats 4000000 in
set_option maxRecDepth 20000 in
theorem w_Pl_tryRuns_110 {p : Program} {l : Launch} {e : Env} {s : State} {m : MethodId} {args : Array Value} {below : List Frame} {meth : Method} {c : Code} {sz : Nat} {D : va_G} {ad : Nat → Nat} {cI : ClassId} {out : St} {dd : Nat} (N : (LC ad).Nodup) (C : xC p s m args meth c (xA (LC ad) sz) D 12 (tyC cI) b_Pl_tryRuns R_Pl) (hr : meth.sig.returnType = none) {REC : Int32 → Int32 → Int32 → Int32 → Int32 → Int32 → St → Option (St)} (hREC : ∀ (x1 x2 x3 x4 x5 x6 : Int32) (st : St) (o : St), REC x1 x2 x3 x4 x5 x6 st = some o → xMv l y_Pl_tryRuns b_Pl_tryRuns 12 none (rm_Pl_tryRuns dd) D (tyC cI) (WC ad cI) (LC ad) [.ref (ad 4), .int x1, .int x2, .int x3, .int x4, .int x5, .int x6] st o) {K56 : Int32 → Int32 → Int32 → Int32 → Int32 → Int32 → Int32 → Int32 → St → Option (St)} (hK56 : ∀ (x1 x2 x3 x4 x5 x6 x7 x8 : Int32) (st : St), K56 x1 x2 x3 x4 x5 x6 x7 x8 st = some out → j_v p l e (rm_Pl_tryRuns (dd + 1)) s m args below meth c sz D (WC ad cI) (LC ad) out 12 (WC ad cI st) [(0, .ref (ad 4)), (1, .int x1), (2, .int x2), (3, .int x3), (4, .int x4), (5, .int x5), (6, .int x6), (7, .int x7), (8, .int x8)] 56 []) (x1 x2 x3 x4 x5 x6 x7 x8 x9 y0 : Int32) (st : St) (hf : f_Pl_tryRuns_110 REC K56 x1 x2 x3 x4 x5 x6 x7 x8 x9 y0 st = some out) : j_v p l e (rm_Pl_tryRuns (dd + 1)) s m args below meth c sz D (WC ad cI) (LC ad) out 12 (WC ad cI st) [(0, .ref (ad 4)), (1, .int x1), (2, .int x2), (3, .int x3), (4, .int x4), (5, .int x5), (6, .int x6), (7, .int x7), (8, .int x8), (9, .int x9)] 110 [.int y0] := by
  unfold f_Pl_tryRuns_110 at hf
  refine xj_istore C d_Pl_tryRuns_110 (by decide) rfl ?_
  refine xj_aload_n C d_Pl_tryRuns_112 rfl 1 rfl ?_
  refine xj_get C g_Pl_28 4 rfl rfl d_Pl_tryRuns_113 ?_
  refine xj_iload_n C d_Pl_tryRuns_116 rfl 2 rfl ?_
  refine xj_iload C d_Pl_tryRuns_117 0 rfl ?_
  refine xj_aload_n C d_Pl_tryRuns_119 rfl 1 rfl ?_
  refine xj_get C g_Pl_32 4 rfl rfl d_Pl_tryRuns_120 ?_
  refine xj_iload C d_Pl_tryRuns_123 9 rfl ?_
  obtain ⟨o6, ho6, hf⟩ := xb_some hf
  refine xj_callVi (rest := [.int y0, .int x1, .ref (ad 1)]) C (c_Fl_lastArrival N ho6) Y_Fl_lastArrival i_Pl_86 2 rfl rfl (by simp only [rm_Pl_tryRuns, rm_Fl_lastArrival]; omega) ⟨rfl, rfl⟩ rfl rfl (Nat.le_of_ble_eq_true rfl) d_Pl_tryRuns_125 (fun q h => Or.inl h) ?_
  refine xj_mmax C mm_Pl_89 (by simp only [rm_Pl_tryRuns]; omega) (by show 2 + 13 ≤ _; simp only [rm_Pl_tryRuns]; omega) d_Pl_tryRuns_128 ?_
  obtain ⟨o7, ho7, hf⟩ := xb_some hf
  refine xj_callVi (rest := []) C (c_Ch_firstOpen N ho7) Y_Ch_firstOpen i_Pl_95 1 rfl rfl (by simp only [rm_Pl_tryRuns, rm_Ch_firstOpen]; omega) ⟨rfl, rfl⟩ rfl rfl (Nat.le_of_ble_eq_true rfl) d_Pl_tryRuns_131 (fun q h => Or.inl h) ?_
  refine xj_istore C d_Pl_tryRuns_134 (by decide) rfl ?_
  refine xj_aload_n C d_Pl_tryRuns_136 rfl 2 rfl ?_
  refine xj_get C g_Pl_12 4 rfl rfl d_Pl_tryRuns_137 ?_
  refine xj_iload C d_Pl_tryRuns_140 10 rfl ?_
  refine xj_iload_n C d_Pl_tryRuns_142 rfl 3 rfl ?_
  refine xj_iload_n C d_Pl_tryRuns_143 rfl 4 rfl ?_
  refine xj_iload C d_Pl_tryRuns_144 0 rfl ?_
  obtain ⟨o8, ho8, hf⟩ := xb_some hf
  refine xj_callVv (rest := []) C (c_Tt_put_tr N ho8) Y_Tt_put i_Pl_98 5 rfl rfl (by simp only [rm_Pl_tryRuns, rm_Tt_put_tr]; omega) ⟨rfl, rfl⟩ rfl rfl (Nat.le_of_ble_eq_true rfl) d_Pl_tryRuns_146 (fun q h => Or.inl h) ?_
  refine xj_aload_n C d_Pl_tryRuns_149 rfl 2 rfl ?_
  refine xj_iload_n C d_Pl_tryRuns_150 rfl 3 rfl ?_
  refine xj_iload_n C d_Pl_tryRuns_151 rfl 4 rfl ?_
  refine xj_iconst (v := 1) C d_Pl_tryRuns_152 rfl ?_
  refine xj_iadd C d_Pl_tryRuns_153 ?_
  refine xj_iload_n C d_Pl_tryRuns_154 rfl 5 rfl ?_
  refine xj_iload C d_Pl_tryRuns_155 10 rfl ?_
  refine xj_iconst (v := (-1)) C d_Pl_tryRuns_157 rfl ?_
  refine xj_ixor C d_Pl_tryRuns_158 ?_
  refine xj_iand C d_Pl_tryRuns_159 ?_
  refine xj_iload C d_Pl_tryRuns_160 0 rfl ?_
  refine xj_iload C d_Pl_tryRuns_162 9 rfl ?_
  refine xj_iadd C d_Pl_tryRuns_164 ?_
  refine xj_iconst (v := 1) C d_Pl_tryRuns_165 rfl ?_
  refine xj_iload C d_Pl_tryRuns_166 11 rfl ?_
  refine xj_isub C d_Pl_tryRuns_168 ?_
  refine xj_iload C d_Pl_tryRuns_169 8 rfl ?_
  refine xj_aload_n C d_Pl_tryRuns_171 rfl 2 rfl ?_
  refine xj_get C g_Pl_32 4 rfl rfl d_Pl_tryRuns_172 ?_
  refine xj_iload C d_Pl_tryRuns_175 10 rfl ?_
  refine xj_iload C d_Pl_tryRuns_177 0 rfl ?_
  obtain ⟨o9, ho9, hf⟩ := xb_some hf
  refine xj_callVi (rest := [.int x6, .int (1 - x9), .int (o7.1 + x7), .int (x3 &&& (x8 ^^^ (-1))), .int (x2 + 1), .int x1, .ref (ad 4)]) C (c_Fl_waiting N ho9) Y_Fl_waiting i_Pl_102 2 rfl rfl (by simp only [rm_Pl_tryRuns, rm_Fl_waiting]; omega) ⟨rfl, rfl⟩ rfl rfl (Nat.le_of_ble_eq_true rfl) d_Pl_tryRuns_179 (fun q h => Or.inl h) ?_
  refine xj_iadd C d_Pl_tryRuns_182 ?_
  obtain ⟨o10, ho10, hf⟩ := xb_some hf
  refine xj_callVv (rest := []) C (hREC x1 (x2 + 1) (x3 &&& (x8 ^^^ (-1))) (o7.1 + x7) (1 - x9) (x6 + o9.1) o9.2 o10 ho10) Y_Pl_tryRuns i_Pl_53 4 rfl rfl (xroom_rec_Pl_tryRuns dd) ⟨rfl, rfl⟩ rfl rfl (Nat.le_of_ble_eq_true rfl) d_Pl_tryRuns_183 (fun q h => Or.inl h) ?_
  exact xj_lv [2, 3, 4, 5, 6, 7, 8, 9, 10] rfl (w_Pl_tryRuns_186 N C hr hREC hK56 x1 x2 x3 x4 x5 x6 x7 x8 o10 hf)
set_option maxHeartbeats 4000000 in
set_option maxRecDepth 20000 in
theorem wb_Pl_tryRuns_56 {p : Program} {l : Launch} {e : Env} {s : State} {m : MethodId} {args : Array Value} {below : List Frame} {meth : Method} {c : Code} {sz : Nat} {D : va_G} {ad : Nat → Nat} {cI : ClassId} {out : St} {dd : Nat} (N : (LC ad).Nodup) (C : xC p s m args meth c (xA (LC ad) sz) D 12 (tyC cI) b_Pl_tryRuns R_Pl) (hr : meth.sig.returnType = none) {REC : Int32 → Int32 → Int32 → Int32 → Int32 → Int32 → St → Option (St)} (hREC : ∀ (x1 x2 x3 x4 x5 x6 : Int32) (st : St) (o : St), REC x1 x2 x3 x4 x5 x6 st = some o → xMv l y_Pl_tryRuns b_Pl_tryRuns 12 none (rm_Pl_tryRuns dd) D (tyC cI) (WC ad cI) (LC ad) [.ref (ad 4), .int x1, .int x2, .int x3, .int x4, .int x5, .int x6] st o) {K56 : Int32 → Int32 → Int32 → Int32 → Int32 → Int32 → Int32 → Int32 → St → Option (St)} (hK56 : ∀ (x1 x2 x3 x4 x5 x6 x7 x8 : Int32) (st : St), K56 x1 x2 x3 x4 x5 x6 x7 x8 st = some out → j_v p l e (rm_Pl_tryRuns (dd + 1)) s m args below meth c sz D (WC ad cI) (LC ad) out 12 (WC ad cI st) [(0, .ref (ad 4)), (1, .int x1), (2, .int x2), (3, .int x3), (4, .int x4), (5, .int x5), (6, .int x6), (7, .int x7), (8, .int x8)] 56 []) (x1 x2 x3 x4 x5 x6 x7 x8 : Int32) (st : St) (hf : b_Pl_tryRuns_56 REC K56 x1 x2 x3 x4 x5 x6 x7 x8 st = some out) : j_v p l e (rm_Pl_tryRuns (dd + 1)) s m args below meth c sz D (WC ad cI) (LC ad) out 12 (WC ad cI st) [(0, .ref (ad 4)), (1, .int x1), (2, .int x2), (3, .int x3), (4, .int x4), (5, .int x5), (6, .int x6), (7, .int x7), (8, .int x8)] 56 [] := by
  unfold b_Pl_tryRuns_56 at hf
  refine xj_iload C d_Pl_tryRuns_56 8 rfl ?_
  refine xj_bipush (v := 16) C d_Pl_tryRuns_58 rfl ?_
  refine xj_icmp_ge (tgt := 192) C d_Pl_tryRuns_60 (by decide) (fun h9 => ?_) (fun h9 => ?_)
  · have hf := xi_pos h9 hf
    refine xj_aload_n C d_Pl_tryRuns_192 rfl 0 rfl ?_
    refine xj_iload_n C d_Pl_tryRuns_193 rfl 1 rfl ?_
    refine xj_iconst (v := 1) C d_Pl_tryRuns_194 rfl ?_
    refine xj_iadd C d_Pl_tryRuns_195 ?_
    refine xj_iconst (v := 0) C d_Pl_tryRuns_196 rfl ?_
    refine xj_iload_n C d_Pl_tryRuns_197 rfl 3 rfl ?_
    refine xj_iconst (v := 0) C d_Pl_tryRuns_198 rfl ?_
    refine xj_iconst (v := 0) C d_Pl_tryRuns_199 rfl ?_
    refine xj_iload C d_Pl_tryRuns_200 6 rfl ?_
    obtain ⟨o3, ho3, hf⟩ := xb_some hf
    refine xj_callVv (rest := []) C (hREC (x1 + 1) 0 x3 0 0 x6 st o3 ho3) Y_Pl_tryRuns i_Pl_53 4 rfl rfl (xroom_rec_Pl_tryRuns dd) ⟨rfl, rfl⟩ rfl rfl (Nat.le_of_ble_eq_true rfl) d_Pl_tryRuns_202 (fun q h => Or.inl h) ?_
    exact xj_vret C hr hf d_Pl_tryRuns_205
  · have hf := xi_neg h9 hf
    refine xj_iload C d_Pl_tryRuns_63 8 rfl ?_
    refine xj_iload_n C d_Pl_tryRuns_65 rfl 3 rfl ?_
    refine xj_iconst (v := (-1)) C d_Pl_tryRuns_66 rfl ?_
    refine xj_ixor C d_Pl_tryRuns_67 ?_
    refine xj_iand C d_Pl_tryRuns_68 ?_
    refine xj_if_ne (tgt := 186) C d_Pl_tryRuns_69 (by decide) (fun h9 => ?_) (fun h9 => ?_)
    · have hf := xi_neg h9 hf
      exact xj_lv [0, 1, 2, 3, 4, 5, 6, 7, 8] rfl (w_Pl_tryRuns_186 N C hr hREC hK56 x1 x2 x3 x4 x5 x6 x7 x8 st hf)
    · have hf := xi_pos h9 hf
      refine xj_aload_n C d_Pl_tryRuns_72 rfl 0 rfl ?_
      refine xj_iload_n C d_Pl_tryRuns_73 rfl 1 rfl ?_
      refine xj_iload C d_Pl_tryRuns_74 8 rfl ?_
      obtain ⟨o4, ho4, hf⟩ := xb_some hf
      refine xj_callVi (rest := []) C (c_Pl_canRun N ho4) Y_Pl_canRun i_Pl_79 4 rfl rfl (by simp only [rm_Pl_tryRuns, rm_Pl_canRun]; omega) ⟨rfl, rfl⟩ rfl rfl (Nat.le_of_ble_eq_true rfl) d_Pl_tryRuns_76 (fun q h => Or.inl h) ?_
      refine xj_if_eq (tgt := 186) C d_Pl_tryRuns_79 (by decide) (fun h9 => ?_) (fun h9 => ?_)
      · have hf := xi_pos h9 hf
        exact xj_lv [0, 1, 2, 3, 4, 5, 6, 7, 8] rfl (w_Pl_tryRuns_186 N C hr hREC hK56 x1 x2 x3 x4 x5 x6 x7 x8 o4.2 hf)
      · have hf := xi_neg h9 hf
        refine xj_aload_n C d_Pl_tryRuns_82 rfl 0 rfl ?_
        refine xj_get C g_Pl_32 4 rfl rfl d_Pl_tryRuns_83 ?_
        refine xj_iload C d_Pl_tryRuns_86 8 rfl ?_
        obtain ⟨o5, ho5, hf⟩ := xb_some hf
        refine xj_callVi (rest := []) C (c_Fl_commonDirection N ho5) Y_Fl_commonDirection i_Pl_83 2 rfl rfl (by simp only [rm_Pl_tryRuns, rm_Fl_commonDirection]; omega) ⟨rfl, rfl⟩ rfl rfl (Nat.le_of_ble_eq_true rfl) d_Pl_tryRuns_88 (fun q h => Or.inl h) ?_
        refine xj_istore C d_Pl_tryRuns_91 (by decide) rfl ?_
        refine xj_iload C d_Pl_tryRuns_93 6 rfl ?_
        refine xj_iload C d_Pl_tryRuns_95 0 rfl ?_
        refine xj_icmp_ne (tgt := 105) C d_Pl_tryRuns_97 (by decide) (fun h9 => ?_) (fun h9 => ?_)
        · have hf := xi_neg h9 hf
          refine xj_iload C d_Pl_tryRuns_105 5 rfl ?_
          refine xj_iload C d_Pl_tryRuns_107 8 rfl ?_
          refine xj_iadd C d_Pl_tryRuns_109 ?_
          exact xj_lv [1, 2, 3, 4, 5, 6, 7, 8, 9, 0] rfl (w_Pl_tryRuns_110 N C hr hREC hK56 x1 x2 x3 x4 x5 x6 x7 x8 o5.1 (x4 + x7) o5.2 hf)
        · have hf := xi_pos h9 hf
          refine xj_iload C d_Pl_tryRuns_100 5 rfl ?_
          refine xj_goto (tgt := 110) C d_Pl_tryRuns_102 (by decide) ?_
          exact xj_lv [1, 2, 3, 4, 5, 6, 7, 8, 9, 0] rfl (w_Pl_tryRuns_110 N C hr hREC hK56 x1 x2 x3 x4 x5 x6 x7 x8 o5.1 x4 o5.2 hf)
set_option maxHeartbeats 4000000 in
set_option maxRecDepth 20000 in
theorem w_Pl_tryRuns_56 {p : Program} {l : Launch} {e : Env} {s : State} {m : MethodId} {args : Array Value} {below : List Frame} {meth : Method} {c : Code} {sz : Nat} {D : va_G} {ad : Nat → Nat} {cI : ClassId} {out : St} {dd : Nat} (N : (LC ad).Nodup) (C : xC p s m args meth c (xA (LC ad) sz) D 12 (tyC cI) b_Pl_tryRuns R_Pl) (hr : meth.sig.returnType = none) {REC : Int32 → Int32 → Int32 → Int32 → Int32 → Int32 → St → Option (St)} (hREC : ∀ (x1 x2 x3 x4 x5 x6 : Int32) (st : St) (o : St), REC x1 x2 x3 x4 x5 x6 st = some o → xMv l y_Pl_tryRuns b_Pl_tryRuns 12 none (rm_Pl_tryRuns dd) D (tyC cI) (WC ad cI) (LC ad) [.ref (ad 4), .int x1, .int x2, .int x3, .int x4, .int x5, .int x6] st o) (n : Nat) : ∀ (x1 x2 x3 x4 x5 x6 x7 x8 : Int32) (st : St), f_Pl_tryRuns_56 REC n x1 x2 x3 x4 x5 x6 x7 x8 st = some out → j_v p l e (rm_Pl_tryRuns (dd + 1)) s m args below meth c sz D (WC ad cI) (LC ad) out 12 (WC ad cI st) [(0, .ref (ad 4)), (1, .int x1), (2, .int x2), (3, .int x3), (4, .int x4), (5, .int x5), (6, .int x6), (7, .int x7), (8, .int x8)] 56 [] := by
  induction n with
  | zero => intro x1 x2 x3 x4 x5 x6 x7 x8 st hf; exact absurd (show (none : Option (St)) = some out from hf) (fun h => by cases h)
  | succ n ih => intro x1 x2 x3 x4 x5 x6 x7 x8 st hf; exact wb_Pl_tryRuns_56 N C hr hREC ih x1 x2 x3 x4 x5 x6 x7 x8 st hf
set_option maxHeartbeats 4000000 in
set_option maxRecDepth 20000 in
theorem c_Fl_size {l : Launch} {D : va_G} {ad : Nat → Nat} {cI : ClassId} (N : (LC ad).Nodup) {st : St} {out : Int32 × St} (hf : f_Fl_size  st = some out) : xMi l y_Fl_size b_Fl_size 1 (some .int) rm_Fl_size D (tyC cI) (WC ad cI) (LC ad) [.ref (ad 2)] st out := by
  intro sz
  refine xM_of (L := LC ad) (by decide) (Nat.le_of_ble_eq_true rfl) (fun p e s m below meth c hsz hr C => ?_)
  show j_i p l e rm_Fl_size s m _ below meth c sz D (WC ad cI) (LC ad) out 1 (WC ad cI st) [(0, .ref (ad 2))] 0 []
  unfold f_Fl_size at hf
  refine xj_aload_n C d_Fl_size_0 rfl 0 rfl ?_
  refine xj_get C g_Fl_27 2 rfl rfl d_Fl_size_1 ?_
  exact xj_iret C hr hf d_Fl_size_4
set_option maxHeartbeats 4000000 in
set_option maxRecDepth 20000 in
theorem c_Tt_setWaiting_tr {l : Launch} {D : va_G} {ad : Nat → Nat} {cI : ClassId} (N : (LC ad).Nodup) {x1 : Int32} {st : St} {out : St} (hf : f_Tt_setWaiting_tr x1 st = some out) : xMv l y_Tt_setWaiting b_Tt_setWaiting 2 none rm_Tt_setWaiting_tr D (tyC cI) (WC ad cI) (LC ad) [.ref (ad 5), .int x1] st out := by
  intro sz
  refine xM_of (L := LC ad) (by decide) (Nat.le_of_ble_eq_true rfl) (fun p e s m below meth c hsz hr C => ?_)
  show j_v p l e rm_Tt_setWaiting_tr s m _ below meth c sz D (WC ad cI) (LC ad) out 2 (WC ad cI st) [(0, .ref (ad 5)), (1, .int x1)] 0 []
  unfold f_Tt_setWaiting_tr at hf
  refine xj_aload_n C d_Tt_setWaiting_0 rfl 0 rfl ?_
  refine xj_iload_n C d_Tt_setWaiting_1 rfl 1 rfl ?_
  refine xj_put (ws' := WC ad cI (sI st 4 x1)) C g_Tt_21 gw_Tt_waiting (WC_D N sz _) 5 rfl rfl rfl (Nat.le_of_ble_eq_true rfl) d_Tt_setWaiting_2 rfl ?_
  exact xj_vret C hr hf d_Tt_setWaiting_5
set_option maxHeartbeats 4000000 in
set_option maxRecDepth 20000 in
theorem wb_Tt_copyFrom_bs_tr_2 {p : Program} {l : Launch} {e : Env} {s : State} {m : MethodId} {args : Array Value} {below : List Frame} {meth : Method} {c : Code} {sz : Nat} {D : va_G} {ad : Nat → Nat} {cI : ClassId} {out : St} (N : (LC ad).Nodup) (C : xC p s m args meth c (xA (LC ad) sz) D 3 (tyC cI) b_Tt_copyFrom R_Tt) (hr : meth.sig.returnType = none) {K2 : Int32 → St → Option (St)} (hK2 : ∀ (x2 : Int32) (st : St), K2 x2 st = some out → j_v p l e rm_Tt_copyFrom_bs_tr s m args below meth c sz D (WC ad cI) (LC ad) out 3 (WC ad cI st) [(0, .ref (ad 6)), (1, .ref (ad 5)), (2, .int x2)] 2 []) (x2 : Int32) (st : St) (hf : b_Tt_copyFrom_bs_tr_2 K2 x2 st = some out) : j_v p l e rm_Tt_copyFrom_bs_tr s m args below meth c sz D (WC ad cI) (LC ad) out 3 (WC ad cI st) [(0, .ref (ad 6)), (1, .ref (ad 5)), (2, .int x2)] 2 [] := by
  unfold b_Tt_copyFrom_bs_tr_2 at hf
  refine xj_iload_n C d_Tt_copyFrom_2 rfl 2 rfl ?_
  refine xj_iconst (v := 4) C d_Tt_copyFrom_3 rfl ?_
  refine xj_icmp_ge (tgt := 49) C d_Tt_copyFrom_4 (by decide) (fun h9 => ?_) (fun h9 => ?_)
  · have hf := xi_pos h9 hf
    refine xj_aload_n C d_Tt_copyFrom_49 rfl 0 rfl ?_
    refine xj_aload_n C d_Tt_copyFrom_50 rfl 1 rfl ?_
    refine xj_get C g_Tt_21 5 rfl rfl d_Tt_copyFrom_51 ?_
    refine xj_put (ws' := WC ad cI (sI st 5 (st.1 4))) C g_Tt_21 gw_Tt_waiting (WC_D N sz _) 6 rfl rfl rfl (Nat.le_of_ble_eq_true rfl) d_Tt_copyFrom_54 rfl ?_
    exact xj_vret C hr hf d_Tt_copyFrom_57
  · have hf := xi_neg h9 hf
    refine xj_aload_n C d_Tt_copyFrom_7 rfl 0 rfl ?_
    refine xj_get C g_Tt_9 6 rfl rfl d_Tt_copyFrom_8 ?_
    refine xj_iload_n C d_Tt_copyFrom_11 rfl 2 rfl ?_
    refine xj_aload_n C d_Tt_copyFrom_12 rfl 1 rfl ?_
    refine xj_get C g_Tt_9 5 rfl rfl d_Tt_copyFrom_13 ?_
    refine xj_iload_n C d_Tt_copyFrom_16 rfl 2 rfl ?_
    obtain ⟨g1, hf⟩ := xb_guard hf
    refine xj_iald C 22 0 rfl rfl g1 d_Tt_copyFrom_17 ?_
    obtain ⟨g2, hf⟩ := xb_guard hf
    refine xj_iast (ws' := WC ad cI (sA st 17 x2.toNatClampNeg (st.2 14 x2.toNatClampNeg))) C (WC_D N sz _) 25 0 rfl rfl g2 d_Tt_copyFrom_18 rfl ?_
    refine xj_aload_n C d_Tt_copyFrom_19 rfl 0 rfl ?_
    refine xj_get C g_Tt_15 6 rfl rfl d_Tt_copyFrom_20 ?_
    refine xj_iload_n C d_Tt_copyFrom_23 rfl 2 rfl ?_
    refine xj_aload_n C d_Tt_copyFrom_24 rfl 1 rfl ?_
    refine xj_get C g_Tt_15 5 rfl rfl d_Tt_copyFrom_25 ?_
    refine xj_iload_n C d_Tt_copyFrom_28 rfl 2 rfl ?_
    obtain ⟨g3, hf⟩ := xb_guard hf
    refine xj_iald C 23 0 rfl rfl g3 d_Tt_copyFrom_29 ?_
    obtain ⟨g4, hf⟩ := xb_guard hf
    refine xj_iast (ws' := WC ad cI (sA (sA st 17 x2.toNatClampNeg (st.2 14 x2.toNatClampNeg)) 18 x2.toNatClampNeg ((sA st 17 x2.toNatClampNeg (st.2 14 x2.toNatClampNeg)).2 15 x2.toNatClampNeg))) C (WC_D N sz _) 26 0 rfl rfl g4 d_Tt_copyFrom_30 rfl ?_
    refine xj_aload_n C d_Tt_copyFrom_31 rfl 0 rfl ?_
    refine xj_get C g_Tt_18 6 rfl rfl d_Tt_copyFrom_32 ?_
    refine xj_iload_n C d_Tt_copyFrom_35 rfl 2 rfl ?_
    refine xj_aload_n C d_Tt_copyFrom_36 rfl 1 rfl ?_
    refine xj_get C g_Tt_18 5 rfl rfl d_Tt_copyFrom_37 ?_
    refine xj_iload_n C d_Tt_copyFrom_40 rfl 2 rfl ?_
    obtain ⟨g5, hf⟩ := xb_guard hf
    refine xj_iald C 24 0 rfl rfl g5 d_Tt_copyFrom_41 ?_
    obtain ⟨g6, hf⟩ := xb_guard hf
    refine xj_iast (ws' := WC ad cI (sA (sA (sA st 17 x2.toNatClampNeg (st.2 14 x2.toNatClampNeg)) 18 x2.toNatClampNeg ((sA st 17 x2.toNatClampNeg (st.2 14 x2.toNatClampNeg)).2 15 x2.toNatClampNeg)) 19 x2.toNatClampNeg ((sA (sA st 17 x2.toNatClampNeg (st.2 14 x2.toNatClampNeg)) 18 x2.toNatClampNeg ((sA st 17 x2.toNatClampNeg (st.2 14 x2.toNatClampNeg)).2 15 x2.toNatClampNeg)).2 16 x2.toNatClampNeg))) C (WC_D N sz _) 27 0 rfl rfl g6 d_Tt_copyFrom_42 rfl ?_
    refine xj_iinc (v := x2 + 1) (j := 2) C d_Tt_copyFrom_43 rfl rfl (by decide) rfl ?_
    refine xj_goto (tgt := 2) C d_Tt_copyFrom_46 (by decide) ?_
    exact xj_lv [1, 2, 0] rfl (hK2 (x2 + 1) (sA (sA (sA st 17 x2.toNatClampNeg (st.2 14 x2.toNatClampNeg)) 18 x2.toNatClampNeg ((sA st 17 x2.toNatClampNeg (st.2 14 x2.toNatClampNeg)).2 15 x2.toNatClampNeg)) 19 x2.toNatClampNeg ((sA (sA st 17 x2.toNatClampNeg (st.2 14 x2.toNatClampNeg)) 18 x2.toNatClampNeg ((sA st 17 x2.toNatClampNeg (st.2 14 x2.toNatClampNeg)).2 15 x2.toNatClampNeg)).2 16 x2.toNatClampNeg)) hf)
set_option maxHeartbeats 4000000 in
set_option maxRecDepth 20000 in
theorem w_Tt_copyFrom_bs_tr_2 {p : Program} {l : Launch} {e : Env} {s : State} {m : MethodId} {args : Array Value} {below : List Frame} {meth : Method} {c : Code} {sz : Nat} {D : va_G} {ad : Nat → Nat} {cI : ClassId} {out : St} (N : (LC ad).Nodup) (C : xC p s m args meth c (xA (LC ad) sz) D 3 (tyC cI) b_Tt_copyFrom R_Tt) (hr : meth.sig.returnType = none) (n : Nat) : ∀ (x2 : Int32) (st : St), f_Tt_copyFrom_bs_tr_2 n x2 st = some out → j_v p l e rm_Tt_copyFrom_bs_tr s m args below meth c sz D (WC ad cI) (LC ad) out 3 (WC ad cI st) [(0, .ref (ad 6)), (1, .ref (ad 5)), (2, .int x2)] 2 [] := by
  induction n with
  | zero => intro x2 st hf; exact absurd (show (none : Option (St)) = some out from hf) (fun h => by cases h)
  | succ n ih => intro x2 st hf; exact wb_Tt_copyFrom_bs_tr_2 N C hr ih x2 st hf
set_option maxHeartbeats 4000000 in
set_option maxRecDepth 20000 in
theorem c_Tt_copyFrom_bs_tr {l : Launch} {D : va_G} {ad : Nat → Nat} {cI : ClassId} (N : (LC ad).Nodup) {st : St} {out : St} (hf : f_Tt_copyFrom_bs_tr  st = some out) : xMv l y_Tt_copyFrom b_Tt_copyFrom 3 none rm_Tt_copyFrom_bs_tr D (tyC cI) (WC ad cI) (LC ad) [.ref (ad 6), .ref (ad 5)] st out := by
  intro sz
  refine xM_of (L := LC ad) (by decide) (Nat.le_of_ble_eq_true rfl) (fun p e s m below meth c hsz hr C => ?_)
  show j_v p l e rm_Tt_copyFrom_bs_tr s m _ below meth c sz D (WC ad cI) (LC ad) out 3 (WC ad cI st) [(0, .ref (ad 6)), (1, .ref (ad 5))] 0 []
  unfold f_Tt_copyFrom_bs_tr at hf
  refine xj_iconst (v := 0) C d_Tt_copyFrom_0 rfl ?_
  refine xj_istore_n C d_Tt_copyFrom_1 rfl (by decide) rfl ?_
  exact xj_lv [1, 2, 0] rfl (w_Tt_copyFrom_bs_tr_2 N C hr 40 0 st hf)
set_option maxHeartbeats 4000000 in
set_option maxRecDepth 20000 in
theorem w_Pl_offerTrial_72 {p : Program} {l : Launch} {e : Env} {s : State} {m : MethodId} {args : Array Value} {below : List Frame} {meth : Method} {c : Code} {sz : Nat} {D : va_G} {ad : Nat → Nat} {cI : ClassId} {out : St} (N : (LC ad).Nodup) (C : xC p s m args meth c (xA (LC ad) sz) D 3 (tyC cI) b_Pl_offerTrial R_Pl) (hr : meth.sig.returnType = none) (st : St) (hf : f_Pl_offerTrial_72  st = some out) : j_v p l e rm_Pl_offerTrial s m args below meth c sz D (WC ad cI) (LC ad) out 3 (WC ad cI st) [(0, .ref (ad 4))] 72 [] := by
  unfold f_Pl_offerTrial_72 at hf
  refine xj_aload_n C d_Pl_offerTrial_72 rfl 0 rfl ?_
  refine xj_get C g_Pl_18 4 rfl rfl d_Pl_offerTrial_73 ?_
  refine xj_aload_n C d_Pl_offerTrial_76 rfl 0 rfl ?_
  refine xj_get C g_Pl_12 4 rfl rfl d_Pl_offerTrial_77 ?_
  obtain ⟨o3, ho3, hf⟩ := xb_some hf
  refine xj_callVv (rest := []) C (c_Tt_copyFrom_bs_tr N ho3) Y_Tt_copyFrom i_Pl_57 6 rfl rfl (by decide) ⟨rfl, rfl⟩ rfl rfl (Nat.le_of_ble_eq_true rfl) d_Pl_offerTrial_80 (fun q h => Or.inl h) ?_
  refine xj_aload_n C d_Pl_offerTrial_83 rfl 0 rfl ?_
  refine xj_iconst (v := 1) C d_Pl_offerTrial_84 rfl ?_
  refine xj_put (ws' := WC ad cI (sI o3 7 1)) C g_Pl_40 gw_Pl_planned (WC_D N sz _) 4 rfl rfl rfl (Nat.le_of_ble_eq_true rfl) d_Pl_offerTrial_85 rfl ?_
  exact xj_vret C hr hf d_Pl_offerTrial_88
set_option maxHeartbeats 4000000 in
set_option maxRecDepth 20000 in
theorem w_Tt_isAheadOf_tr_bs_103 {p : Program} {l : Launch} {e : Env} {s : State} {m : MethodId} {args : Array Value} {below : List Frame} {meth : Method} {c : Code} {sz : Nat} {D : va_G} {ad : Nat → Nat} {cI : ClassId} {out : Int32 × St} (N : (LC ad).Nodup) (C : xC p s m args meth c (xA (LC ad) sz) D 4 (tyC cI) b_Tt_isAheadOf R_Tt) (hr : meth.sig.returnType = (some .boolean)) {K30 : Int32 → Int32 → St → Option (Int32 × St)} (hK30 : ∀ (x2 x3 : Int32) (st : St), K30 x2 x3 st = some out → j_i p l e rm_Tt_isAheadOf_tr_bs s m args below meth c sz D (WC ad cI) (LC ad) out 4 (WC ad cI st) [(0, .ref (ad 5)), (1, .ref (ad 6)), (2, .int x2), (3, .int x3)] 30 []) (x2 x3 : Int32) (st : St) (hf : f_Tt_isAheadOf_tr_bs_103 K30 x2 x3 st = some out) : j_i p l e rm_Tt_isAheadOf_tr_bs s m args below meth c sz D (WC ad cI) (LC ad) out 4 (WC ad cI st) [(0, .ref (ad 5)), (1, .ref (ad 6)), (2, .int x2), (3, .int x3)] 103 [] := by
  unfold f_Tt_isAheadOf_tr_bs_103 at hf
  refine xj_iinc (v := x3 + 1) (j := 3) C d_Tt_isAheadOf_103 rfl rfl (by decide) rfl ?_
  refine xj_goto (tgt := 30) C d_Tt_isAheadOf_106 (by decide) ?_
  exact xj_lv [1, 2, 3, 0] rfl (hK30 x2 (x3 + 1) st hf)
end
section
set_option maxHeartbeats 4000000 in
set_option maxRecDepth 20000 in
theorem c_Tt_begin_tr {l : Launch} {D : va_G} {ad : Nat → Nat} {cI : ClassId} (N : (LC ad).Nodup) {x1 : Int32} {st : St} {out : Int32 × St} (hf : f_Tt_begin_tr x1 st = some out) : xMi l y_Tt_begin b_Tt_begin 2 (some .int) rm_Tt_begin_tr D (tyC cI) (WC ad cI) (LC ad) [.ref (ad 5), .int x1] st out := by
  intro sz
  refine xM_of (L := LC ad) (by decide) (Nat.le_of_ble_eq_true rfl) (fun p e s m below meth c hsz hr C => ?_)
  show j_i p l e rm_Tt_begin_tr s m _ below meth c sz D (WC ad cI) (LC ad) out 2 (WC ad cI st) [(0, .ref (ad 5)), (1, .int x1)] 0 []
  unfold f_Tt_begin_tr at hf
  refine xj_iload_n C d_Tt_begin_0 rfl 1 rfl ?_
  refine xj_if_lt (tgt := 18) C d_Tt_begin_1 (by decide) (fun h9 => ?_) (fun h9 => ?_)
  · have hf := xi_pos h9 hf
    refine xj_iconst (v := (-1)) C d_Tt_begin_18 rfl ?_
    exact xj_iret C hr hf d_Tt_begin_19
  · have hf := xi_neg h9 hf
    refine xj_iload_n C d_Tt_begin_4 rfl 1 rfl ?_
    refine xj_iconst (v := 4) C d_Tt_begin_5 rfl ?_
    refine xj_icmp_ge (tgt := 18) C d_Tt_begin_6 (by decide) (fun h9 => ?_) (fun h9 => ?_)
    · have hf := xi_pos h9 hf
      refine xj_iconst (v := (-1)) C d_Tt_begin_18 rfl ?_
      exact xj_iret C hr hf d_Tt_begin_19
    · have hf := xi_neg h9 hf
      refine xj_aload_n C d_Tt_begin_9 rfl 0 rfl ?_
      refine xj_get C g_Tt_9 5 rfl rfl d_Tt_begin_10 ?_
      refine xj_iload_n C d_Tt_begin_13 rfl 1 rfl ?_
      obtain ⟨g1, hf⟩ := xb_guard hf
      refine xj_iald C 22 0 rfl rfl g1 d_Tt_begin_14 ?_
      refine xj_goto (tgt := 19) C d_Tt_begin_15 (by decide) ?_
      exact xj_iret C hr hf d_Tt_begin_19
set_option maxHeartbeats 4000000 in
set_option maxRecDepth 20000 in
theorem c_Tt_begin_bs {l : Launch} {D : va_G} {ad : Nat → Nat} {cI : ClassId} (N : (LC ad).Nodup) {x1 : Int32} {st : St} {out : Int32 × St} (hf : f_Tt_begin_bs x1 st = some out) : xMi l y_Tt_begin b_Tt_begin 2 (some .int) rm_Tt_begin_bs D (tyC cI) (WC ad cI) (LC ad) [.ref (ad 6), .int x1] st out := by
  intro sz
  refine xM_of (L := LC ad) (by decide) (Nat.le_of_ble_eq_true rfl) (fun p e s m below meth c hsz hr C => ?_)
  show j_i p l e rm_Tt_begin_bs s m _ below meth c sz D (WC ad cI) (LC ad) out 2 (WC ad cI st) [(0, .ref (ad 6)), (1, .int x1)] 0 []
  unfold f_Tt_begin_bs at hf
  refine xj_iload_n C d_Tt_begin_0 rfl 1 rfl ?_
  refine xj_if_lt (tgt := 18) C d_Tt_begin_1 (by decide) (fun h9 => ?_) (fun h9 => ?_)
  · have hf := xi_pos h9 hf
    refine xj_iconst (v := (-1)) C d_Tt_begin_18 rfl ?_
    exact xj_iret C hr hf d_Tt_begin_19
  · have hf := xi_neg h9 hf
    refine xj_iload_n C d_Tt_begin_4 rfl 1 rfl ?_
    refine xj_iconst (v := 4) C d_Tt_begin_5 rfl ?_
    refine xj_icmp_ge (tgt := 18) C d_Tt_begin_6 (by decide) (fun h9 => ?_) (fun h9 => ?_)
    · have hf := xi_pos h9 hf
      refine xj_iconst (v := (-1)) C d_Tt_begin_18 rfl ?_
      exact xj_iret C hr hf d_Tt_begin_19
    · have hf := xi_neg h9 hf
      refine xj_aload_n C d_Tt_begin_9 rfl 0 rfl ?_
      refine xj_get C g_Tt_9 6 rfl rfl d_Tt_begin_10 ?_
      refine xj_iload_n C d_Tt_begin_13 rfl 1 rfl ?_
      obtain ⟨g1, hf⟩ := xb_guard hf
      refine xj_iald C 25 0 rfl rfl g1 d_Tt_begin_14 ?_
      refine xj_goto (tgt := 19) C d_Tt_begin_15 (by decide) ?_
      exact xj_iret C hr hf d_Tt_begin_19
set_option maxHeartbeats 4000000 in
set_option maxRecDepth 20000 in
theorem w_Tt_differs_tr_bs_26 {p : Program} {l : Launch} {e : Env} {s : State} {m : MethodId} {args : Array Value} {below : List Frame} {meth : Method} {c : Code} {sz : Nat} {D : va_G} {ad : Nat → Nat} {cI : ClassId} {out : Int32 × St} (N : (LC ad).Nodup) (C : xC p s m args meth c (xA (LC ad) sz) D 3 (tyC cI) b_Tt_differs R_Tt) (hr : meth.sig.returnType = (some .boolean)) (st : St) (hf : f_Tt_differs_tr_bs_26  st = some out) : j_i p l e rm_Tt_differs_tr_bs s m args below meth c sz D (WC ad cI) (LC ad) out 3 (WC ad cI st) [] 26 [] := by
  unfold f_Tt_differs_tr_bs_26 at hf
  refine xj_iconst (v := 1) C d_Tt_differs_26 rfl ?_
  refine xj_goto (tgt := 31) C d_Tt_differs_27 (by decide) ?_
  exact xj_zret C hr rfl hf d_Tt_differs_31
set_option maxHeartbeats 4000000 in
set_option maxRecDepth 20000 in
theorem c_Tt_chamberOf_tr {l : Launch} {D : va_G} {ad : Nat → Nat} {cI : ClassId} (N : (LC ad).Nodup) {x1 : Int32} {st : St} {out : Int32 × St} (hf : f_Tt_chamberOf_tr x1 st = some out) : xMi l y_Tt_chamberOf b_Tt_chamberOf 2 (some .int) rm_Tt_chamberOf_tr D (tyC cI) (WC ad cI) (LC ad) [.ref (ad 5), .int x1] st out := by
  intro sz
  refine xM_of (L := LC ad) (by decide) (Nat.le_of_ble_eq_true rfl) (fun p e s m below meth c hsz hr C => ?_)
  show j_i p l e rm_Tt_chamberOf_tr s m _ below meth c sz D (WC ad cI) (LC ad) out 2 (WC ad cI st) [(0, .ref (ad 5)), (1, .int x1)] 0 []
  unfold f_Tt_chamberOf_tr at hf
  refine xj_iload_n C d_Tt_chamberOf_0 rfl 1 rfl ?_
  refine xj_if_lt (tgt := 18) C d_Tt_chamberOf_1 (by decide) (fun h9 => ?_) (fun h9 => ?_)
  · have hf := xi_pos h9 hf
    refine xj_iconst (v := (-1)) C d_Tt_chamberOf_18 rfl ?_
    exact xj_iret C hr hf d_Tt_chamberOf_19
  · have hf := xi_neg h9 hf
    refine xj_iload_n C d_Tt_chamberOf_4 rfl 1 rfl ?_
    refine xj_iconst (v := 4) C d_Tt_chamberOf_5 rfl ?_
    refine xj_icmp_ge (tgt := 18) C d_Tt_chamberOf_6 (by decide) (fun h9 => ?_) (fun h9 => ?_)
    · have hf := xi_pos h9 hf
      refine xj_iconst (v := (-1)) C d_Tt_chamberOf_18 rfl ?_
      exact xj_iret C hr hf d_Tt_chamberOf_19
    · have hf := xi_neg h9 hf
      refine xj_aload_n C d_Tt_chamberOf_9 rfl 0 rfl ?_
      refine xj_get C g_Tt_15 5 rfl rfl d_Tt_chamberOf_10 ?_
      refine xj_iload_n C d_Tt_chamberOf_13 rfl 1 rfl ?_
      obtain ⟨g1, hf⟩ := xb_guard hf
      refine xj_iald C 23 0 rfl rfl g1 d_Tt_chamberOf_14 ?_
      refine xj_goto (tgt := 19) C d_Tt_chamberOf_15 (by decide) ?_
      exact xj_iret C hr hf d_Tt_chamberOf_19
set_option maxHeartbeats 4000000 in
set_option maxRecDepth 20000 in
theorem c_Tt_chamberOf_bs {l : Launch} {D : va_G} {ad : Nat → Nat} {cI : ClassId} (N : (LC ad).Nodup) {x1 : Int32} {st : St} {out : Int32 × St} (hf : f_Tt_chamberOf_bs x1 st = some out) : xMi l y_Tt_chamberOf b_Tt_chamberOf 2 (some .int) rm_Tt_chamberOf_bs D (tyC cI) (WC ad cI) (LC ad) [.ref (ad 6), .int x1] st out := by
  intro sz
  refine xM_of (L := LC ad) (by decide) (Nat.le_of_ble_eq_true rfl) (fun p e s m below meth c hsz hr C => ?_)
  show j_i p l e rm_Tt_chamberOf_bs s m _ below meth c sz D (WC ad cI) (LC ad) out 2 (WC ad cI st) [(0, .ref (ad 6)), (1, .int x1)] 0 []
  unfold f_Tt_chamberOf_bs at hf
  refine xj_iload_n C d_Tt_chamberOf_0 rfl 1 rfl ?_
  refine xj_if_lt (tgt := 18) C d_Tt_chamberOf_1 (by decide) (fun h9 => ?_) (fun h9 => ?_)
  · have hf := xi_pos h9 hf
    refine xj_iconst (v := (-1)) C d_Tt_chamberOf_18 rfl ?_
    exact xj_iret C hr hf d_Tt_chamberOf_19
  · have hf := xi_neg h9 hf
    refine xj_iload_n C d_Tt_chamberOf_4 rfl 1 rfl ?_
    refine xj_iconst (v := 4) C d_Tt_chamberOf_5 rfl ?_
    refine xj_icmp_ge (tgt := 18) C d_Tt_chamberOf_6 (by decide) (fun h9 => ?_) (fun h9 => ?_)
    · have hf := xi_pos h9 hf
      refine xj_iconst (v := (-1)) C d_Tt_chamberOf_18 rfl ?_
      exact xj_iret C hr hf d_Tt_chamberOf_19
    · have hf := xi_neg h9 hf
      refine xj_aload_n C d_Tt_chamberOf_9 rfl 0 rfl ?_
      refine xj_get C g_Tt_15 6 rfl rfl d_Tt_chamberOf_10 ?_
      refine xj_iload_n C d_Tt_chamberOf_13 rfl 1 rfl ?_
      obtain ⟨g1, hf⟩ := xb_guard hf
      refine xj_iald C 26 0 rfl rfl g1 d_Tt_chamberOf_14 ?_
      refine xj_goto (tgt := 19) C d_Tt_chamberOf_15 (by decide) ?_
      exact xj_iret C hr hf d_Tt_chamberOf_19
set_option maxHeartbeats 4000000 in
set_option maxRecDepth 20000 in
theorem c_Tt_differs_tr_bs {l : Launch} {D : va_G} {ad : Nat → Nat} {cI : ClassId} (N : (LC ad).Nodup) {x2 : Int32} {st : St} {out : Int32 × St} (hf : f_Tt_differs_tr_bs x2 st = some out) : xMi l y_Tt_differs b_Tt_differs 3 (some .boolean) rm_Tt_differs_tr_bs D (tyC cI) (WC ad cI) (LC ad) [.ref (ad 5), .ref (ad 6), .int x2] st out := by
  intro sz
  refine xM_of (L := LC ad) (by decide) (Nat.le_of_ble_eq_true rfl) (fun p e s m below meth c hsz hr C => ?_)
  show j_i p l e rm_Tt_differs_tr_bs s m _ below meth c sz D (WC ad cI) (LC ad) out 3 (WC ad cI st) [(0, .ref (ad 5)), (1, .ref (ad 6)), (2, .int x2)] 0 []
  unfold f_Tt_differs_tr_bs at hf
  refine xj_aload_n C d_Tt_differs_0 rfl 0 rfl ?_
  refine xj_iload_n C d_Tt_differs_1 rfl 2 rfl ?_
  obtain ⟨o1, ho1, hf⟩ := xb_some hf
  refine xj_callVi (rest := []) C (c_Tt_begin_tr N ho1) Y_Tt_begin i_Tt_33 5 rfl rfl (by decide) ⟨rfl, rfl⟩ rfl rfl (Nat.le_of_ble_eq_true rfl) d_Tt_differs_2 (fun q h => Or.inl h) ?_
  refine xj_aload_n C d_Tt_differs_5 rfl 1 rfl ?_
  refine xj_iload_n C d_Tt_differs_6 rfl 2 rfl ?_
  obtain ⟨o2, ho2, hf⟩ := xb_some hf
  refine xj_callVi (rest := [.int o1.1]) C (c_Tt_begin_bs N ho2) Y_Tt_begin i_Tt_33 6 rfl rfl (by decide) ⟨rfl, rfl⟩ rfl rfl (Nat.le_of_ble_eq_true rfl) d_Tt_differs_7 (fun q h => Or.inl h) ?_
  refine xj_icmp_ne (tgt := 26) C d_Tt_differs_10 (by decide) (fun h9 => ?_) (fun h9 => ?_)
  · have hf := xi_neg h9 hf
    exact xj_lv [] rfl (w_Tt_differs_tr_bs_26 N C hr o2.2 hf)
  · have hf := xi_pos h9 hf
    refine xj_aload_n C d_Tt_differs_13 rfl 0 rfl ?_
    refine xj_iload_n C d_Tt_differs_14 rfl 2 rfl ?_
    obtain ⟨o3, ho3, hf⟩ := xb_some hf
    refine xj_callVi (rest := []) C (c_Tt_chamberOf_tr N ho3) Y_Tt_chamberOf i_Tt_37 5 rfl rfl (by decide) ⟨rfl, rfl⟩ rfl rfl (Nat.le_of_ble_eq_true rfl) d_Tt_differs_15 (fun q h => Or.inl h) ?_
    refine xj_aload_n C d_Tt_differs_18 rfl 1 rfl ?_
    refine xj_iload_n C d_Tt_differs_19 rfl 2 rfl ?_
    obtain ⟨o4, ho4, hf⟩ := xb_some hf
    refine xj_callVi (rest := [.int o3.1]) C (c_Tt_chamberOf_bs N ho4) Y_Tt_chamberOf i_Tt_37 6 rfl rfl (by decide) ⟨rfl, rfl⟩ rfl rfl (Nat.le_of_ble_eq_true rfl) d_Tt_differs_20 (fun q h => Or.inl h) ?_
    refine xj_icmp_eq (tgt := 30) C d_Tt_differs_23 (by decide) (fun h9 => ?_) (fun h9 => ?_)
    · have hf := xi_pos h9 hf
      refine xj_iconst (v := 0) C d_Tt_differs_30 rfl ?_
      exact xj_zret C hr rfl hf d_Tt_differs_31
    · have hf := xi_neg h9 hf
      exact xj_lv [] rfl (w_Tt_differs_tr_bs_26 N C hr o4.2 hf)
set_option maxHeartbeats 4000000 in
set_option maxRecDepth 20000 in
theorem w_Tt_isAheadOf_tr_bs_97 {p : Program} {l : Launch} {e : Env} {s : State} {m : MethodId} {args : Array Value} {below : List Frame} {meth : Method} {c : Code} {sz : Nat} {D : va_G} {ad : Nat → Nat} {cI : ClassId} {out : Int32 × St} (N : (LC ad).Nodup) (C : xC p s m args meth c (xA (LC ad) sz) D 4 (tyC cI) b_Tt_isAheadOf R_Tt) (hr : meth.sig.returnType = (some .boolean)) (st : St) (hf : f_Tt_isAheadOf_tr_bs_97  st = some out) : j_i p l e rm_Tt_isAheadOf_tr_bs s m args below meth c sz D (WC ad cI) (LC ad) out 4 (WC ad cI st) [] 97 [] := by
  unfold f_Tt_isAheadOf_tr_bs_97 at hf
  refine xj_iconst (v := 1) C d_Tt_isAheadOf_97 rfl ?_
  refine xj_goto (tgt := 102) C d_Tt_isAheadOf_98 (by decide) ?_
  exact xj_zret C hr rfl hf d_Tt_isAheadOf_102
set_option maxHeartbeats 4000000 in
set_option maxRecDepth 20000 in
theorem wb_Tt_isAheadOf_tr_bs_30 {p : Program} {l : Launch} {e : Env} {s : State} {m : MethodId} {args : Array Value} {below : List Frame} {meth : Method} {c : Code} {sz : Nat} {D : va_G} {ad : Nat → Nat} {cI : ClassId} {out : Int32 × St} (N : (LC ad).Nodup) (C : xC p s m args meth c (xA (LC ad) sz) D 4 (tyC cI) b_Tt_isAheadOf R_Tt) (hr : meth.sig.returnType = (some .boolean)) {K30 : Int32 → Int32 → St → Option (Int32 × St)} (hK30 : ∀ (x2 x3 : Int32) (st : St), K30 x2 x3 st = some out → j_i p l e rm_Tt_isAheadOf_tr_bs s m args below meth c sz D (WC ad cI) (LC ad) out 4 (WC ad cI st) [(0, .ref (ad 5)), (1, .ref (ad 6)), (2, .int x2), (3, .int x3)] 30 []) (x2 x3 : Int32) (st : St) (hf : b_Tt_isAheadOf_tr_bs_30 K30 x2 x3 st = some out) : j_i p l e rm_Tt_isAheadOf_tr_bs s m args below meth c sz D (WC ad cI) (LC ad) out 4 (WC ad cI st) [(0, .ref (ad 5)), (1, .ref (ad 6)), (2, .int x2), (3, .int x3)] 30 [] := by
  unfold b_Tt_isAheadOf_tr_bs_30 at hf
  refine xj_iload_n C d_Tt_isAheadOf_30 rfl 3 rfl ?_
  refine xj_iconst (v := 4) C d_Tt_isAheadOf_31 rfl ?_
  refine xj_icmp_ge (tgt := 109) C d_Tt_isAheadOf_32 (by decide) (fun h9 => ?_) (fun h9 => ?_)
  · have hf := xi_pos h9 hf
    refine xj_iconst (v := 0) C d_Tt_isAheadOf_109 rfl ?_
    exact xj_zret C hr rfl hf d_Tt_isAheadOf_110
  · have hf := xi_neg h9 hf
    refine xj_iload_n C d_Tt_isAheadOf_35 rfl 2 rfl ?_
    refine xj_iload_n C d_Tt_isAheadOf_36 rfl 3 rfl ?_
    obtain ⟨o1, ho1, hf⟩ := xb_some hf
    refine xj_callSNi (rest := []) C (c_LR_holds N ho1) Y_LR_holds i_Tt_25 (by decide) ⟨rfl, rfl⟩ rfl rfl (Nat.le_of_ble_eq_true rfl) d_Tt_isAheadOf_37 (fun q h => Or.inl h) ?_
    refine xj_if_eq (tgt := 103) C d_Tt_isAheadOf_40 (by decide) (fun h9 => ?_) (fun h9 => ?_)
    · have hf := xi_pos h9 hf
      exact xj_lv [0, 1, 2, 3] rfl (w_Tt_isAheadOf_tr_bs_103 N C hr hK30 x2 x3 o1.2 hf)
    · have hf := xi_neg h9 hf
      refine xj_aload_n C d_Tt_isAheadOf_43 rfl 0 rfl ?_
      refine xj_aload_n C d_Tt_isAheadOf_44 rfl 1 rfl ?_
      refine xj_iload_n C d_Tt_isAheadOf_45 rfl 3 rfl ?_
      obtain ⟨o2, ho2, hf⟩ := xb_some hf
      refine xj_callVi (rest := []) C (c_Tt_differs_tr_bs N ho2) Y_Tt_differs i_Tt_29 5 rfl rfl (by decide) ⟨rfl, rfl⟩ rfl rfl (Nat.le_of_ble_eq_true rfl) d_Tt_isAheadOf_46 (fun q h => Or.inl h) ?_
      refine xj_if_eq (tgt := 103) C d_Tt_isAheadOf_49 (by decide) (fun h9 => ?_) (fun h9 => ?_)
      · have hf := xi_pos h9 hf
        exact xj_lv [0, 1, 2, 3] rfl (w_Tt_isAheadOf_tr_bs_103 N C hr hK30 x2 x3 o2.2 hf)
      · have hf := xi_neg h9 hf
        refine xj_aload_n C d_Tt_isAheadOf_52 rfl 0 rfl ?_
        refine xj_get C g_Tt_9 5 rfl rfl d_Tt_isAheadOf_53 ?_
        refine xj_iload_n C d_Tt_isAheadOf_56 rfl 3 rfl ?_
        obtain ⟨g3, hf⟩ := xb_guard hf
        refine xj_iald C 22 0 rfl rfl g3 d_Tt_isAheadOf_57 ?_
        refine xj_aload_n C d_Tt_isAheadOf_58 rfl 1 rfl ?_
        refine xj_get C g_Tt_9 6 rfl rfl d_Tt_isAheadOf_59 ?_
        refine xj_iload_n C d_Tt_isAheadOf_62 rfl 3 rfl ?_
        obtain ⟨g4, hf⟩ := xb_guard hf
        refine xj_iald C 25 0 rfl rfl g4 d_Tt_isAheadOf_63 ?_
        refine xj_icmp_lt (tgt := 97) C d_Tt_isAheadOf_64 (by decide) (fun h9 => ?_) (fun h9 => ?_)
        · have hf := xi_pos h9 hf
          exact xj_lv [] rfl (w_Tt_isAheadOf_tr_bs_97 N C hr o2.2 hf)
        · have hf := xi_neg h9 hf
          refine xj_aload_n C d_Tt_isAheadOf_67 rfl 0 rfl ?_
          refine xj_get C g_Tt_9 5 rfl rfl d_Tt_isAheadOf_68 ?_
          refine xj_iload_n C d_Tt_isAheadOf_71 rfl 3 rfl ?_
          obtain ⟨g5, hf⟩ := xb_guard hf
          refine xj_iald C 22 0 rfl rfl g5 d_Tt_isAheadOf_72 ?_
          refine xj_aload_n C d_Tt_isAheadOf_73 rfl 1 rfl ?_
          refine xj_get C g_Tt_9 6 rfl rfl d_Tt_isAheadOf_74 ?_
          refine xj_iload_n C d_Tt_isAheadOf_77 rfl 3 rfl ?_
          obtain ⟨g6, hf⟩ := xb_guard hf
          refine xj_iald C 25 0 rfl rfl g6 d_Tt_isAheadOf_78 ?_
          refine xj_icmp_ne (tgt := 101) C d_Tt_isAheadOf_79 (by decide) (fun h9 => ?_) (fun h9 => ?_)
          · have hf := xi_neg h9 hf
            refine xj_iconst (v := 0) C d_Tt_isAheadOf_101 rfl ?_
            exact xj_zret C hr rfl hf d_Tt_isAheadOf_102
          · have hf := xi_pos h9 hf
            refine xj_aload_n C d_Tt_isAheadOf_82 rfl 0 rfl ?_
            refine xj_get C g_Tt_15 5 rfl rfl d_Tt_isAheadOf_83 ?_
            refine xj_iload_n C d_Tt_isAheadOf_86 rfl 3 rfl ?_
            obtain ⟨g7, hf⟩ := xb_guard hf
            refine xj_iald C 23 0 rfl rfl g7 d_Tt_isAheadOf_87 ?_
            refine xj_aload_n C d_Tt_isAheadOf_88 rfl 1 rfl ?_
            refine xj_get C g_Tt_15 6 rfl rfl d_Tt_isAheadOf_89 ?_
            refine xj_iload_n C d_Tt_isAheadOf_92 rfl 3 rfl ?_
            obtain ⟨g8, hf⟩ := xb_guard hf
            refine xj_iald C 26 0 rfl rfl g8 d_Tt_isAheadOf_93 ?_
            refine xj_icmp_ge (tgt := 101) C d_Tt_isAheadOf_94 (by decide) (fun h9 => ?_) (fun h9 => ?_)
            · have hf := xi_pos h9 hf
              refine xj_iconst (v := 0) C d_Tt_isAheadOf_101 rfl ?_
              exact xj_zret C hr rfl hf d_Tt_isAheadOf_102
            · have hf := xi_neg h9 hf
              exact xj_lv [] rfl (w_Tt_isAheadOf_tr_bs_97 N C hr o2.2 hf)
set_option maxHeartbeats 4000000 in
set_option maxRecDepth 20000 in
theorem w_Tt_isAheadOf_tr_bs_30 {p : Program} {l : Launch} {e : Env} {s : State} {m : MethodId} {args : Array Value} {below : List Frame} {meth : Method} {c : Code} {sz : Nat} {D : va_G} {ad : Nat → Nat} {cI : ClassId} {out : Int32 × St} (N : (LC ad).Nodup) (C : xC p s m args meth c (xA (LC ad) sz) D 4 (tyC cI) b_Tt_isAheadOf R_Tt) (hr : meth.sig.returnType = (some .boolean)) (n : Nat) : ∀ (x2 x3 : Int32) (st : St), f_Tt_isAheadOf_tr_bs_30 n x2 x3 st = some out → j_i p l e rm_Tt_isAheadOf_tr_bs s m args below meth c sz D (WC ad cI) (LC ad) out 4 (WC ad cI st) [(0, .ref (ad 5)), (1, .ref (ad 6)), (2, .int x2), (3, .int x3)] 30 [] := by
  induction n with
  | zero => intro x2 x3 st hf; exact absurd (show (none : Option (Int32 × St)) = some out from hf) (fun h => by cases h)
  | succ n ih => intro x2 x3 st hf; exact wb_Tt_isAheadOf_tr_bs_30 N C hr ih x2 x3 st hf
set_option maxHeartbeats 4000000 in
set_option maxRecDepth 20000 in
theorem c_Tt_isAheadOf_tr_bs {l : Launch} {D : va_G} {ad : Nat → Nat} {cI : ClassId} (N : (LC ad).Nodup) {x2 : Int32} {st : St} {out : Int32 × St} (hf : f_Tt_isAheadOf_tr_bs x2 st = some out) : xMi l y_Tt_isAheadOf b_Tt_isAheadOf 4 (some .boolean) rm_Tt_isAheadOf_tr_bs D (tyC cI) (WC ad cI) (LC ad) [.ref (ad 5), .ref (ad 6), .int x2] st out := by
  intro sz
  refine xM_of (L := LC ad) (by decide) (Nat.le_of_ble_eq_true rfl) (fun p e s m below meth c hsz hr C => ?_)
  show j_i p l e rm_Tt_isAheadOf_tr_bs s m _ below meth c sz D (WC ad cI) (LC ad) out 4 (WC ad cI st) [(0, .ref (ad 5)), (1, .ref (ad 6)), (2, .int x2)] 0 []
  unfold f_Tt_isAheadOf_tr_bs at hf
  refine xj_aload_n C d_Tt_isAheadOf_0 rfl 0 rfl ?_
  refine xj_get C g_Tt_21 5 rfl rfl d_Tt_isAheadOf_1 ?_
  refine xj_aload_n C d_Tt_isAheadOf_4 rfl 1 rfl ?_
  refine xj_get C g_Tt_21 6 rfl rfl d_Tt_isAheadOf_5 ?_
  refine xj_icmp_eq (tgt := 28) C d_Tt_isAheadOf_8 (by decide) (fun h9 => ?_) (fun h9 => ?_)
  · have hf := xi_pos h9 hf
    refine xj_iconst (v := 0) C d_Tt_isAheadOf_28 rfl ?_
    refine xj_istore_n C d_Tt_isAheadOf_29 rfl (by decide) rfl ?_
    exact xj_lv [1, 2, 3, 0] rfl (w_Tt_isAheadOf_tr_bs_30 N C hr 40 x2 0 st hf)
  · have hf := xi_neg h9 hf
    refine xj_aload_n C d_Tt_isAheadOf_11 rfl 0 rfl ?_
    refine xj_get C g_Tt_21 5 rfl rfl d_Tt_isAheadOf_12 ?_
    refine xj_aload_n C d_Tt_isAheadOf_15 rfl 1 rfl ?_
    refine xj_get C g_Tt_21 6 rfl rfl d_Tt_isAheadOf_16 ?_
    refine xj_icmp_ge (tgt := 26) C d_Tt_isAheadOf_19 (by decide) (fun h9 => ?_) (fun h9 => ?_)
    · have hf := xi_pos h9 hf
      refine xj_iconst (v := 0) C d_Tt_isAheadOf_26 rfl ?_
      exact xj_zret C hr rfl hf d_Tt_isAheadOf_27
    · have hf := xi_neg h9 hf
      refine xj_iconst (v := 1) C d_Tt_isAheadOf_22 rfl ?_
      refine xj_goto (tgt := 27) C d_Tt_isAheadOf_23 (by decide) ?_
      exact xj_zret C hr rfl hf d_Tt_isAheadOf_27
set_option maxHeartbeats 4000000 in
set_option maxRecDepth 20000 in
theorem w_Fl_comesBehind_68 {p : Program} {l : Launch} {e : Env} {s : State} {m : MethodId} {args : Array Value} {below : List Frame} {meth : Method} {c : Code} {sz : Nat} {D : va_G} {ad : Nat → Nat} {cI : ClassId} {out : Int32 × St} (N : (LC ad).Nodup) (C : xC p s m args meth c (xA (LC ad) sz) D 3 (tyC cI) b_Fl_comesBehind R_Fl) (hr : meth.sig.returnType = (some .boolean)) (st : St) (hf : f_Fl_comesBehind_68  st = some out) : j_i p l e rm_Fl_comesBehind s m args below meth c sz D (WC ad cI) (LC ad) out 3 (WC ad cI st) [] 68 [] := by
  unfold f_Fl_comesBehind_68 at hf
  refine xj_iconst (v := 1) C d_Fl_comesBehind_68 rfl ?_
  refine xj_goto (tgt := 73) C d_Fl_comesBehind_69 (by decide) ?_
  exact xj_zret C hr rfl hf d_Fl_comesBehind_73
set_option maxHeartbeats 4000000 in
set_option maxRecDepth 20000 in
theorem c_Fl_comesBehind {l : Launch} {D : va_G} {ad : Nat → Nat} {cI : ClassId} (N : (LC ad).Nodup) {x1 x2 : Int32} {st : St} {out : Int32 × St} (hf : f_Fl_comesBehind x1 x2 st = some out) : xMi l y_Fl_comesBehind b_Fl_comesBehind 3 (some .boolean) rm_Fl_comesBehind D (tyC cI) (WC ad cI) (LC ad) [.ref (ad 2), .int x1, .int x2] st out := by
  intro sz
  refine xM_of (L := LC ad) (by decide) (Nat.le_of_ble_eq_true rfl) (fun p e s m below meth c hsz hr C => ?_)
  show j_i p l e rm_Fl_comesBehind s m _ below meth c sz D (WC ad cI) (LC ad) out 3 (WC ad cI st) [(0, .ref (ad 2)), (1, .int x1), (2, .int x2)] 0 []
  unfold f_Fl_comesBehind at hf
  refine xj_aload_n C d_Fl_comesBehind_0 rfl 0 rfl ?_
  refine xj_iload_n C d_Fl_comesBehind_1 rfl 1 rfl ?_
  obtain ⟨o1, ho1, hf⟩ := xb_some hf
  refine xj_callVi (rest := []) C (c_Fl_has N ho1) Y_Fl_has i_Fl_31 2 rfl rfl (by decide) ⟨rfl, rfl⟩ rfl rfl (Nat.le_of_ble_eq_true rfl) d_Fl_comesBehind_2 (fun q h => Or.inl h) ?_
  refine xj_if_eq (tgt := 31) C d_Fl_comesBehind_5 (by decide) (fun h9 => ?_) (fun h9 => ?_)
  · have hf := xi_pos h9 hf
    refine xj_iconst (v := 0) C d_Fl_comesBehind_31 rfl ?_
    exact xj_zret C hr rfl hf d_Fl_comesBehind_32
  · have hf := xi_neg h9 hf
    refine xj_aload_n C d_Fl_comesBehind_8 rfl 0 rfl ?_
    refine xj_iload_n C d_Fl_comesBehind_9 rfl 2 rfl ?_
    obtain ⟨o2, ho2, hf⟩ := xb_some hf
    refine xj_callVi (rest := []) C (c_Fl_has N ho2) Y_Fl_has i_Fl_31 2 rfl rfl (by decide) ⟨rfl, rfl⟩ rfl rfl (Nat.le_of_ble_eq_true rfl) d_Fl_comesBehind_10 (fun q h => Or.inl h) ?_
    refine xj_if_eq (tgt := 31) C d_Fl_comesBehind_13 (by decide) (fun h9 => ?_) (fun h9 => ?_)
    · have hf := xi_pos h9 hf
      refine xj_iconst (v := 0) C d_Fl_comesBehind_31 rfl ?_
      exact xj_zret C hr rfl hf d_Fl_comesBehind_32
    · have hf := xi_neg h9 hf
      refine xj_aload_n C d_Fl_comesBehind_16 rfl 0 rfl ?_
      refine xj_get C g_Fl_21 2 rfl rfl d_Fl_comesBehind_17 ?_
      refine xj_iload_n C d_Fl_comesBehind_20 rfl 1 rfl ?_
      obtain ⟨g3, hf⟩ := xb_guard hf
      refine xj_iald C 17 0 rfl rfl g3 d_Fl_comesBehind_21 ?_
      refine xj_aload_n C d_Fl_comesBehind_22 rfl 0 rfl ?_
      refine xj_get C g_Fl_21 2 rfl rfl d_Fl_comesBehind_23 ?_
      refine xj_iload_n C d_Fl_comesBehind_26 rfl 2 rfl ?_
      obtain ⟨g4, hf⟩ := xb_guard hf
      refine xj_iald C 17 0 rfl rfl g4 d_Fl_comesBehind_27 ?_
      refine xj_icmp_eq (tgt := 33) C d_Fl_comesBehind_28 (by decide) (fun h9 => ?_) (fun h9 => ?_)
      · have hf := xi_pos h9 hf
        refine xj_aload_n C d_Fl_comesBehind_33 rfl 0 rfl ?_
        refine xj_get C g_Fl_18 2 rfl rfl d_Fl_comesBehind_34 ?_
        refine xj_iload_n C d_Fl_comesBehind_37 rfl 1 rfl ?_
        obtain ⟨g5, hf⟩ := xb_guard hf
        refine xj_iald C 16 0 rfl rfl g5 d_Fl_comesBehind_38 ?_
        refine xj_aload_n C d_Fl_comesBehind_39 rfl 0 rfl ?_
        refine xj_get C g_Fl_18 2 rfl rfl d_Fl_comesBehind_40 ?_
        refine xj_iload_n C d_Fl_comesBehind_43 rfl 2 rfl ?_
        obtain ⟨g6, hf⟩ := xb_guard hf
        refine xj_iald C 16 0 rfl rfl g6 d_Fl_comesBehind_44 ?_
        refine xj_icmp_gt (tgt := 68) C d_Fl_comesBehind_45 (by decide) (fun h9 => ?_) (fun h9 => ?_)
        · have hf := xi_pos h9 hf
          exact xj_lv [] rfl (w_Fl_comesBehind_68 N C hr o2.2 hf)
        · have hf := xi_neg h9 hf
          refine xj_aload_n C d_Fl_comesBehind_48 rfl 0 rfl ?_
          refine xj_get C g_Fl_18 2 rfl rfl d_Fl_comesBehind_49 ?_
          refine xj_iload_n C d_Fl_comesBehind_52 rfl 1 rfl ?_
          obtain ⟨g7, hf⟩ := xb_guard hf
          refine xj_iald C 16 0 rfl rfl g7 d_Fl_comesBehind_53 ?_
          refine xj_aload_n C d_Fl_comesBehind_54 rfl 0 rfl ?_
          refine xj_get C g_Fl_18 2 rfl rfl d_Fl_comesBehind_55 ?_
          refine xj_iload_n C d_Fl_comesBehind_58 rfl 2 rfl ?_
          obtain ⟨g8, hf⟩ := xb_guard hf
          refine xj_iald C 16 0 rfl rfl g8 d_Fl_comesBehind_59 ?_
          refine xj_icmp_ne (tgt := 72) C d_Fl_comesBehind_60 (by decide) (fun h9 => ?_) (fun h9 => ?_)
          · have hf := xi_neg h9 hf
            refine xj_iconst (v := 0) C d_Fl_comesBehind_72 rfl ?_
            exact xj_zret C hr rfl hf d_Fl_comesBehind_73
          · have hf := xi_pos h9 hf
            refine xj_iload_n C d_Fl_comesBehind_63 rfl 1 rfl ?_
            refine xj_iload_n C d_Fl_comesBehind_64 rfl 2 rfl ?_
            refine xj_icmp_le (tgt := 72) C d_Fl_comesBehind_65 (by decide) (fun h9 => ?_) (fun h9 => ?_)
            · have hf := xi_pos h9 hf
              refine xj_iconst (v := 0) C d_Fl_comesBehind_72 rfl ?_
              exact xj_zret C hr rfl hf d_Fl_comesBehind_73
            · have hf := xi_neg h9 hf
              exact xj_lv [] rfl (w_Fl_comesBehind_68 N C hr o2.2 hf)
      · have hf := xi_neg h9 hf
        refine xj_iconst (v := 0) C d_Fl_comesBehind_31 rfl ?_
        exact xj_zret C hr rfl hf d_Fl_comesBehind_32
set_option maxHeartbeats 4000000 in
set_option maxRecDepth 20000 in
theorem w_Pl_overtaken_tr_47 {p : Program} {l : Launch} {e : Env} {s : State} {m : MethodId} {args : Array Value} {below : List Frame} {meth : Method} {c : Code} {sz : Nat} {D : va_G} {ad : Nat → Nat} {cI : ClassId} {out : Int32 × St} (N : (LC ad).Nodup) (C : xC p s m args meth c (xA (LC ad) sz) D 5 (tyC cI) b_Pl_overtaken R_Pl) (hr : meth.sig.returnType = (some .int)) {K5 : Int32 → Int32 → Int32 → St → Option (Int32 × St)} (hK5 : ∀ (x2 x3 x4 : Int32) (st : St), K5 x2 x3 x4 st = some out → j_i p l e rm_Pl_overtaken_tr s m args below meth c sz D (WC ad cI) (LC ad) out 5 (WC ad cI st) [(0, .ref (ad 4)), (1, .ref (ad 5)), (2, .int x2), (3, .int x3), (4, .int x4)] 5 []) (x2 x3 x4 : Int32) (st : St) (hf : f_Pl_overtaken_tr_47 K5 x2 x3 x4 st = some out) : j_i p l e rm_Pl_overtaken_tr s m args below meth c sz D (WC ad cI) (LC ad) out 5 (WC ad cI st) [(0, .ref (ad 4)), (1, .ref (ad 5)), (2, .int x2), (3, .int x3), (4, .int x4)] 47 [] := by
  unfold f_Pl_overtaken_tr_47 at hf
  refine xj_iinc (v := x4 + 1) (j := 4) C d_Pl_overtaken_47 rfl rfl (by decide) rfl ?_
  refine xj_goto (tgt := 5) C d_Pl_overtaken_50 (by decide) ?_
  exact xj_lv [1, 2, 3, 4, 0] rfl (hK5 x2 x3 (x4 + 1) st hf)
set_option maxHeartbeats 4000000 in
set_option maxRecDepth 20000 in
theorem wb_Pl_overtaken_tr_5 {p : Program} {l : Launch} {e : Env} {s : State} {m : MethodId} {args : Array Value} {below : List Frame} {meth : Method} {c : Code} {sz : Nat} {D : va_G} {ad : Nat → Nat} {cI : ClassId} {out : Int32 × St} (N : (LC ad).Nodup) (C : xC p s m args meth c (xA (LC ad) sz) D 5 (tyC cI) b_Pl_overtaken R_Pl) (hr : meth.sig.returnType = (some .int)) {K5 : Int32 → Int32 → Int32 → St → Option (Int32 × St)} (hK5 : ∀ (x2 x3 x4 : Int32) (st : St), K5 x2 x3 x4 st = some out → j_i p l e rm_Pl_overtaken_tr s m args below meth c sz D (WC ad cI) (LC ad) out 5 (WC ad cI st) [(0, .ref (ad 4)), (1, .ref (ad 5)), (2, .int x2), (3, .int x3), (4, .int x4)] 5 []) (x2 x3 x4 : Int32) (st : St) (hf : b_Pl_overtaken_tr_5 K5 x2 x3 x4 st = some out) : j_i p l e rm_Pl_overtaken_tr s m args below meth c sz D (WC ad cI) (LC ad) out 5 (WC ad cI st) [(0, .ref (ad 4)), (1, .ref (ad 5)), (2, .int x2), (3, .int x3), (4, .int x4)] 5 [] := by
  unfold b_Pl_overtaken_tr_5 at hf
  refine xj_iload C d_Pl_overtaken_5 4 rfl ?_
  refine xj_aload_n C d_Pl_overtaken_7 rfl 0 rfl ?_
  refine xj_get C g_Pl_32 4 rfl rfl d_Pl_overtaken_8 ?_
  obtain ⟨o1, ho1, hf⟩ := xb_some hf
  refine xj_callVi (rest := [.int x4]) C (c_Fl_size N ho1) Y_Fl_size i_Pl_109 2 rfl rfl (by decide) ⟨rfl, rfl⟩ rfl rfl (Nat.le_of_ble_eq_true rfl) d_Pl_overtaken_11 (fun q h => Or.inl h) ?_
  refine xj_icmp_ge (tgt := 53) C d_Pl_overtaken_14 (by decide) (fun h9 => ?_) (fun h9 => ?_)
  · have hf := xi_pos h9 hf
    refine xj_iload_n C d_Pl_overtaken_53 rfl 3 rfl ?_
    exact xj_iret C hr hf d_Pl_overtaken_54
  · have hf := xi_neg h9 hf
    refine xj_aload_n C d_Pl_overtaken_17 rfl 0 rfl ?_
    refine xj_get C g_Pl_32 4 rfl rfl d_Pl_overtaken_18 ?_
    refine xj_iload C d_Pl_overtaken_21 4 rfl ?_
    refine xj_iload_n C d_Pl_overtaken_23 rfl 2 rfl ?_
    obtain ⟨o2, ho2, hf⟩ := xb_some hf
    refine xj_callVi (rest := []) C (c_Fl_comesBehind N ho2) Y_Fl_comesBehind i_Pl_122 2 rfl rfl (by decide) ⟨rfl, rfl⟩ rfl rfl (Nat.le_of_ble_eq_true rfl) d_Pl_overtaken_24 (fun q h => Or.inl h) ?_
    refine xj_if_eq (tgt := 47) C d_Pl_overtaken_27 (by decide) (fun h9 => ?_) (fun h9 => ?_)
    · have hf := xi_pos h9 hf
      exact xj_lv [0, 1, 2, 3, 4] rfl (w_Pl_overtaken_tr_47 N C hr hK5 x2 x3 x4 o2.2 hf)
    · have hf := xi_neg h9 hf
      refine xj_aload_n C d_Pl_overtaken_30 rfl 1 rfl ?_
      refine xj_iload C d_Pl_overtaken_31 4 rfl ?_
      obtain ⟨o3, ho3, hf⟩ := xb_some hf
      refine xj_callVi (rest := []) C (c_Tt_begin_tr N ho3) Y_Tt_begin i_Pl_125 5 rfl rfl (by decide) ⟨rfl, rfl⟩ rfl rfl (Nat.le_of_ble_eq_true rfl) d_Pl_overtaken_33 (fun q h => Or.inl h) ?_
      refine xj_aload_n C d_Pl_overtaken_36 rfl 1 rfl ?_
      refine xj_iload_n C d_Pl_overtaken_37 rfl 2 rfl ?_
      obtain ⟨o4, ho4, hf⟩ := xb_some hf
      refine xj_callVi (rest := [.int o3.1]) C (c_Tt_begin_tr N ho4) Y_Tt_begin i_Pl_125 5 rfl rfl (by decide) ⟨rfl, rfl⟩ rfl rfl (Nat.le_of_ble_eq_true rfl) d_Pl_overtaken_38 (fun q h => Or.inl h) ?_
      refine xj_icmp_ge (tgt := 47) C d_Pl_overtaken_41 (by decide) (fun h9 => ?_) (fun h9 => ?_)
      · have hf := xi_pos h9 hf
        exact xj_lv [0, 1, 2, 3, 4] rfl (w_Pl_overtaken_tr_47 N C hr hK5 x2 x3 x4 o4.2 hf)
      · have hf := xi_neg h9 hf
        refine xj_iinc (v := x3 + 1) (j := 3) C d_Pl_overtaken_44 rfl rfl (by decide) rfl ?_
        exact xj_lv [1, 2, 3, 0, 4] rfl (w_Pl_overtaken_tr_47 N C hr hK5 x2 (x3 + 1) x4 o4.2 hf)
set_option maxHeartbeats 4000000 in
set_option maxRecDepth 20000 in
theorem w_Pl_overtaken_tr_5 {p : Program} {l : Launch} {e : Env} {s : State} {m : MethodId} {args : Array Value} {below : List Frame} {meth : Method} {c : Code} {sz : Nat} {D : va_G} {ad : Nat → Nat} {cI : ClassId} {out : Int32 × St} (N : (LC ad).Nodup) (C : xC p s m args meth c (xA (LC ad) sz) D 5 (tyC cI) b_Pl_overtaken R_Pl) (hr : meth.sig.returnType = (some .int)) (n : Nat) : ∀ (x2 x3 x4 : Int32) (st : St), f_Pl_overtaken_tr_5 n x2 x3 x4 st = some out → j_i p l e rm_Pl_overtaken_tr s m args below meth c sz D (WC ad cI) (LC ad) out 5 (WC ad cI st) [(0, .ref (ad 4)), (1, .ref (ad 5)), (2, .int x2), (3, .int x3), (4, .int x4)] 5 [] := by
  induction n with
  | zero => intro x2 x3 x4 st hf; exact absurd (show (none : Option (Int32 × St)) = some out from hf) (fun h => by cases h)
  | succ n ih => intro x2 x3 x4 st hf; exact wb_Pl_overtaken_tr_5 N C hr ih x2 x3 x4 st hf
set_option maxHeartbeats 4000000 in
set_option maxRecDepth 20000 in
theorem c_Pl_overtaken_tr {l : Launch} {D : va_G} {ad : Nat → Nat} {cI : ClassId} (N : (LC ad).Nodup) {x2 : Int32} {st : St} {out : Int32 × St} (hf : f_Pl_overtaken_tr x2 st = some out) : xMi l y_Pl_overtaken b_Pl_overtaken 5 (some .int) rm_Pl_overtaken_tr D (tyC cI) (WC ad cI) (LC ad) [.ref (ad 4), .ref (ad 5), .int x2] st out := by
  intro sz
  refine xM_of (L := LC ad) (by decide) (Nat.le_of_ble_eq_true rfl) (fun p e s m below meth c hsz hr C => ?_)
  show j_i p l e rm_Pl_overtaken_tr s m _ below meth c sz D (WC ad cI) (LC ad) out 5 (WC ad cI st) [(0, .ref (ad 4)), (1, .ref (ad 5)), (2, .int x2)] 0 []
  unfold f_Pl_overtaken_tr at hf
  refine xj_iconst (v := 0) C d_Pl_overtaken_0 rfl ?_
  refine xj_istore_n C d_Pl_overtaken_1 rfl (by decide) rfl ?_
  refine xj_iconst (v := 0) C d_Pl_overtaken_2 rfl ?_
  refine xj_istore C d_Pl_overtaken_3 (by decide) rfl ?_
  exact xj_lv [2, 3, 4, 1, 0] rfl (w_Pl_overtaken_tr_5 N C hr 40 x2 0 0 st hf)
set_option maxHeartbeats 4000000 in
set_option maxRecDepth 20000 in
theorem wb_Pl_offerTrial_2 {p : Program} {l : Launch} {e : Env} {s : State} {m : MethodId} {args : Array Value} {below : List Frame} {meth : Method} {c : Code} {sz : Nat} {D : va_G} {ad : Nat → Nat} {cI : ClassId} {out : St} (N : (LC ad).Nodup) (C : xC p s m args meth c (xA (LC ad) sz) D 3 (tyC cI) b_Pl_offerTrial R_Pl) (hr : meth.sig.returnType = none) {K2 : Int32 → Int32 → St → Option (St)} (hK2 : ∀ (x1 x2 : Int32) (st : St), K2 x1 x2 st = some out → j_v p l e rm_Pl_offerTrial s m args below meth c sz D (WC ad cI) (LC ad) out 3 (WC ad cI st) [(0, .ref (ad 4)), (1, .int x1), (2, .int x2)] 2 []) (x1 x2 : Int32) (st : St) (hf : b_Pl_offerTrial_2 K2 x1 x2 st = some out) : j_v p l e rm_Pl_offerTrial s m args below meth c sz D (WC ad cI) (LC ad) out 3 (WC ad cI st) [(0, .ref (ad 4)), (1, .int x1), (2, .int x2)] 2 [] := by
  unfold b_Pl_offerTrial_2 at hf
  refine xj_iload_n C d_Pl_offerTrial_2 rfl 2 rfl ?_
  refine xj_aload_n C d_Pl_offerTrial_3 rfl 0 rfl ?_
  refine xj_get C g_Pl_32 4 rfl rfl d_Pl_offerTrial_4 ?_
  obtain ⟨o1, ho1, hf⟩ := xb_some hf
  refine xj_callVi (rest := [.int x2]) C (c_Fl_size N ho1) Y_Fl_size i_Pl_109 2 rfl rfl (by decide) ⟨rfl, rfl⟩ rfl rfl (Nat.le_of_ble_eq_true rfl) d_Pl_offerTrial_7 (fun q h => Or.inl h) ?_
  refine xj_icmp_ge (tgt := 36) C d_Pl_offerTrial_10 (by decide) (fun h9 => ?_) (fun h9 => ?_)
  · have hf := xi_pos h9 hf
    refine xj_aload_n C d_Pl_offerTrial_36 rfl 0 rfl ?_
    refine xj_get C g_Pl_12 4 rfl rfl d_Pl_offerTrial_37 ?_
    refine xj_iload_n C d_Pl_offerTrial_40 rfl 1 rfl ?_
    obtain ⟨o2, ho2, hf⟩ := xb_some hf
    refine xj_callVv (rest := []) C (c_Tt_setWaiting_tr N ho2) Y_Tt_setWaiting i_Pl_115 5 rfl rfl (by decide) ⟨rfl, rfl⟩ rfl rfl (Nat.le_of_ble_eq_true rfl) d_Pl_offerTrial_41 (fun q h => Or.inl h) ?_
    refine xj_aload_n C d_Pl_offerTrial_44 rfl 0 rfl ?_
    refine xj_get C g_Pl_40 4 rfl rfl d_Pl_offerTrial_45 ?_
    refine xj_if_eq (tgt := 72) C d_Pl_offerTrial_48 (by decide) (fun h9 => ?_) (fun h9 => ?_)
    · have hf := xi_pos h9 hf
      exact xj_lv [0] rfl (w_Pl_offerTrial_72 N C hr o2 hf)
    · have hf := xi_neg h9 hf
      refine xj_aload_n C d_Pl_offerTrial_51 rfl 0 rfl ?_
      refine xj_get C g_Pl_12 4 rfl rfl d_Pl_offerTrial_52 ?_
      refine xj_aload_n C d_Pl_offerTrial_55 rfl 0 rfl ?_
      refine xj_get C g_Pl_18 4 rfl rfl d_Pl_offerTrial_56 ?_
      refine xj_aload_n C d_Pl_offerTrial_59 rfl 0 rfl ?_
      refine xj_get C g_Pl_32 4 rfl rfl d_Pl_offerTrial_60 ?_
      obtain ⟨o4, ho4, hf⟩ := xb_some hf
      refine xj_callVi (rest := [.ref (ad 6), .ref (ad 5)]) C (c_Fl_all N ho4) Y_Fl_all i_Pl_48 2 rfl rfl (by decide) ⟨rfl, rfl⟩ rfl rfl (Nat.le_of_ble_eq_true rfl) d_Pl_offerTrial_63 (fun q h => Or.inl h) ?_
      obtain ⟨o5, ho5, hf⟩ := xb_some hf
      refine xj_callVi (rest := []) C (c_Tt_isAheadOf_tr_bs N ho5) Y_Tt_isAheadOf i_Pl_118 5 rfl rfl (by decide) ⟨rfl, rfl⟩ rfl rfl (Nat.le_of_ble_eq_true rfl) d_Pl_offerTrial_66 (fun q h => Or.inl h) ?_
      refine xj_if_eq (tgt := 88) C d_Pl_offerTrial_69 (by decide) (fun h9 => ?_) (fun h9 => ?_)
      · have hf := xi_pos h9 hf
        exact xj_vret C hr hf d_Pl_offerTrial_88
      · have hf := xi_neg h9 hf
        exact xj_lv [0] rfl (w_Pl_offerTrial_72 N C hr o5.2 hf)
  · have hf := xi_neg h9 hf
    refine xj_aload_n C d_Pl_offerTrial_13 rfl 0 rfl ?_
    refine xj_aload_n C d_Pl_offerTrial_14 rfl 0 rfl ?_
    refine xj_get C g_Pl_12 4 rfl rfl d_Pl_offerTrial_15 ?_
    refine xj_iload_n C d_Pl_offerTrial_18 rfl 2 rfl ?_
    obtain ⟨o6, ho6, hf⟩ := xb_some hf
    refine xj_callVi (rest := []) C (c_Pl_overtaken_tr N ho6) Y_Pl_overtaken i_Pl_112 4 rfl rfl (by decide) ⟨rfl, rfl⟩ rfl rfl (Nat.le_of_ble_eq_true rfl) d_Pl_offerTrial_19 (fun q h => Or.inl h) ?_
    refine xj_aload_n C d_Pl_offerTrial_22 rfl 0 rfl ?_
    refine xj_get C g_Pl_24 4 rfl rfl d_Pl_offerTrial_23 ?_
    refine xj_icmp_le (tgt := 30) C d_Pl_offerTrial_26 (by decide) (fun h9 => ?_) (fun h9 => ?_)
    · have hf := xi_pos h9 hf
      refine xj_iinc (v := x2 + 1) (j := 2) C d_Pl_offerTrial_30 rfl rfl (by decide) rfl ?_
      refine xj_goto (tgt := 2) C d_Pl_offerTrial_33 (by decide) ?_
      exact xj_lv [1, 2, 0] rfl (hK2 x1 (x2 + 1) o6.2 hf)
    · have hf := xi_neg h9 hf
      exact xj_vret C hr hf d_Pl_offerTrial_29
set_option maxHeartbeats 4000000 in
set_option maxRecDepth 20000 in
theorem w_Pl_offerTrial_2 {p : Program} {l : Launch} {e : Env} {s : State} {m : MethodId} {args : Array Value} {below : List Frame} {meth : Method} {c : Code} {sz : Nat} {D : va_G} {ad : Nat → Nat} {cI : ClassId} {out : St} (N : (LC ad).Nodup) (C : xC p s m args meth c (xA (LC ad) sz) D 3 (tyC cI) b_Pl_offerTrial R_Pl) (hr : meth.sig.returnType = none) (n : Nat) : ∀ (x1 x2 : Int32) (st : St), f_Pl_offerTrial_2 n x1 x2 st = some out → j_v p l e rm_Pl_offerTrial s m args below meth c sz D (WC ad cI) (LC ad) out 3 (WC ad cI st) [(0, .ref (ad 4)), (1, .int x1), (2, .int x2)] 2 [] := by
  induction n with
  | zero => intro x1 x2 st hf; exact absurd (show (none : Option (St)) = some out from hf) (fun h => by cases h)
  | succ n ih => intro x1 x2 st hf; exact wb_Pl_offerTrial_2 N C hr ih x1 x2 st hf
set_option maxHeartbeats 4000000 in
set_option maxRecDepth 20000 in
theorem c_Pl_offerTrial {l : Launch} {D : va_G} {ad : Nat → Nat} {cI : ClassId} (N : (LC ad).Nodup) {x1 : Int32} {st : St} {out : St} (hf : f_Pl_offerTrial x1 st = some out) : xMv l y_Pl_offerTrial b_Pl_offerTrial 3 none rm_Pl_offerTrial D (tyC cI) (WC ad cI) (LC ad) [.ref (ad 4), .int x1] st out := by
  intro sz
  refine xM_of (L := LC ad) (by decide) (Nat.le_of_ble_eq_true rfl) (fun p e s m below meth c hsz hr C => ?_)
  show j_v p l e rm_Pl_offerTrial s m _ below meth c sz D (WC ad cI) (LC ad) out 3 (WC ad cI st) [(0, .ref (ad 4)), (1, .int x1)] 0 []
  unfold f_Pl_offerTrial at hf
  refine xj_iconst (v := 0) C d_Pl_offerTrial_0 rfl ?_
  refine xj_istore_n C d_Pl_offerTrial_1 rfl (by decide) rfl ?_
  exact xj_lv [1, 2, 0] rfl (w_Pl_offerTrial_2 N C hr 40 x1 0 st hf)
set_option maxHeartbeats 4000000 in
set_option maxRecDepth 20000 in
theorem w_Pl_tryRuns_20 {p : Program} {l : Launch} {e : Env} {s : State} {m : MethodId} {args : Array Value} {below : List Frame} {meth : Method} {c : Code} {sz : Nat} {D : va_G} {ad : Nat → Nat} {cI : ClassId} {out : St} {dd : Nat} (N : (LC ad).Nodup) (C : xC p s m args meth c (xA (LC ad) sz) D 12 (tyC cI) b_Pl_tryRuns R_Pl) (hr : meth.sig.returnType = none) {REC : Int32 → Int32 → Int32 → Int32 → Int32 → Int32 → St → Option (St)} (hREC : ∀ (x1 x2 x3 x4 x5 x6 : Int32) (st : St) (o : St), REC x1 x2 x3 x4 x5 x6 st = some o → xMv l y_Pl_tryRuns b_Pl_tryRuns 12 none (rm_Pl_tryRuns dd) D (tyC cI) (WC ad cI) (LC ad) [.ref (ad 4), .int x1, .int x2, .int x3, .int x4, .int x5, .int x6] st o) (x1 x2 x3 x4 x5 x6 : Int32) (st : St) (hf : f_Pl_tryRuns_20 REC x1 x2 x3 x4 x5 x6 st = some out) : j_v p l e (rm_Pl_tryRuns (dd + 1)) s m args below meth c sz D (WC ad cI) (LC ad) out 12 (WC ad cI st) [(0, .ref (ad 4)), (1, .int x1), (2, .int x2), (3, .int x3), (4, .int x4), (5, .int x5), (6, .int x6)] 20 [] := by
  unfold f_Pl_tryRuns_20 at hf
  refine xj_iload_n C d_Pl_tryRuns_20 rfl 3 rfl ?_
  refine xj_if_ne (tgt := 31) C d_Pl_tryRuns_21 (by decide) (fun h9 => ?_) (fun h9 => ?_)
  · have hf := xi_neg h9 hf
    refine xj_aload_n C d_Pl_tryRuns_31 rfl 0 rfl ?_
    refine xj_get C g_Pl_28 4 rfl rfl d_Pl_tryRuns_32 ?_
    refine xj_iload_n C d_Pl_tryRuns_35 rfl 1 rfl ?_
    obtain ⟨o1, ho1, hf⟩ := xb_some hf
    refine xj_callVi (rest := []) C (c_Ch_has N ho1) Y_Ch_has i_Pl_69 1 rfl rfl (by simp only [rm_Pl_tryRuns, rm_Ch_has]; omega) ⟨rfl, rfl⟩ rfl rfl (Nat.le_of_ble_eq_true rfl) d_Pl_tryRuns_36 (fun q h => Or.inl h) ?_
    refine xj_if_ne (tgt := 43) C d_Pl_tryRuns_39 (by decide) (fun h9 => ?_) (fun h9 => ?_)
    · have hf := xi_neg h9 hf
      refine xj_aload_n C d_Pl_tryRuns_43 rfl 0 rfl ?_
      refine xj_get C g_Pl_28 4 rfl rfl d_Pl_tryRuns_44 ?_
      refine xj_iload_n C d_Pl_tryRuns_47 rfl 1 rfl ?_
      obtain ⟨o2, ho2, hf⟩ := xb_some hf
      refine xj_callVi (rest := []) C (c_Ch_fill N ho2) Y_Ch_fill i_Pl_75 1 rfl rfl (by simp only [rm_Pl_tryRuns, rm_Ch_fill]; omega) ⟨rfl, rfl⟩ rfl rfl (Nat.le_of_ble_eq_true rfl) d_Pl_tryRuns_48 (fun q h => Or.inl h) ?_
      refine xj_istore C d_Pl_tryRuns_51 (by decide) rfl ?_
      refine xj_iconst (v := 1) C d_Pl_tryRuns_53 rfl ?_
      refine xj_istore C d_Pl_tryRuns_54 (by decide) rfl ?_
      exact xj_lv [2, 3, 4, 5, 6, 7, 8, 1, 0] rfl (w_Pl_tryRuns_56 N C hr hREC 40 x1 x2 x3 x4 x5 x6 o2.1 1 o2.2 hf)
    · have hf := xi_pos h9 hf
      exact xj_vret C hr hf d_Pl_tryRuns_42
  · have hf := xi_pos h9 hf
    refine xj_aload_n C d_Pl_tryRuns_24 rfl 0 rfl ?_
    refine xj_iload C d_Pl_tryRuns_25 6 rfl ?_
    obtain ⟨o11, ho11, hf⟩ := xb_some hf
    refine xj_callVv (rest := []) C (c_Pl_offerTrial N ho11) Y_Pl_offerTrial i_Pl_65 4 rfl rfl (by simp only [rm_Pl_tryRuns, rm_Pl_offerTrial]; omega) ⟨rfl, rfl⟩ rfl rfl (Nat.le_of_ble_eq_true rfl) d_Pl_tryRuns_27 (fun q h => Or.inl h) ?_
    exact xj_vret C hr hf d_Pl_tryRuns_30
set_option maxHeartbeats 4000000 in
set_option maxRecDepth 20000 in
theorem c_Tt_waiting_bs {l : Launch} {D : va_G} {ad : Nat → Nat} {cI : ClassId} (N : (LC ad).Nodup) {st : St} {out : Int32 × St} (hf : f_Tt_waiting_bs  st = some out) : xMi l y_Tt_waiting b_Tt_waiting 1 (some .int) rm_Tt_waiting_bs D (tyC cI) (WC ad cI) (LC ad) [.ref (ad 6)] st out := by
  intro sz
  refine xM_of (L := LC ad) (by decide) (Nat.le_of_ble_eq_true rfl) (fun p e s m below meth c hsz hr C => ?_)
  show j_i p l e rm_Tt_waiting_bs s m _ below meth c sz D (WC ad cI) (LC ad) out 1 (WC ad cI st) [(0, .ref (ad 6))] 0 []
  unfold f_Tt_waiting_bs at hf
  refine xj_aload_n C d_Tt_waiting_0 rfl 0 rfl ?_
  refine xj_get C g_Tt_21 6 rfl rfl d_Tt_waiting_1 ?_
  exact xj_iret C hr hf d_Tt_waiting_4
set_option maxHeartbeats 4000000 in
set_option maxRecDepth 20000 in
theorem we_Pl_tryRuns {p : Program} {l : Launch} {e : Env} {s : State} {m : MethodId} {args : Array Value} {below : List Frame} {meth : Method} {c : Code} {sz : Nat} {D : va_G} {ad : Nat → Nat} {cI : ClassId} {out : St} {dd : Nat} (N : (LC ad).Nodup) (C : xC p s m args meth c (xA (LC ad) sz) D 12 (tyC cI) b_Pl_tryRuns R_Pl) (hr : meth.sig.returnType = none) {REC : Int32 → Int32 → Int32 → Int32 → Int32 → Int32 → St → Option (St)} (hREC : ∀ (x1 x2 x3 x4 x5 x6 : Int32) (st : St) (o : St), REC x1 x2 x3 x4 x5 x6 st = some o → xMv l y_Pl_tryRuns b_Pl_tryRuns 12 none (rm_Pl_tryRuns dd) D (tyC cI) (WC ad cI) (LC ad) [.ref (ad 4), .int x1, .int x2, .int x3, .int x4, .int x5, .int x6] st o) (x1 x2 x3 x4 x5 x6 : Int32) (st : St) (hf : fb_Pl_tryRuns REC x1 x2 x3 x4 x5 x6 st = some out) : j_v p l e (rm_Pl_tryRuns (dd + 1)) s m args below meth c sz D (WC ad cI) (LC ad) out 12 (WC ad cI st) [(0, .ref (ad 4)), (1, .int x1), (2, .int x2), (3, .int x3), (4, .int x4), (5, .int x5), (6, .int x6)] 0 [] := by
  unfold fb_Pl_tryRuns at hf
  refine xj_aload_n C d_Pl_tryRuns_0 rfl 0 rfl ?_
  refine xj_get C g_Pl_40 4 rfl rfl d_Pl_tryRuns_1 ?_
  refine xj_if_eq (tgt := 20) C d_Pl_tryRuns_4 (by decide) (fun h9 => ?_) (fun h9 => ?_)
  · have hf := xi_pos h9 hf
    exact xj_lv [0, 1, 2, 3, 4, 5, 6] rfl (w_Pl_tryRuns_20 N C hr hREC x1 x2 x3 x4 x5 x6 st hf)
  · have hf := xi_neg h9 hf
    refine xj_iload C d_Pl_tryRuns_7 6 rfl ?_
    refine xj_aload_n C d_Pl_tryRuns_9 rfl 0 rfl ?_
    refine xj_get C g_Pl_18 4 rfl rfl d_Pl_tryRuns_10 ?_
    obtain ⟨o12, ho12, hf⟩ := xb_some hf
    refine xj_callVi (rest := [.int x6]) C (c_Tt_waiting_bs N ho12) Y_Tt_waiting i_Pl_44 6 rfl rfl (by simp only [rm_Pl_tryRuns, rm_Tt_waiting_bs]; omega) ⟨rfl, rfl⟩ rfl rfl (Nat.le_of_ble_eq_true rfl) d_Pl_tryRuns_13 (fun q h => Or.inl h) ?_
    refine xj_icmp_le (tgt := 20) C d_Pl_tryRuns_16 (by decide) (fun h9 => ?_) (fun h9 => ?_)
    · have hf := xi_pos h9 hf
      exact xj_lv [0, 1, 2, 3, 4, 5, 6] rfl (w_Pl_tryRuns_20 N C hr hREC x1 x2 x3 x4 x5 x6 o12.2 hf)
    · have hf := xi_neg h9 hf
      exact xj_vret C hr hf d_Pl_tryRuns_19
set_option maxHeartbeats 4000000 in
set_option maxRecDepth 20000 in
theorem c_Pl_tryRuns {l : Launch} {D : va_G} {ad : Nat → Nat} {cI : ClassId} (N : (LC ad).Nodup) (d : Nat) : ∀ {x1 x2 x3 x4 x5 x6 : Int32} {st : St} {out : St}, f_Pl_tryRuns d x1 x2 x3 x4 x5 x6 st = some out → xMv l y_Pl_tryRuns b_Pl_tryRuns 12 none (rm_Pl_tryRuns d) D (tyC cI) (WC ad cI) (LC ad) [.ref (ad 4), .int x1, .int x2, .int x3, .int x4, .int x5, .int x6] st out := by
  induction d with
  | zero => intro x1 x2 x3 x4 x5 x6 st out hf; exact absurd (show (none : Option (St)) = some out from hf) (fun h => by cases h)
  | succ dd ih =>
    intro x1 x2 x3 x4 x5 x6 st out hf
    have hREC : ∀ (x1 x2 x3 x4 x5 x6 : Int32) (st : St) (o : St), f_Pl_tryRuns dd x1 x2 x3 x4 x5 x6 st = some o → xMv l y_Pl_tryRuns b_Pl_tryRuns 12 none (rm_Pl_tryRuns dd) D (tyC cI) (WC ad cI) (LC ad) [.ref (ad 4), .int x1, .int x2, .int x3, .int x4, .int x5, .int x6] st o := fun x1 x2 x3 x4 x5 x6 st o h => ih h
    exact fun sz => xM_of (L := LC ad) (by decide) (Nat.le_of_ble_eq_true rfl) (fun p e s m below meth c hsz hr C => we_Pl_tryRuns N C hr hREC x1 x2 x3 x4 x5 x6 st hf)
set_option maxHeartbeats 4000000 in
set_option maxRecDepth 20000 in
theorem c_Pl_search {l : Launch} {D : va_G} {ad : Nat → Nat} {cI : ClassId} (N : (LC ad).Nodup) {st : St} {out : Int32 × St} (hf : f_Pl_search  st = some out) : xMi l y_Pl_search b_Pl_search 1 (some .boolean) rm_Pl_search D (tyC cI) (WC ad cI) (LC ad) [.ref (ad 4)] st out := by
  intro sz
  refine xM_of (L := LC ad) (by decide) (Nat.le_of_ble_eq_true rfl) (fun p e s m below meth c hsz hr C => ?_)
  show j_i p l e rm_Pl_search s m _ below meth c sz D (WC ad cI) (LC ad) out 1 (WC ad cI st) [(0, .ref (ad 4))] 0 []
  unfold f_Pl_search at hf
  refine xj_aload_n C d_Pl_search_0 rfl 0 rfl ?_
  refine xj_iconst (v := 0) C d_Pl_search_1 rfl ?_
  refine xj_put (ws' := WC ad cI (sI st 7 0)) C g_Pl_40 gw_Pl_planned (WC_D N sz _) 4 rfl rfl rfl (Nat.le_of_ble_eq_true rfl) d_Pl_search_2 rfl ?_
  refine xj_aload_n C d_Pl_search_5 rfl 0 rfl ?_
  refine xj_iconst (v := 0) C d_Pl_search_6 rfl ?_
  refine xj_iconst (v := 0) C d_Pl_search_7 rfl ?_
  refine xj_aload_n C d_Pl_search_8 rfl 0 rfl ?_
  refine xj_get C g_Pl_32 4 rfl rfl d_Pl_search_9 ?_
  obtain ⟨o1, ho1, hf⟩ := xb_some hf
  refine xj_callVi (rest := [.int 0, .int 0, .ref (ad 4)]) C (c_Fl_all N ho1) Y_Fl_all i_Pl_48 2 rfl rfl (by decide) ⟨rfl, rfl⟩ rfl rfl (Nat.le_of_ble_eq_true rfl) d_Pl_search_12 (fun q h => Or.inl h) ?_
  refine xj_iconst (v := 0) C d_Pl_search_15 rfl ?_
  refine xj_iconst (v := 0) C d_Pl_search_16 rfl ?_
  refine xj_iconst (v := 0) C d_Pl_search_17 rfl ?_
  obtain ⟨o2, ho2, hf⟩ := xb_some hf
  refine xj_callVv (rest := []) C (c_Pl_tryRuns N 8 ho2) Y_Pl_tryRuns i_Pl_53 4 rfl rfl (by decide) ⟨rfl, rfl⟩ rfl rfl (Nat.le_of_ble_eq_true rfl) d_Pl_search_18 (fun q h => Or.inl h) ?_
  refine xj_aload_n C d_Pl_search_21 rfl 0 rfl ?_
  refine xj_get C g_Pl_40 4 rfl rfl d_Pl_search_22 ?_
  obtain ⟨g3, hf⟩ := xb_guard hf
  exact xj_zret C hr (xb_narrow g3) hf d_Pl_search_25
set_option maxHeartbeats 4000000 in
set_option maxRecDepth 20000 in
theorem c_Tt_runOf_bs {l : Launch} {D : va_G} {ad : Nat → Nat} {cI : ClassId} (N : (LC ad).Nodup) {x1 : Int32} {st : St} {out : Int32 × St} (hf : f_Tt_runOf_bs x1 st = some out) : xMi l y_Tt_runOf b_Tt_runOf 2 (some .int) rm_Tt_runOf_bs D (tyC cI) (WC ad cI) (LC ad) [.ref (ad 6), .int x1] st out := by
  intro sz
  refine xM_of (L := LC ad) (by decide) (Nat.le_of_ble_eq_true rfl) (fun p e s m below meth c hsz hr C => ?_)
  show j_i p l e rm_Tt_runOf_bs s m _ below meth c sz D (WC ad cI) (LC ad) out 2 (WC ad cI st) [(0, .ref (ad 6)), (1, .int x1)] 0 []
  unfold f_Tt_runOf_bs at hf
  refine xj_iload_n C d_Tt_runOf_0 rfl 1 rfl ?_
  refine xj_if_lt (tgt := 18) C d_Tt_runOf_1 (by decide) (fun h9 => ?_) (fun h9 => ?_)
  · have hf := xi_pos h9 hf
    refine xj_iconst (v := (-1)) C d_Tt_runOf_18 rfl ?_
    exact xj_iret C hr hf d_Tt_runOf_19
  · have hf := xi_neg h9 hf
    refine xj_iload_n C d_Tt_runOf_4 rfl 1 rfl ?_
    refine xj_iconst (v := 4) C d_Tt_runOf_5 rfl ?_
    refine xj_icmp_ge (tgt := 18) C d_Tt_runOf_6 (by decide) (fun h9 => ?_) (fun h9 => ?_)
    · have hf := xi_pos h9 hf
      refine xj_iconst (v := (-1)) C d_Tt_runOf_18 rfl ?_
      exact xj_iret C hr hf d_Tt_runOf_19
    · have hf := xi_neg h9 hf
      refine xj_aload_n C d_Tt_runOf_9 rfl 0 rfl ?_
      refine xj_get C g_Tt_18 6 rfl rfl d_Tt_runOf_10 ?_
      refine xj_iload_n C d_Tt_runOf_13 rfl 1 rfl ?_
      obtain ⟨g1, hf⟩ := xb_guard hf
      refine xj_iald C 27 0 rfl rfl g1 d_Tt_runOf_14 ?_
      refine xj_goto (tgt := 19) C d_Tt_runOf_15 (by decide) ?_
      exact xj_iret C hr hf d_Tt_runOf_19
set_option maxHeartbeats 4000000 in
set_option maxRecDepth 20000 in
theorem w_Tt_aboard_bs_52 {p : Program} {l : Launch} {e : Env} {s : State} {m : MethodId} {args : Array Value} {below : List Frame} {meth : Method} {c : Code} {sz : Nat} {D : va_G} {ad : Nat → Nat} {cI : ClassId} {out : Int32 × St} (N : (LC ad).Nodup) (C : xC p s m args meth c (xA (LC ad) sz) D 6 (tyC cI) b_Tt_aboard R_Tt) (hr : meth.sig.returnType = (some .int)) {K6 : Int32 → Int32 → Int32 → Int32 → Int32 → St → Option (Int32 × St)} (hK6 : ∀ (x1 x2 x3 x4 x5 : Int32) (st : St), K6 x1 x2 x3 x4 x5 st = some out → j_i p l e rm_Tt_aboard_bs s m args below meth c sz D (WC ad cI) (LC ad) out 6 (WC ad cI st) [(0, .ref (ad 6)), (1, .int x1), (2, .int x2), (3, .int x3), (4, .int x4), (5, .int x5)] 6 []) (x1 x2 x3 x4 x5 : Int32) (st : St) (hf : f_Tt_aboard_bs_52 K6 x1 x2 x3 x4 x5 st = some out) : j_i p l e rm_Tt_aboard_bs s m args below meth c sz D (WC ad cI) (LC ad) out 6 (WC ad cI st) [(0, .ref (ad 6)), (1, .int x1), (2, .int x2), (3, .int x3), (4, .int x4), (5, .int x5)] 52 [] := by
  unfold f_Tt_aboard_bs_52 at hf
  refine xj_iinc (v := x5 + 1) (j := 5) C d_Tt_aboard_52 rfl rfl (by decide) rfl ?_
  refine xj_goto (tgt := 6) C d_Tt_aboard_55 (by decide) ?_
  exact xj_lv [1, 2, 3, 4, 5, 0] rfl (hK6 x1 x2 x3 x4 (x5 + 1) st hf)
set_option maxHeartbeats 4000000 in
set_option maxRecDepth 20000 in
theorem wb_Tt_aboard_bs_6 {p : Program} {l : Launch} {e : Env} {s : State} {m : MethodId} {args : Array Value} {below : List Frame} {meth : Method} {c : Code} {sz : Nat} {D : va_G} {ad : Nat → Nat} {cI : ClassId} {out : Int32 × St} (N : (LC ad).Nodup) (C : xC p s m args meth c (xA (LC ad) sz) D 6 (tyC cI) b_Tt_aboard R_Tt) (hr : meth.sig.returnType = (some .int)) {K6 : Int32 → Int32 → Int32 → Int32 → Int32 → St → Option (Int32 × St)} (hK6 : ∀ (x1 x2 x3 x4 x5 : Int32) (st : St), K6 x1 x2 x3 x4 x5 st = some out → j_i p l e rm_Tt_aboard_bs s m args below meth c sz D (WC ad cI) (LC ad) out 6 (WC ad cI st) [(0, .ref (ad 6)), (1, .int x1), (2, .int x2), (3, .int x3), (4, .int x4), (5, .int x5)] 6 []) (x1 x2 x3 x4 x5 : Int32) (st : St) (hf : b_Tt_aboard_bs_6 K6 x1 x2 x3 x4 x5 st = some out) : j_i p l e rm_Tt_aboard_bs s m args below meth c sz D (WC ad cI) (LC ad) out 6 (WC ad cI st) [(0, .ref (ad 6)), (1, .int x1), (2, .int x2), (3, .int x3), (4, .int x4), (5, .int x5)] 6 [] := by
  unfold b_Tt_aboard_bs_6 at hf
  refine xj_iload C d_Tt_aboard_6 5 rfl ?_
  refine xj_iconst (v := 4) C d_Tt_aboard_8 rfl ?_
  refine xj_icmp_ge (tgt := 58) C d_Tt_aboard_9 (by decide) (fun h9 => ?_) (fun h9 => ?_)
  · have hf := xi_pos h9 hf
    refine xj_iload C d_Tt_aboard_58 4 rfl ?_
    exact xj_iret C hr hf d_Tt_aboard_60
  · have hf := xi_neg h9 hf
    refine xj_iload_n C d_Tt_aboard_12 rfl 3 rfl ?_
    refine xj_iload C d_Tt_aboard_13 5 rfl ?_
    obtain ⟨o1, ho1, hf⟩ := xb_some hf
    refine xj_callSNi (rest := []) C (c_LR_holds N ho1) Y_LR_holds i_Tt_25 (by decide) ⟨rfl, rfl⟩ rfl rfl (Nat.le_of_ble_eq_true rfl) d_Tt_aboard_15 (fun q h => Or.inl h) ?_
    refine xj_if_eq (tgt := 52) C d_Tt_aboard_18 (by decide) (fun h9 => ?_) (fun h9 => ?_)
    · have hf := xi_pos h9 hf
      exact xj_lv [0, 1, 2, 3, 4, 5] rfl (w_Tt_aboard_bs_52 N C hr hK6 x1 x2 x3 x4 x5 o1.2 hf)
    · have hf := xi_neg h9 hf
      refine xj_aload_n C d_Tt_aboard_21 rfl 0 rfl ?_
      refine xj_get C g_Tt_15 6 rfl rfl d_Tt_aboard_22 ?_
      refine xj_iload C d_Tt_aboard_25 5 rfl ?_
      obtain ⟨g2, hf⟩ := xb_guard hf
      refine xj_iald C 26 0 rfl rfl g2 d_Tt_aboard_27 ?_
      refine xj_iload_n C d_Tt_aboard_28 rfl 1 rfl ?_
      refine xj_icmp_ne (tgt := 52) C d_Tt_aboard_29 (by decide) (fun h9 => ?_) (fun h9 => ?_)
      · have hf := xi_neg h9 hf
        exact xj_lv [0, 1, 2, 3, 4, 5] rfl (w_Tt_aboard_bs_52 N C hr hK6 x1 x2 x3 x4 x5 o1.2 hf)
      · have hf := xi_pos h9 hf
        refine xj_aload_n C d_Tt_aboard_32 rfl 0 rfl ?_
        refine xj_get C g_Tt_18 6 rfl rfl d_Tt_aboard_33 ?_
        refine xj_iload C d_Tt_aboard_36 5 rfl ?_
        obtain ⟨g3, hf⟩ := xb_guard hf
        refine xj_iald C 27 0 rfl rfl g3 d_Tt_aboard_38 ?_
        refine xj_iload_n C d_Tt_aboard_39 rfl 2 rfl ?_
        refine xj_icmp_ne (tgt := 52) C d_Tt_aboard_40 (by decide) (fun h9 => ?_) (fun h9 => ?_)
        · have hf := xi_neg h9 hf
          exact xj_lv [0, 1, 2, 3, 4, 5] rfl (w_Tt_aboard_bs_52 N C hr hK6 x1 x2 x3 x4 x5 o1.2 hf)
        · have hf := xi_pos h9 hf
          refine xj_iload C d_Tt_aboard_43 4 rfl ?_
          refine xj_iconst (v := 1) C d_Tt_aboard_45 rfl ?_
          refine xj_iload C d_Tt_aboard_46 5 rfl ?_
          refine xj_ishl C d_Tt_aboard_48 ?_
          refine xj_ior C d_Tt_aboard_49 ?_
          refine xj_topi (fun v4 ev4 => ?_)
          have hf := xlet_at ev4 hf
          refine xj_istore C d_Tt_aboard_50 (by decide) rfl ?_
          exact xj_lv [1, 2, 3, 4, 0, 5] rfl (w_Tt_aboard_bs_52 N C hr hK6 x1 x2 x3 v4 x5 o1.2 hf)
set_option maxHeartbeats 4000000 in
set_option maxRecDepth 20000 in
theorem w_Tt_aboard_bs_6 {p : Program} {l : Launch} {e : Env} {s : State} {m : MethodId} {args : Array Value} {below : List Frame} {meth : Method} {c : Code} {sz : Nat} {D : va_G} {ad : Nat → Nat} {cI : ClassId} {out : Int32 × St} (N : (LC ad).Nodup) (C : xC p s m args meth c (xA (LC ad) sz) D 6 (tyC cI) b_Tt_aboard R_Tt) (hr : meth.sig.returnType = (some .int)) (n : Nat) : ∀ (x1 x2 x3 x4 x5 : Int32) (st : St), f_Tt_aboard_bs_6 n x1 x2 x3 x4 x5 st = some out → j_i p l e rm_Tt_aboard_bs s m args below meth c sz D (WC ad cI) (LC ad) out 6 (WC ad cI st) [(0, .ref (ad 6)), (1, .int x1), (2, .int x2), (3, .int x3), (4, .int x4), (5, .int x5)] 6 [] := by
  induction n with
  | zero => intro x1 x2 x3 x4 x5 st hf; exact absurd (show (none : Option (Int32 × St)) = some out from hf) (fun h => by cases h)
  | succ n ih => intro x1 x2 x3 x4 x5 st hf; exact wb_Tt_aboard_bs_6 N C hr ih x1 x2 x3 x4 x5 st hf
set_option maxHeartbeats 4000000 in
set_option maxRecDepth 20000 in
theorem c_Tt_aboard_bs {l : Launch} {D : va_G} {ad : Nat → Nat} {cI : ClassId} (N : (LC ad).Nodup) {x1 x2 x3 : Int32} {st : St} {out : Int32 × St} (hf : f_Tt_aboard_bs x1 x2 x3 st = some out) : xMi l y_Tt_aboard b_Tt_aboard 6 (some .int) rm_Tt_aboard_bs D (tyC cI) (WC ad cI) (LC ad) [.ref (ad 6), .int x1, .int x2, .int x3] st out := by
  intro sz
  refine xM_of (L := LC ad) (by decide) (Nat.le_of_ble_eq_true rfl) (fun p e s m below meth c hsz hr C => ?_)
  show j_i p l e rm_Tt_aboard_bs s m _ below meth c sz D (WC ad cI) (LC ad) out 6 (WC ad cI st) [(0, .ref (ad 6)), (1, .int x1), (2, .int x2), (3, .int x3)] 0 []
  unfold f_Tt_aboard_bs at hf
  refine xj_iconst (v := 0) C d_Tt_aboard_0 rfl ?_
  refine xj_istore C d_Tt_aboard_1 (by decide) rfl ?_
  refine xj_iconst (v := 0) C d_Tt_aboard_3 rfl ?_
  refine xj_istore C d_Tt_aboard_4 (by decide) rfl ?_
  exact xj_lv [2, 3, 4, 5, 1, 0] rfl (w_Tt_aboard_bs_6 N C hr 40 x1 x2 x3 0 0 st hf)
set_option maxHeartbeats 4000000 in
set_option maxRecDepth 20000 in
theorem c_Be_lay {l : Launch} {D : va_G} {ad : Nat → Nat} {cI : ClassId} (N : (LC ad).Nodup) {x1 x2 : Int32} {st : St} {out : Int32 × St} (hf : f_Be_lay x1 x2 st = some out) : xMi l y_Be_lay b_Be_lay 3 (some .boolean) rm_Be_lay D (tyC cI) (WC ad cI) (LC ad) [.ref (ad 3), .int x1, .int x2] st out := by
  intro sz
  refine xM_of (L := LC ad) (by decide) (Nat.le_of_ble_eq_true rfl) (fun p e s m below meth c hsz hr C => ?_)
  show j_i p l e rm_Be_lay s m _ below meth c sz D (WC ad cI) (LC ad) out 3 (WC ad cI st) [(0, .ref (ad 3)), (1, .int x1), (2, .int x2)] 0 []
  unfold f_Be_lay at hf
  refine xj_aload_n C d_Be_lay_0 rfl 0 rfl ?_
  refine xj_iconst (v := 0) C d_Be_lay_1 rfl ?_
  refine xj_iload_n C d_Be_lay_2 rfl 1 rfl ?_
  refine xj_iload_n C d_Be_lay_3 rfl 2 rfl ?_
  refine xj_iconst (v := 0) C d_Be_lay_4 rfl ?_
  obtain ⟨o1, ho1, hf⟩ := xb_some hf
  refine xj_callVi (rest := []) C (c_Be_layFrom N 5 ho1) Y_Be_layFrom i_Be_33 3 rfl rfl (by decide) ⟨rfl, rfl⟩ rfl rfl (Nat.le_of_ble_eq_true rfl) d_Be_lay_5 (fun q h => Or.inl h) ?_
  obtain ⟨g2, hf⟩ := xb_guard hf
  exact xj_zret C hr (xb_narrow g2) hf d_Be_lay_8
set_option maxHeartbeats 4000000 in
set_option maxRecDepth 20000 in
theorem c_Pl_layRunOf {l : Launch} {D : va_G} {ad : Nat → Nat} {cI : ClassId} (N : (LC ad).Nodup) {x1 : Int32} {st : St} {out : Int32 × St} (hf : f_Pl_layRunOf x1 st = some out) : xMi l y_Pl_layRunOf b_Pl_layRunOf 3 (some .boolean) rm_Pl_layRunOf D (tyC cI) (WC ad cI) (LC ad) [.ref (ad 4), .int x1] st out := by
  intro sz
  refine xM_of (L := LC ad) (by decide) (Nat.le_of_ble_eq_true rfl) (fun p e s m below meth c hsz hr C => ?_)
  show j_i p l e rm_Pl_layRunOf s m _ below meth c sz D (WC ad cI) (LC ad) out 3 (WC ad cI st) [(0, .ref (ad 4)), (1, .int x1)] 0 []
  unfold f_Pl_layRunOf at hf
  refine xj_aload_n C d_Pl_layRunOf_0 rfl 0 rfl ?_
  refine xj_get C g_Pl_18 4 rfl rfl d_Pl_layRunOf_1 ?_
  refine xj_iload_n C d_Pl_layRunOf_4 rfl 1 rfl ?_
  obtain ⟨o1, ho1, hf⟩ := xb_some hf
  refine xj_callVi (rest := []) C (c_Tt_chamberOf_bs N ho1) Y_Tt_chamberOf i_Pl_128 6 rfl rfl (by decide) ⟨rfl, rfl⟩ rfl rfl (Nat.le_of_ble_eq_true rfl) d_Pl_layRunOf_5 (fun q h => Or.inl h) ?_
  refine xj_istore_n C d_Pl_layRunOf_8 rfl (by decide) rfl ?_
  refine xj_aload_n C d_Pl_layRunOf_9 rfl 1 rfl ?_
  refine xj_get C g_Pl_36 4 rfl rfl d_Pl_layRunOf_10 ?_
  refine xj_iload_n C d_Pl_layRunOf_13 rfl 0 rfl ?_
  refine xj_aload_n C d_Pl_layRunOf_14 rfl 1 rfl ?_
  refine xj_get C g_Pl_18 4 rfl rfl d_Pl_layRunOf_15 ?_
  refine xj_iload_n C d_Pl_layRunOf_18 rfl 0 rfl ?_
  refine xj_aload_n C d_Pl_layRunOf_19 rfl 1 rfl ?_
  refine xj_get C g_Pl_18 4 rfl rfl d_Pl_layRunOf_20 ?_
  refine xj_iload_n C d_Pl_layRunOf_23 rfl 2 rfl ?_
  obtain ⟨o2, ho2, hf⟩ := xb_some hf
  refine xj_callVi (rest := [.int o1.1, .ref (ad 6), .int o1.1, .ref (ad 3)]) C (c_Tt_runOf_bs N ho2) Y_Tt_runOf i_Pl_131 6 rfl rfl (by decide) ⟨rfl, rfl⟩ rfl rfl (Nat.le_of_ble_eq_true rfl) d_Pl_layRunOf_24 (fun q h => Or.inl h) ?_
  refine xj_aload_n C d_Pl_layRunOf_27 rfl 1 rfl ?_
  refine xj_get C g_Pl_32 4 rfl rfl d_Pl_layRunOf_28 ?_
  obtain ⟨o3, ho3, hf⟩ := xb_some hf
  refine xj_callVi (rest := [.int o2.1, .int o1.1, .ref (ad 6), .int o1.1, .ref (ad 3)]) C (c_Fl_all N ho3) Y_Fl_all i_Pl_48 2 rfl rfl (by decide) ⟨rfl, rfl⟩ rfl rfl (Nat.le_of_ble_eq_true rfl) d_Pl_layRunOf_31 (fun q h => Or.inl h) ?_
  obtain ⟨o4, ho4, hf⟩ := xb_some hf
  refine xj_callVi (rest := [.int o1.1, .ref (ad 3)]) C (c_Tt_aboard_bs N ho4) Y_Tt_aboard i_Pl_146 6 rfl rfl (by decide) ⟨rfl, rfl⟩ rfl rfl (Nat.le_of_ble_eq_true rfl) d_Pl_layRunOf_34 (fun q h => Or.inl h) ?_
  obtain ⟨o5, ho5, hf⟩ := xb_some hf
  refine xj_callVi (rest := []) C (c_Be_lay N ho5) Y_Be_lay i_Pl_150 3 rfl rfl (by decide) ⟨rfl, rfl⟩ rfl rfl (Nat.le_of_ble_eq_true rfl) d_Pl_layRunOf_37 (fun q h => Or.inl h) ?_
  obtain ⟨g6, hf⟩ := xb_guard hf
  exact xj_zret C hr (xb_narrow g6) hf d_Pl_layRunOf_40
set_option maxHeartbeats 4000000 in
set_option maxRecDepth 20000 in
theorem c_Be_x {l : Launch} {D : va_G} {ad : Nat → Nat} {cI : ClassId} (N : (LC ad).Nodup) {x1 : Int32} {st : St} {out : Int32 × St} (hf : f_Be_x x1 st = some out) : xMi l y_Be_x b_Be_x 2 (some .int) rm_Be_x D (tyC cI) (WC ad cI) (LC ad) [.ref (ad 3), .int x1] st out := by
  intro sz
  refine xM_of (L := LC ad) (by decide) (Nat.le_of_ble_eq_true rfl) (fun p e s m below meth c hsz hr C => ?_)
  show j_i p l e rm_Be_x s m _ below meth c sz D (WC ad cI) (LC ad) out 2 (WC ad cI st) [(0, .ref (ad 3)), (1, .int x1)] 0 []
  unfold f_Be_x at hf
  refine xj_iload_n C d_Be_x_0 rfl 1 rfl ?_
  refine xj_if_lt (tgt := 18) C d_Be_x_1 (by decide) (fun h9 => ?_) (fun h9 => ?_)
  · have hf := xi_pos h9 hf
    refine xj_iconst (v := (-1)) C d_Be_x_18 rfl ?_
    exact xj_iret C hr hf d_Be_x_19
  · have hf := xi_neg h9 hf
    refine xj_iload_n C d_Be_x_4 rfl 1 rfl ?_
    refine xj_iconst (v := 4) C d_Be_x_5 rfl ?_
    refine xj_icmp_ge (tgt := 18) C d_Be_x_6 (by decide) (fun h9 => ?_) (fun h9 => ?_)
    · have hf := xi_pos h9 hf
      refine xj_iconst (v := (-1)) C d_Be_x_18 rfl ?_
      exact xj_iret C hr hf d_Be_x_19
    · have hf := xi_neg h9 hf
      refine xj_aload_n C d_Be_x_9 rfl 0 rfl ?_
      refine xj_get C g_Be_9 3 rfl rfl d_Be_x_10 ?_
      refine xj_iload_n C d_Be_x_13 rfl 1 rfl ?_
      obtain ⟨g1, hf⟩ := xb_guard hf
      refine xj_iald C 19 0 rfl rfl g1 d_Be_x_14 ?_
      refine xj_goto (tgt := 19) C d_Be_x_15 (by decide) ?_
      exact xj_iret C hr hf d_Be_x_19
end
section
set_option maxHeartbeats 4000000 in
set_option maxRecDepth 20000 in
theorem c_Be_y {l : Launch} {D : va_G} {ad : Nat → Nat} {cI : ClassId} (N : (LC ad).Nodup) {x1 : Int32} {st : St} {out : Int32 × St} (hf : f_Be_y x1 st = some out) : xMi l y_Be_y b_Be_y 2 (some .int) rm_Be_y D (tyC cI) (WC ad cI) (LC ad) [.ref (ad 3), .int x1] st out := by
  intro sz
  refine xM_of (L := LC ad) (by decide) (Nat.le_of_ble_eq_true rfl) (fun p e s m below meth c hsz hr C => ?_)
  show j_i p l e rm_Be_y s m _ below meth c sz D (WC ad cI) (LC ad) out 2 (WC ad cI st) [(0, .ref (ad 3)), (1, .int x1)] 0 []
  unfold f_Be_y at hf
  refine xj_iload_n C d_Be_y_0 rfl 1 rfl ?_
  refine xj_if_lt (tgt := 18) C d_Be_y_1 (by decide) (fun h9 => ?_) (fun h9 => ?_)
  · have hf := xi_pos h9 hf
    refine xj_iconst (v := (-1)) C d_Be_y_18 rfl ?_
    exact xj_iret C hr hf d_Be_y_19
  · have hf := xi_neg h9 hf
    refine xj_iload_n C d_Be_y_4 rfl 1 rfl ?_
    refine xj_iconst (v := 4) C d_Be_y_5 rfl ?_
    refine xj_icmp_ge (tgt := 18) C d_Be_y_6 (by decide) (fun h9 => ?_) (fun h9 => ?_)
    · have hf := xi_pos h9 hf
      refine xj_iconst (v := (-1)) C d_Be_y_18 rfl ?_
      exact xj_iret C hr hf d_Be_y_19
    · have hf := xi_neg h9 hf
      refine xj_aload_n C d_Be_y_9 rfl 0 rfl ?_
      refine xj_get C g_Be_15 3 rfl rfl d_Be_y_10 ?_
      refine xj_iload_n C d_Be_y_13 rfl 1 rfl ?_
      obtain ⟨g1, hf⟩ := xb_guard hf
      refine xj_iald C 20 0 rfl rfl g1 d_Be_y_14 ?_
      refine xj_goto (tgt := 19) C d_Be_y_15 (by decide) ?_
      exact xj_iret C hr hf d_Be_y_19
set_option maxHeartbeats 4000000 in
set_option maxRecDepth 20000 in
theorem c_Fl_arrival {l : Launch} {D : va_G} {ad : Nat → Nat} {cI : ClassId} (N : (LC ad).Nodup) {x1 : Int32} {st : St} {out : Int32 × St} (hf : f_Fl_arrival x1 st = some out) : xMi l y_Fl_arrival b_Fl_arrival 2 (some .int) rm_Fl_arrival D (tyC cI) (WC ad cI) (LC ad) [.ref (ad 2), .int x1] st out := by
  intro sz
  refine xM_of (L := LC ad) (by decide) (Nat.le_of_ble_eq_true rfl) (fun p e s m below meth c hsz hr C => ?_)
  show j_i p l e rm_Fl_arrival s m _ below meth c sz D (WC ad cI) (LC ad) out 2 (WC ad cI st) [(0, .ref (ad 2)), (1, .int x1)] 0 []
  unfold f_Fl_arrival at hf
  refine xj_aload_n C d_Fl_arrival_0 rfl 0 rfl ?_
  refine xj_iload_n C d_Fl_arrival_1 rfl 1 rfl ?_
  obtain ⟨o1, ho1, hf⟩ := xb_some hf
  refine xj_callVi (rest := []) C (c_Fl_has N ho1) Y_Fl_has i_Fl_31 2 rfl rfl (by decide) ⟨rfl, rfl⟩ rfl rfl (Nat.le_of_ble_eq_true rfl) d_Fl_arrival_2 (fun q h => Or.inl h) ?_
  refine xj_if_eq (tgt := 17) C d_Fl_arrival_5 (by decide) (fun h9 => ?_) (fun h9 => ?_)
  · have hf := xi_pos h9 hf
    refine xj_iconst (v := 0) C d_Fl_arrival_17 rfl ?_
    exact xj_iret C hr hf d_Fl_arrival_18
  · have hf := xi_neg h9 hf
    refine xj_aload_n C d_Fl_arrival_8 rfl 0 rfl ?_
    refine xj_get C g_Fl_18 2 rfl rfl d_Fl_arrival_9 ?_
    refine xj_iload_n C d_Fl_arrival_12 rfl 1 rfl ?_
    obtain ⟨g2, hf⟩ := xb_guard hf
    refine xj_iald C 16 0 rfl rfl g2 d_Fl_arrival_13 ?_
    refine xj_goto (tgt := 18) C d_Fl_arrival_14 (by decide) ?_
    exact xj_iret C hr hf d_Fl_arrival_18
set_option maxHeartbeats 4000000 in
set_option maxRecDepth 20000 in
theorem w_Pl_overtaken_bs_47 {p : Program} {l : Launch} {e : Env} {s : State} {m : MethodId} {args : Array Value} {below : List Frame} {meth : Method} {c : Code} {sz : Nat} {D : va_G} {ad : Nat → Nat} {cI : ClassId} {out : Int32 × St} (N : (LC ad).Nodup) (C : xC p s m args meth c (xA (LC ad) sz) D 5 (tyC cI) b_Pl_overtaken R_Pl) (hr : meth.sig.returnType = (some .int)) {K5 : Int32 → Int32 → Int32 → St → Option (Int32 × St)} (hK5 : ∀ (x2 x3 x4 : Int32) (st : St), K5 x2 x3 x4 st = some out → j_i p l e rm_Pl_overtaken_bs s m args below meth c sz D (WC ad cI) (LC ad) out 5 (WC ad cI st) [(0, .ref (ad 4)), (1, .ref (ad 6)), (2, .int x2), (3, .int x3), (4, .int x4)] 5 []) (x2 x3 x4 : Int32) (st : St) (hf : f_Pl_overtaken_bs_47 K5 x2 x3 x4 st = some out) : j_i p l e rm_Pl_overtaken_bs s m args below meth c sz D (WC ad cI) (LC ad) out 5 (WC ad cI st) [(0, .ref (ad 4)), (1, .ref (ad 6)), (2, .int x2), (3, .int x3), (4, .int x4)] 47 [] := by
  unfold f_Pl_overtaken_bs_47 at hf
  refine xj_iinc (v := x4 + 1) (j := 4) C d_Pl_overtaken_47 rfl rfl (by decide) rfl ?_
  refine xj_goto (tgt := 5) C d_Pl_overtaken_50 (by decide) ?_
  exact xj_lv [1, 2, 3, 4, 0] rfl (hK5 x2 x3 (x4 + 1) st hf)
set_option maxHeartbeats 4000000 in
set_option maxRecDepth 20000 in
theorem wb_Pl_overtaken_bs_5 {p : Program} {l : Launch} {e : Env} {s : State} {m : MethodId} {args : Array Value} {below : List Frame} {meth : Method} {c : Code} {sz : Nat} {D : va_G} {ad : Nat → Nat} {cI : ClassId} {out : Int32 × St} (N : (LC ad).Nodup) (C : xC p s m args meth c (xA (LC ad) sz) D 5 (tyC cI) b_Pl_overtaken R_Pl) (hr : meth.sig.returnType = (some .int)) {K5 : Int32 → Int32 → Int32 → St → Option (Int32 × St)} (hK5 : ∀ (x2 x3 x4 : Int32) (st : St), K5 x2 x3 x4 st = some out → j_i p l e rm_Pl_overtaken_bs s m args below meth c sz D (WC ad cI) (LC ad) out 5 (WC ad cI st) [(0, .ref (ad 4)), (1, .ref (ad 6)), (2, .int x2), (3, .int x3), (4, .int x4)] 5 []) (x2 x3 x4 : Int32) (st : St) (hf : b_Pl_overtaken_bs_5 K5 x2 x3 x4 st = some out) : j_i p l e rm_Pl_overtaken_bs s m args below meth c sz D (WC ad cI) (LC ad) out 5 (WC ad cI st) [(0, .ref (ad 4)), (1, .ref (ad 6)), (2, .int x2), (3, .int x3), (4, .int x4)] 5 [] := by
  unfold b_Pl_overtaken_bs_5 at hf
  refine xj_iload C d_Pl_overtaken_5 4 rfl ?_
  refine xj_aload_n C d_Pl_overtaken_7 rfl 0 rfl ?_
  refine xj_get C g_Pl_32 4 rfl rfl d_Pl_overtaken_8 ?_
  obtain ⟨o1, ho1, hf⟩ := xb_some hf
  refine xj_callVi (rest := [.int x4]) C (c_Fl_size N ho1) Y_Fl_size i_Pl_109 2 rfl rfl (by decide) ⟨rfl, rfl⟩ rfl rfl (Nat.le_of_ble_eq_true rfl) d_Pl_overtaken_11 (fun q h => Or.inl h) ?_
  refine xj_icmp_ge (tgt := 53) C d_Pl_overtaken_14 (by decide) (fun h9 => ?_) (fun h9 => ?_)
  · have hf := xi_pos h9 hf
    refine xj_iload_n C d_Pl_overtaken_53 rfl 3 rfl ?_
    exact xj_iret C hr hf d_Pl_overtaken_54
  · have hf := xi_neg h9 hf
    refine xj_aload_n C d_Pl_overtaken_17 rfl 0 rfl ?_
    refine xj_get C g_Pl_32 4 rfl rfl d_Pl_overtaken_18 ?_
    refine xj_iload C d_Pl_overtaken_21 4 rfl ?_
    refine xj_iload_n C d_Pl_overtaken_23 rfl 2 rfl ?_
    obtain ⟨o2, ho2, hf⟩ := xb_some hf
    refine xj_callVi (rest := []) C (c_Fl_comesBehind N ho2) Y_Fl_comesBehind i_Pl_122 2 rfl rfl (by decide) ⟨rfl, rfl⟩ rfl rfl (Nat.le_of_ble_eq_true rfl) d_Pl_overtaken_24 (fun q h => Or.inl h) ?_
    refine xj_if_eq (tgt := 47) C d_Pl_overtaken_27 (by decide) (fun h9 => ?_) (fun h9 => ?_)
    · have hf := xi_pos h9 hf
      exact xj_lv [0, 1, 2, 3, 4] rfl (w_Pl_overtaken_bs_47 N C hr hK5 x2 x3 x4 o2.2 hf)
    · have hf := xi_neg h9 hf
      refine xj_aload_n C d_Pl_overtaken_30 rfl 1 rfl ?_
      refine xj_iload C d_Pl_overtaken_31 4 rfl ?_
      obtain ⟨o3, ho3, hf⟩ := xb_some hf
      refine xj_callVi (rest := []) C (c_Tt_begin_bs N ho3) Y_Tt_begin i_Pl_125 6 rfl rfl (by decide) ⟨rfl, rfl⟩ rfl rfl (Nat.le_of_ble_eq_true rfl) d_Pl_overtaken_33 (fun q h => Or.inl h) ?_
      refine xj_aload_n C d_Pl_overtaken_36 rfl 1 rfl ?_
      refine xj_iload_n C d_Pl_overtaken_37 rfl 2 rfl ?_
      obtain ⟨o4, ho4, hf⟩ := xb_some hf
      refine xj_callVi (rest := [.int o3.1]) C (c_Tt_begin_bs N ho4) Y_Tt_begin i_Pl_125 6 rfl rfl (by decide) ⟨rfl, rfl⟩ rfl rfl (Nat.le_of_ble_eq_true rfl) d_Pl_overtaken_38 (fun q h => Or.inl h) ?_
      refine xj_icmp_ge (tgt := 47) C d_Pl_overtaken_41 (by decide) (fun h9 => ?_) (fun h9 => ?_)
      · have hf := xi_pos h9 hf
        exact xj_lv [0, 1, 2, 3, 4] rfl (w_Pl_overtaken_bs_47 N C hr hK5 x2 x3 x4 o4.2 hf)
      · have hf := xi_neg h9 hf
        refine xj_iinc (v := x3 + 1) (j := 3) C d_Pl_overtaken_44 rfl rfl (by decide) rfl ?_
        exact xj_lv [1, 2, 3, 0, 4] rfl (w_Pl_overtaken_bs_47 N C hr hK5 x2 (x3 + 1) x4 o4.2 hf)
set_option maxHeartbeats 4000000 in
set_option maxRecDepth 20000 in
theorem w_Pl_overtaken_bs_5 {p : Program} {l : Launch} {e : Env} {s : State} {m : MethodId} {args : Array Value} {below : List Frame} {meth : Method} {c : Code} {sz : Nat} {D : va_G} {ad : Nat → Nat} {cI : ClassId} {out : Int32 × St} (N : (LC ad).Nodup) (C : xC p s m args meth c (xA (LC ad) sz) D 5 (tyC cI) b_Pl_overtaken R_Pl) (hr : meth.sig.returnType = (some .int)) (n : Nat) : ∀ (x2 x3 x4 : Int32) (st : St), f_Pl_overtaken_bs_5 n x2 x3 x4 st = some out → j_i p l e rm_Pl_overtaken_bs s m args below meth c sz D (WC ad cI) (LC ad) out 5 (WC ad cI st) [(0, .ref (ad 4)), (1, .ref (ad 6)), (2, .int x2), (3, .int x3), (4, .int x4)] 5 [] := by
  induction n with
  | zero => intro x2 x3 x4 st hf; exact absurd (show (none : Option (Int32 × St)) = some out from hf) (fun h => by cases h)
  | succ n ih => intro x2 x3 x4 st hf; exact wb_Pl_overtaken_bs_5 N C hr ih x2 x3 x4 st hf
set_option maxHeartbeats 4000000 in
set_option maxRecDepth 20000 in
theorem c_Pl_overtaken_bs {l : Launch} {D : va_G} {ad : Nat → Nat} {cI : ClassId} (N : (LC ad).Nodup) {x2 : Int32} {st : St} {out : Int32 × St} (hf : f_Pl_overtaken_bs x2 st = some out) : xMi l y_Pl_overtaken b_Pl_overtaken 5 (some .int) rm_Pl_overtaken_bs D (tyC cI) (WC ad cI) (LC ad) [.ref (ad 4), .ref (ad 6), .int x2] st out := by
  intro sz
  refine xM_of (L := LC ad) (by decide) (Nat.le_of_ble_eq_true rfl) (fun p e s m below meth c hsz hr C => ?_)
  show j_i p l e rm_Pl_overtaken_bs s m _ below meth c sz D (WC ad cI) (LC ad) out 5 (WC ad cI st) [(0, .ref (ad 4)), (1, .ref (ad 6)), (2, .int x2)] 0 []
  unfold f_Pl_overtaken_bs at hf
  refine xj_iconst (v := 0) C d_Pl_overtaken_0 rfl ?_
  refine xj_istore_n C d_Pl_overtaken_1 rfl (by decide) rfl ?_
  refine xj_iconst (v := 0) C d_Pl_overtaken_2 rfl ?_
  refine xj_istore C d_Pl_overtaken_3 (by decide) rfl ?_
  exact xj_lv [2, 3, 4, 1, 0] rfl (w_Pl_overtaken_bs_5 N C hr 40 x2 0 0 st hf)
set_option maxHeartbeats 4000000 in
set_option maxRecDepth 20000 in
theorem c_Pl_tellShip {l : Launch} {D : va_G} {ad : Nat → Nat} {cI : ClassId} (N : (LC ad).Nodup) {x1 x2 : Int32} {st : St} {out : Int32 × St} (hf : f_Pl_tellShip x1 x2 st = some out) : xMi l y_Pl_tellShip b_Pl_tellShip 3 (some .int) rm_Pl_tellShip D (tyC cI) (WC ad cI) (LC ad) [.ref (ad 4), .int x1, .int x2] st out := by
  intro sz
  refine xM_of (L := LC ad) (by decide) (Nat.le_of_ble_eq_true rfl) (fun p e s m below meth c hsz hr C => ?_)
  show j_i p l e rm_Pl_tellShip s m _ below meth c sz D (WC ad cI) (LC ad) out 3 (WC ad cI st) [(0, .ref (ad 4)), (1, .int x1), (2, .int x2)] 0 []
  unfold f_Pl_tellShip at hf
  refine xj_iload_n C d_Pl_tellShip_0 rfl 2 rfl ?_
  by_cases h09 : x2 = 0
  · have hf := xi_pos h09 hf
    refine xj_tableIn (tgt := 44) C d_Pl_tellShip_1 (by rw [h09]; decide) (by rw [h09]; decide) (by rw [h09]; rfl) (by decide) ?_
    refine xj_aload_n C d_Pl_tellShip_44 rfl 0 rfl ?_
    refine xj_get C g_Pl_18 4 rfl rfl d_Pl_tellShip_45 ?_
    refine xj_iload_n C d_Pl_tellShip_48 rfl 1 rfl ?_
    obtain ⟨o1, ho1, hf⟩ := xb_some hf
    refine xj_callVi (rest := []) C (c_Tt_chamberOf_bs N ho1) Y_Tt_chamberOf i_Pl_128 6 rfl rfl (by decide) ⟨rfl, rfl⟩ rfl rfl (Nat.le_of_ble_eq_true rfl) d_Pl_tellShip_49 (fun q h => Or.inl h) ?_
    exact xj_iret C hr hf d_Pl_tellShip_52
  have hf := xi_neg h09 hf
  by_cases h19 : x2 = 1
  · have hf := xi_pos h19 hf
    refine xj_tableIn (tgt := 53) C d_Pl_tellShip_1 (by rw [h19]; decide) (by rw [h19]; decide) (by rw [h19]; rfl) (by decide) ?_
    refine xj_aload_n C d_Pl_tellShip_53 rfl 0 rfl ?_
    refine xj_get C g_Pl_18 4 rfl rfl d_Pl_tellShip_54 ?_
    refine xj_iload_n C d_Pl_tellShip_57 rfl 1 rfl ?_
    obtain ⟨o2, ho2, hf⟩ := xb_some hf
    refine xj_callVi (rest := []) C (c_Tt_runOf_bs N ho2) Y_Tt_runOf i_Pl_131 6 rfl rfl (by decide) ⟨rfl, rfl⟩ rfl rfl (Nat.le_of_ble_eq_true rfl) d_Pl_tellShip_58 (fun q h => Or.inl h) ?_
    exact xj_iret C hr hf d_Pl_tellShip_61
  have hf := xi_neg h19 hf
  by_cases h29 : x2 = 2
  · have hf := xi_pos h29 hf
    refine xj_tableIn (tgt := 62) C d_Pl_tellShip_1 (by rw [h29]; decide) (by rw [h29]; decide) (by rw [h29]; rfl) (by decide) ?_
    refine xj_aload_n C d_Pl_tellShip_62 rfl 0 rfl ?_
    refine xj_get C g_Pl_18 4 rfl rfl d_Pl_tellShip_63 ?_
    refine xj_iload_n C d_Pl_tellShip_66 rfl 1 rfl ?_
    obtain ⟨o3, ho3, hf⟩ := xb_some hf
    refine xj_callVi (rest := []) C (c_Tt_begin_bs N ho3) Y_Tt_begin i_Pl_125 6 rfl rfl (by decide) ⟨rfl, rfl⟩ rfl rfl (Nat.le_of_ble_eq_true rfl) d_Pl_tellShip_67 (fun q h => Or.inl h) ?_
    exact xj_iret C hr hf d_Pl_tellShip_70
  have hf := xi_neg h29 hf
  by_cases h39 : x2 = 3
  · have hf := xi_pos h39 hf
    refine xj_tableIn (tgt := 71) C d_Pl_tellShip_1 (by rw [h39]; decide) (by rw [h39]; decide) (by rw [h39]; rfl) (by decide) ?_
    refine xj_aload_n C d_Pl_tellShip_71 rfl 0 rfl ?_
    refine xj_iload_n C d_Pl_tellShip_72 rfl 1 rfl ?_
    obtain ⟨o4, ho4, hf⟩ := xb_some hf
    refine xj_callVi (rest := []) C (c_Pl_layRunOf N ho4) Y_Pl_layRunOf i_Pl_134 4 rfl rfl (by decide) ⟨rfl, rfl⟩ rfl rfl (Nat.le_of_ble_eq_true rfl) d_Pl_tellShip_73 (fun q h => Or.inl h) ?_
    refine xj_if_eq (tgt := 90) C d_Pl_tellShip_76 (by decide) (fun h9 => ?_) (fun h9 => ?_)
    · have hf := xi_pos h9 hf
      refine xj_iconst (v := (-1)) C d_Pl_tellShip_90 rfl ?_
      exact xj_iret C hr hf d_Pl_tellShip_91
    · have hf := xi_neg h9 hf
      refine xj_aload_n C d_Pl_tellShip_79 rfl 0 rfl ?_
      refine xj_get C g_Pl_36 4 rfl rfl d_Pl_tellShip_80 ?_
      refine xj_iload_n C d_Pl_tellShip_83 rfl 1 rfl ?_
      obtain ⟨o5, ho5, hf⟩ := xb_some hf
      refine xj_callVi (rest := []) C (c_Be_x N ho5) Y_Be_x i_Pl_137 3 rfl rfl (by decide) ⟨rfl, rfl⟩ rfl rfl (Nat.le_of_ble_eq_true rfl) d_Pl_tellShip_84 (fun q h => Or.inl h) ?_
      refine xj_goto (tgt := 91) C d_Pl_tellShip_87 (by decide) ?_
      exact xj_iret C hr hf d_Pl_tellShip_91
  have hf := xi_neg h39 hf
  by_cases h49 : x2 = 4
  · have hf := xi_pos h49 hf
    refine xj_tableIn (tgt := 92) C d_Pl_tellShip_1 (by rw [h49]; decide) (by rw [h49]; decide) (by rw [h49]; rfl) (by decide) ?_
    refine xj_aload_n C d_Pl_tellShip_92 rfl 0 rfl ?_
    refine xj_iload_n C d_Pl_tellShip_93 rfl 1 rfl ?_
    obtain ⟨o6, ho6, hf⟩ := xb_some hf
    refine xj_callVi (rest := []) C (c_Pl_layRunOf N ho6) Y_Pl_layRunOf i_Pl_134 4 rfl rfl (by decide) ⟨rfl, rfl⟩ rfl rfl (Nat.le_of_ble_eq_true rfl) d_Pl_tellShip_94 (fun q h => Or.inl h) ?_
    refine xj_if_eq (tgt := 111) C d_Pl_tellShip_97 (by decide) (fun h9 => ?_) (fun h9 => ?_)
    · have hf := xi_pos h9 hf
      refine xj_iconst (v := (-1)) C d_Pl_tellShip_111 rfl ?_
      exact xj_iret C hr hf d_Pl_tellShip_112
    · have hf := xi_neg h9 hf
      refine xj_aload_n C d_Pl_tellShip_100 rfl 0 rfl ?_
      refine xj_get C g_Pl_36 4 rfl rfl d_Pl_tellShip_101 ?_
      refine xj_iload_n C d_Pl_tellShip_104 rfl 1 rfl ?_
      obtain ⟨o7, ho7, hf⟩ := xb_some hf
      refine xj_callVi (rest := []) C (c_Be_y N ho7) Y_Be_y i_Pl_140 3 rfl rfl (by decide) ⟨rfl, rfl⟩ rfl rfl (Nat.le_of_ble_eq_true rfl) d_Pl_tellShip_105 (fun q h => Or.inl h) ?_
      refine xj_goto (tgt := 112) C d_Pl_tellShip_108 (by decide) ?_
      exact xj_iret C hr hf d_Pl_tellShip_112
  have hf := xi_neg h49 hf
  by_cases h59 : x2 = 5
  · have hf := xi_pos h59 hf
    refine xj_tableIn (tgt := 113) C d_Pl_tellShip_1 (by rw [h59]; decide) (by rw [h59]; decide) (by rw [h59]; rfl) (by decide) ?_
    refine xj_aload_n C d_Pl_tellShip_113 rfl 0 rfl ?_
    refine xj_get C g_Pl_18 4 rfl rfl d_Pl_tellShip_114 ?_
    refine xj_iload_n C d_Pl_tellShip_117 rfl 1 rfl ?_
    obtain ⟨o8, ho8, hf⟩ := xb_some hf
    refine xj_callVi (rest := []) C (c_Tt_begin_bs N ho8) Y_Tt_begin i_Pl_125 6 rfl rfl (by decide) ⟨rfl, rfl⟩ rfl rfl (Nat.le_of_ble_eq_true rfl) d_Pl_tellShip_118 (fun q h => Or.inl h) ?_
    refine xj_aload_n C d_Pl_tellShip_121 rfl 0 rfl ?_
    refine xj_get C g_Pl_32 4 rfl rfl d_Pl_tellShip_122 ?_
    refine xj_iload_n C d_Pl_tellShip_125 rfl 1 rfl ?_
    obtain ⟨o9, ho9, hf⟩ := xb_some hf
    refine xj_callVi (rest := [.int o8.1]) C (c_Fl_arrival N ho9) Y_Fl_arrival i_Pl_143 2 rfl rfl (by decide) ⟨rfl, rfl⟩ rfl rfl (Nat.le_of_ble_eq_true rfl) d_Pl_tellShip_126 (fun q h => Or.inl h) ?_
    refine xj_isub C d_Pl_tellShip_129 ?_
    exact xj_iret C hr hf d_Pl_tellShip_130
  have hf := xi_neg h59 hf
  by_cases h69 : x2 = 6
  · have hf := xi_pos h69 hf
    refine xj_tableIn (tgt := 131) C d_Pl_tellShip_1 (by rw [h69]; decide) (by rw [h69]; decide) (by rw [h69]; rfl) (by decide) ?_
    refine xj_aload_n C d_Pl_tellShip_131 rfl 0 rfl ?_
    refine xj_aload_n C d_Pl_tellShip_132 rfl 0 rfl ?_
    refine xj_get C g_Pl_18 4 rfl rfl d_Pl_tellShip_133 ?_
    refine xj_iload_n C d_Pl_tellShip_136 rfl 1 rfl ?_
    obtain ⟨o10, ho10, hf⟩ := xb_some hf
    refine xj_callVi (rest := []) C (c_Pl_overtaken_bs N ho10) Y_Pl_overtaken i_Pl_112 4 rfl rfl (by decide) ⟨rfl, rfl⟩ rfl rfl (Nat.le_of_ble_eq_true rfl) d_Pl_tellShip_137 (fun q h => Or.inl h) ?_
    exact xj_iret C hr hf d_Pl_tellShip_140
  have hf := xi_neg h69 hf
  refine xj_tableOut (tgt := 141) C d_Pl_tellShip_1 (xsw_out 7 (by decide) (fun k hk => by rcases xlt_7 hk with rfl | rfl | rfl | rfl | rfl | rfl | rfl <;> assumption)) (by decide) ?_
  refine xj_iconst (v := (-1)) C d_Pl_tellShip_141 rfl ?_
  exact xj_iret C hr hf d_Pl_tellShip_142
set_option maxHeartbeats 4000000 in
set_option maxRecDepth 20000 in
theorem wb_Tt_beginOfAll_bs_2 {p : Program} {l : Launch} {e : Env} {s : State} {m : MethodId} {args : Array Value} {below : List Frame} {meth : Method} {c : Code} {sz : Nat} {D : va_G} {ad : Nat → Nat} {cI : ClassId} {out : Int32 × St} (N : (LC ad).Nodup) (C : xC p s m args meth c (xA (LC ad) sz) D 3 (tyC cI) b_Tt_beginOfAll R_Tt) (hr : meth.sig.returnType = (some .int)) {K2 : Int32 → Int32 → St → Option (Int32 × St)} (hK2 : ∀ (x1 x2 : Int32) (st : St), K2 x1 x2 st = some out → j_i p l e rm_Tt_beginOfAll_bs s m args below meth c sz D (WC ad cI) (LC ad) out 3 (WC ad cI st) [(0, .ref (ad 6)), (1, .int x1), (2, .int x2)] 2 []) (x1 x2 : Int32) (st : St) (hf : b_Tt_beginOfAll_bs_2 K2 x1 x2 st = some out) : j_i p l e rm_Tt_beginOfAll_bs s m args below meth c sz D (WC ad cI) (LC ad) out 3 (WC ad cI st) [(0, .ref (ad 6)), (1, .int x1), (2, .int x2)] 2 [] := by
  unfold b_Tt_beginOfAll_bs_2 at hf
  refine xj_iload_n C d_Tt_beginOfAll_2 rfl 2 rfl ?_
  refine xj_iconst (v := 4) C d_Tt_beginOfAll_3 rfl ?_
  refine xj_icmp_ge (tgt := 28) C d_Tt_beginOfAll_4 (by decide) (fun h9 => ?_) (fun h9 => ?_)
  · have hf := xi_pos h9 hf
    refine xj_iconst (v := (-1)) C d_Tt_beginOfAll_28 rfl ?_
    exact xj_iret C hr hf d_Tt_beginOfAll_29
  · have hf := xi_neg h9 hf
    refine xj_iload_n C d_Tt_beginOfAll_7 rfl 1 rfl ?_
    refine xj_iload_n C d_Tt_beginOfAll_8 rfl 2 rfl ?_
    obtain ⟨o1, ho1, hf⟩ := xb_some hf
    refine xj_callSNi (rest := []) C (c_LR_holds N ho1) Y_LR_holds i_Tt_25 (by decide) ⟨rfl, rfl⟩ rfl rfl (Nat.le_of_ble_eq_true rfl) d_Tt_beginOfAll_9 (fun q h => Or.inl h) ?_
    refine xj_if_eq (tgt := 22) C d_Tt_beginOfAll_12 (by decide) (fun h9 => ?_) (fun h9 => ?_)
    · have hf := xi_pos h9 hf
      refine xj_iinc (v := x2 + 1) (j := 2) C d_Tt_beginOfAll_22 rfl rfl (by decide) rfl ?_
      refine xj_goto (tgt := 2) C d_Tt_beginOfAll_25 (by decide) ?_
      exact xj_lv [1, 2, 0] rfl (hK2 x1 (x2 + 1) o1.2 hf)
    · have hf := xi_neg h9 hf
      refine xj_aload_n C d_Tt_beginOfAll_15 rfl 0 rfl ?_
      refine xj_get C g_Tt_9 6 rfl rfl d_Tt_beginOfAll_16 ?_
      refine xj_iload_n C d_Tt_beginOfAll_19 rfl 2 rfl ?_
      obtain ⟨g2, hf⟩ := xb_guard hf
      refine xj_iald C 25 0 rfl rfl g2 d_Tt_beginOfAll_20 ?_
      exact xj_iret C hr hf d_Tt_beginOfAll_21
set_option maxHeartbeats 4000000 in
set_option maxRecDepth 20000 in
theorem w_Tt_beginOfAll_bs_2 {p : Program} {l : Launch} {e : Env} {s : State} {m : MethodId} {args : Array Value} {below : List Frame} {meth : Method} {c : Code} {sz : Nat} {D : va_G} {ad : Nat → Nat} {cI : ClassId} {out : Int32 × St} (N : (LC ad).Nodup) (C : xC p s m args meth c (xA (LC ad) sz) D 3 (tyC cI) b_Tt_beginOfAll R_Tt) (hr : meth.sig.returnType = (some .int)) (n : Nat) : ∀ (x1 x2 : Int32) (st : St), f_Tt_beginOfAll_bs_2 n x1 x2 st = some out → j_i p l e rm_Tt_beginOfAll_bs s m args below meth c sz D (WC ad cI) (LC ad) out 3 (WC ad cI st) [(0, .ref (ad 6)), (1, .int x1), (2, .int x2)] 2 [] := by
  induction n with
  | zero => intro x1 x2 st hf; exact absurd (show (none : Option (Int32 × St)) = some out from hf) (fun h => by cases h)
  | succ n ih => intro x1 x2 st hf; exact wb_Tt_beginOfAll_bs_2 N C hr ih x1 x2 st hf
set_option maxHeartbeats 4000000 in
set_option maxRecDepth 20000 in
theorem c_Tt_beginOfAll_bs {l : Launch} {D : va_G} {ad : Nat → Nat} {cI : ClassId} (N : (LC ad).Nodup) {x1 : Int32} {st : St} {out : Int32 × St} (hf : f_Tt_beginOfAll_bs x1 st = some out) : xMi l y_Tt_beginOfAll b_Tt_beginOfAll 3 (some .int) rm_Tt_beginOfAll_bs D (tyC cI) (WC ad cI) (LC ad) [.ref (ad 6), .int x1] st out := by
  intro sz
  refine xM_of (L := LC ad) (by decide) (Nat.le_of_ble_eq_true rfl) (fun p e s m below meth c hsz hr C => ?_)
  show j_i p l e rm_Tt_beginOfAll_bs s m _ below meth c sz D (WC ad cI) (LC ad) out 3 (WC ad cI st) [(0, .ref (ad 6)), (1, .int x1)] 0 []
  unfold f_Tt_beginOfAll_bs at hf
  refine xj_iconst (v := 0) C d_Tt_beginOfAll_0 rfl ?_
  refine xj_istore_n C d_Tt_beginOfAll_1 rfl (by decide) rfl ?_
  exact xj_lv [1, 2, 0] rfl (w_Tt_beginOfAll_bs_2 N C hr 40 x1 0 st hf)
set_option maxHeartbeats 4000000 in
set_option maxRecDepth 20000 in
theorem c_Pl_tellRun {l : Launch} {D : va_G} {ad : Nat → Nat} {cI : ClassId} (N : (LC ad).Nodup) {x1 x2 x3 : Int32} {st : St} {out : Int32 × St} (hf : f_Pl_tellRun x1 x2 x3 st = some out) : xMi l y_Pl_tellRun b_Pl_tellRun 5 (some .int) rm_Pl_tellRun D (tyC cI) (WC ad cI) (LC ad) [.ref (ad 4), .int x1, .int x2, .int x3] st out := by
  intro sz
  refine xM_of (L := LC ad) (by decide) (Nat.le_of_ble_eq_true rfl) (fun p e s m below meth c hsz hr C => ?_)
  show j_i p l e rm_Pl_tellRun s m _ below meth c sz D (WC ad cI) (LC ad) out 5 (WC ad cI st) [(0, .ref (ad 4)), (1, .int x1), (2, .int x2), (3, .int x3)] 0 []
  unfold f_Pl_tellRun at hf
  refine xj_aload_n C d_Pl_tellRun_0 rfl 0 rfl ?_
  refine xj_get C g_Pl_18 4 rfl rfl d_Pl_tellRun_1 ?_
  refine xj_iload_n C d_Pl_tellRun_4 rfl 1 rfl ?_
  refine xj_iload_n C d_Pl_tellRun_5 rfl 2 rfl ?_
  refine xj_aload_n C d_Pl_tellRun_6 rfl 0 rfl ?_
  refine xj_get C g_Pl_32 4 rfl rfl d_Pl_tellRun_7 ?_
  obtain ⟨o1, ho1, hf⟩ := xb_some hf
  refine xj_callVi (rest := [.int x2, .int x1, .ref (ad 6)]) C (c_Fl_all N ho1) Y_Fl_all i_Pl_48 2 rfl rfl (by decide) ⟨rfl, rfl⟩ rfl rfl (Nat.le_of_ble_eq_true rfl) d_Pl_tellRun_10 (fun q h => Or.inl h) ?_
  obtain ⟨o2, ho2, hf⟩ := xb_some hf
  refine xj_callVi (rest := []) C (c_Tt_aboard_bs N ho2) Y_Tt_aboard i_Pl_146 6 rfl rfl (by decide) ⟨rfl, rfl⟩ rfl rfl (Nat.le_of_ble_eq_true rfl) d_Pl_tellRun_13 (fun q h => Or.inl h) ?_
  refine xj_istore C d_Pl_tellRun_16 (by decide) rfl ?_
  refine xj_iload C d_Pl_tellRun_18 0 rfl ?_
  refine xj_if_ne (tgt := 25) C d_Pl_tellRun_20 (by decide) (fun h9 => ?_) (fun h9 => ?_)
  · have hf := xi_neg h9 hf
    refine xj_iload_n C d_Pl_tellRun_25 rfl 4 rfl ?_
    by_cases h09 : x3 = 0
    · have hf := xi_pos h09 hf
      refine xj_tableIn (tgt := 52) C d_Pl_tellRun_26 (by rw [h09]; decide) (by rw [h09]; decide) (by rw [h09]; rfl) (by decide) ?_
      refine xj_aload_n C d_Pl_tellRun_52 rfl 1 rfl ?_
      refine xj_get C g_Pl_18 4 rfl rfl d_Pl_tellRun_53 ?_
      refine xj_iload C d_Pl_tellRun_56 0 rfl ?_
      obtain ⟨o3, ho3, hf⟩ := xb_some hf
      refine xj_callVi (rest := []) C (c_Tt_beginOfAll_bs N ho3) Y_Tt_beginOfAll i_Pl_153 6 rfl rfl (by decide) ⟨rfl, rfl⟩ rfl rfl (Nat.le_of_ble_eq_true rfl) d_Pl_tellRun_58 (fun q h => Or.inl h) ?_
      exact xj_iret C hr hf d_Pl_tellRun_61
    have hf := xi_neg h09 hf
    by_cases h19 : x3 = 1
    · have hf := xi_pos h19 hf
      refine xj_tableIn (tgt := 62) C d_Pl_tellRun_26 (by rw [h19]; decide) (by rw [h19]; decide) (by rw [h19]; rfl) (by decide) ?_
      refine xj_aload_n C d_Pl_tellRun_62 rfl 1 rfl ?_
      refine xj_get C g_Pl_32 4 rfl rfl d_Pl_tellRun_63 ?_
      refine xj_iload C d_Pl_tellRun_66 0 rfl ?_
      obtain ⟨o4, ho4, hf⟩ := xb_some hf
      refine xj_callVi (rest := []) C (c_Fl_commonDirection N ho4) Y_Fl_commonDirection i_Pl_83 2 rfl rfl (by decide) ⟨rfl, rfl⟩ rfl rfl (Nat.le_of_ble_eq_true rfl) d_Pl_tellRun_68 (fun q h => Or.inl h) ?_
      exact xj_iret C hr hf d_Pl_tellRun_71
    have hf := xi_neg h19 hf
    by_cases h29 : x3 = 2
    · have hf := xi_pos h29 hf
      refine xj_tableIn (tgt := 72) C d_Pl_tellRun_26 (by rw [h29]; decide) (by rw [h29]; decide) (by rw [h29]; rfl) (by decide) ?_
      refine xj_iload C d_Pl_tellRun_72 0 rfl ?_
      exact xj_iret C hr hf d_Pl_tellRun_74
    have hf := xi_neg h29 hf
    refine xj_tableOut (tgt := 75) C d_Pl_tellRun_26 (xsw_out 3 (by decide) (fun k hk => by rcases xlt_3 hk with rfl | rfl | rfl <;> assumption)) (by decide) ?_
    refine xj_iconst (v := (-1)) C d_Pl_tellRun_75 rfl ?_
    exact xj_iret C hr hf d_Pl_tellRun_76
  · have hf := xi_pos h9 hf
    refine xj_iconst (v := (-1)) C d_Pl_tellRun_23 rfl ?_
    exact xj_iret C hr hf d_Pl_tellRun_24
set_option maxHeartbeats 4000000 in
set_option maxRecDepth 20000 in
theorem w_Pl_runs_42 {p : Program} {l : Launch} {e : Env} {s : State} {m : MethodId} {args : Array Value} {below : List Frame} {meth : Method} {c : Code} {sz : Nat} {D : va_G} {ad : Nat → Nat} {cI : ClassId} {out : Int32 × St} (N : (LC ad).Nodup) (C : xC p s m args meth c (xA (LC ad) sz) D 4 (tyC cI) b_Pl_runs R_Pl) (hr : meth.sig.returnType = (some .int)) {K4 : Int32 → Int32 → Int32 → St → Option (Int32 × St)} (hK4 : ∀ (x1 x2 x3 : Int32) (st : St), K4 x1 x2 x3 st = some out → j_i p l e rm_Pl_runs s m args below meth c sz D (WC ad cI) (LC ad) out 4 (WC ad cI st) [(0, .ref (ad 4)), (1, .int x1), (2, .int x2), (3, .int x3)] 4 []) (x1 x2 x3 : Int32) (st : St) (hf : f_Pl_runs_42 K4 x1 x2 x3 st = some out) : j_i p l e rm_Pl_runs s m args below meth c sz D (WC ad cI) (LC ad) out 4 (WC ad cI st) [(0, .ref (ad 4)), (1, .int x1), (2, .int x2), (3, .int x3)] 42 [] := by
  unfold f_Pl_runs_42 at hf
  refine xj_iinc (v := x3 + 1) (j := 3) C d_Pl_runs_42 rfl rfl (by decide) rfl ?_
  refine xj_goto (tgt := 4) C d_Pl_runs_45 (by decide) ?_
  exact xj_lv [1, 2, 3, 0] rfl (hK4 x1 x2 (x3 + 1) st hf)
set_option maxHeartbeats 4000000 in
set_option maxRecDepth 20000 in
theorem wb_Pl_runs_4 {p : Program} {l : Launch} {e : Env} {s : State} {m : MethodId} {args : Array Value} {below : List Frame} {meth : Method} {c : Code} {sz : Nat} {D : va_G} {ad : Nat → Nat} {cI : ClassId} {out : Int32 × St} (N : (LC ad).Nodup) (C : xC p s m args meth c (xA (LC ad) sz) D 4 (tyC cI) b_Pl_runs R_Pl) (hr : meth.sig.returnType = (some .int)) {K4 : Int32 → Int32 → Int32 → St → Option (Int32 × St)} (hK4 : ∀ (x1 x2 x3 : Int32) (st : St), K4 x1 x2 x3 st = some out → j_i p l e rm_Pl_runs s m args below meth c sz D (WC ad cI) (LC ad) out 4 (WC ad cI st) [(0, .ref (ad 4)), (1, .int x1), (2, .int x2), (3, .int x3)] 4 []) (x1 x2 x3 : Int32) (st : St) (hf : b_Pl_runs_4 K4 x1 x2 x3 st = some out) : j_i p l e rm_Pl_runs s m args below meth c sz D (WC ad cI) (LC ad) out 4 (WC ad cI st) [(0, .ref (ad 4)), (1, .int x1), (2, .int x2), (3, .int x3)] 4 [] := by
  unfold b_Pl_runs_4 at hf
  refine xj_iload_n C d_Pl_runs_4 rfl 3 rfl ?_
  refine xj_aload_n C d_Pl_runs_5 rfl 0 rfl ?_
  refine xj_get C g_Pl_32 4 rfl rfl d_Pl_runs_6 ?_
  obtain ⟨o1, ho1, hf⟩ := xb_some hf
  refine xj_callVi (rest := [.int x3]) C (c_Fl_size N ho1) Y_Fl_size i_Pl_109 2 rfl rfl (by decide) ⟨rfl, rfl⟩ rfl rfl (Nat.le_of_ble_eq_true rfl) d_Pl_runs_9 (fun q h => Or.inl h) ?_
  refine xj_icmp_ge (tgt := 48) C d_Pl_runs_12 (by decide) (fun h9 => ?_) (fun h9 => ?_)
  · have hf := xi_pos h9 hf
    refine xj_iload_n C d_Pl_runs_48 rfl 2 rfl ?_
    exact xj_iret C hr hf d_Pl_runs_49
  · have hf := xi_neg h9 hf
    refine xj_aload_n C d_Pl_runs_15 rfl 0 rfl ?_
    refine xj_get C g_Pl_18 4 rfl rfl d_Pl_runs_16 ?_
    refine xj_iload_n C d_Pl_runs_19 rfl 3 rfl ?_
    obtain ⟨o2, ho2, hf⟩ := xb_some hf
    refine xj_callVi (rest := []) C (c_Tt_chamberOf_bs N ho2) Y_Tt_chamberOf i_Pl_128 6 rfl rfl (by decide) ⟨rfl, rfl⟩ rfl rfl (Nat.le_of_ble_eq_true rfl) d_Pl_runs_20 (fun q h => Or.inl h) ?_
    refine xj_iload_n C d_Pl_runs_23 rfl 1 rfl ?_
    refine xj_icmp_ne (tgt := 42) C d_Pl_runs_24 (by decide) (fun h9 => ?_) (fun h9 => ?_)
    · have hf := xi_neg h9 hf
      exact xj_lv [0, 1, 2, 3] rfl (w_Pl_runs_42 N C hr hK4 x1 x2 x3 o2.2 hf)
    · have hf := xi_pos h9 hf
      refine xj_iload_n C d_Pl_runs_27 rfl 2 rfl ?_
      refine xj_aload_n C d_Pl_runs_28 rfl 0 rfl ?_
      refine xj_get C g_Pl_18 4 rfl rfl d_Pl_runs_29 ?_
      refine xj_iload_n C d_Pl_runs_32 rfl 3 rfl ?_
      obtain ⟨o3, ho3, hf⟩ := xb_some hf
      refine xj_callVi (rest := [.int x2]) C (c_Tt_runOf_bs N ho3) Y_Tt_runOf i_Pl_131 6 rfl rfl (by decide) ⟨rfl, rfl⟩ rfl rfl (Nat.le_of_ble_eq_true rfl) d_Pl_runs_33 (fun q h => Or.inl h) ?_
      refine xj_iconst (v := 1) C d_Pl_runs_36 rfl ?_
      refine xj_iadd C d_Pl_runs_37 ?_
      refine xj_mmax C mm_Pl_89 (by decide) (Nat.le_of_ble_eq_true rfl) d_Pl_runs_38 ?_
      refine xj_topi (fun v4 ev4 => ?_)
      have hf := xlet_at ev4 hf
      refine xj_istore_n C d_Pl_runs_41 rfl (by decide) rfl ?_
      exact xj_lv [1, 2, 0, 3] rfl (w_Pl_runs_42 N C hr hK4 x1 v4 x3 o3.2 hf)
set_option maxHeartbeats 4000000 in
set_option maxRecDepth 20000 in
theorem w_Pl_runs_4 {p : Program} {l : Launch} {e : Env} {s : State} {m : MethodId} {args : Array Value} {below : List Frame} {meth : Method} {c : Code} {sz : Nat} {D : va_G} {ad : Nat → Nat} {cI : ClassId} {out : Int32 × St} (N : (LC ad).Nodup) (C : xC p s m args meth c (xA (LC ad) sz) D 4 (tyC cI) b_Pl_runs R_Pl) (hr : meth.sig.returnType = (some .int)) (n : Nat) : ∀ (x1 x2 x3 : Int32) (st : St), f_Pl_runs_4 n x1 x2 x3 st = some out → j_i p l e rm_Pl_runs s m args below meth c sz D (WC ad cI) (LC ad) out 4 (WC ad cI st) [(0, .ref (ad 4)), (1, .int x1), (2, .int x2), (3, .int x3)] 4 [] := by
  induction n with
  | zero => intro x1 x2 x3 st hf; exact absurd (show (none : Option (Int32 × St)) = some out from hf) (fun h => by cases h)
  | succ n ih => intro x1 x2 x3 st hf; exact wb_Pl_runs_4 N C hr ih x1 x2 x3 st hf
set_option maxHeartbeats 4000000 in
set_option maxRecDepth 20000 in
theorem c_Pl_runs {l : Launch} {D : va_G} {ad : Nat → Nat} {cI : ClassId} (N : (LC ad).Nodup) {x1 : Int32} {st : St} {out : Int32 × St} (hf : f_Pl_runs x1 st = some out) : xMi l y_Pl_runs b_Pl_runs 4 (some .int) rm_Pl_runs D (tyC cI) (WC ad cI) (LC ad) [.ref (ad 4), .int x1] st out := by
  intro sz
  refine xM_of (L := LC ad) (by decide) (Nat.le_of_ble_eq_true rfl) (fun p e s m below meth c hsz hr C => ?_)
  show j_i p l e rm_Pl_runs s m _ below meth c sz D (WC ad cI) (LC ad) out 4 (WC ad cI st) [(0, .ref (ad 4)), (1, .int x1)] 0 []
  unfold f_Pl_runs at hf
  refine xj_iconst (v := 0) C d_Pl_runs_0 rfl ?_
  refine xj_istore_n C d_Pl_runs_1 rfl (by decide) rfl ?_
  refine xj_iconst (v := 0) C d_Pl_runs_2 rfl ?_
  refine xj_istore_n C d_Pl_runs_3 rfl (by decide) rfl ?_
  exact xj_lv [2, 3, 1, 0] rfl (w_Pl_runs_4 N C hr 40 x1 0 0 st hf)
set_option maxHeartbeats 4000000 in
set_option maxRecDepth 20000 in
theorem w_Tt_differences_bs_pv_33 {p : Program} {l : Launch} {e : Env} {s : State} {m : MethodId} {args : Array Value} {below : List Frame} {meth : Method} {c : Code} {sz : Nat} {D : va_G} {ad : Nat → Nat} {cI : ClassId} {out : Int32 × St} (N : (LC ad).Nodup) (C : xC p s m args meth c (xA (LC ad) sz) D 5 (tyC cI) b_Tt_differences R_Tt) (hr : meth.sig.returnType = (some .int)) {K5 : Int32 → Int32 → Int32 → St → Option (Int32 × St)} (hK5 : ∀ (x2 x3 x4 : Int32) (st : St), K5 x2 x3 x4 st = some out → j_i p l e rm_Tt_differences_bs_pv s m args below meth c sz D (WC ad cI) (LC ad) out 5 (WC ad cI st) [(0, .ref (ad 6)), (1, .ref (ad 7)), (2, .int x2), (3, .int x3), (4, .int x4)] 5 []) (x2 x3 x4 : Int32) (st : St) (hf : f_Tt_differences_bs_pv_33 K5 x2 x3 x4 st = some out) : j_i p l e rm_Tt_differences_bs_pv s m args below meth c sz D (WC ad cI) (LC ad) out 5 (WC ad cI st) [(0, .ref (ad 6)), (1, .ref (ad 7)), (2, .int x2), (3, .int x3), (4, .int x4)] 33 [] := by
  unfold f_Tt_differences_bs_pv_33 at hf
  refine xj_iinc (v := x4 + 1) (j := 4) C d_Tt_differences_33 rfl rfl (by decide) rfl ?_
  refine xj_goto (tgt := 5) C d_Tt_differences_36 (by decide) ?_
  exact xj_lv [1, 2, 3, 4, 0] rfl (hK5 x2 x3 (x4 + 1) st hf)
set_option maxHeartbeats 4000000 in
set_option maxRecDepth 20000 in
theorem c_Tt_begin_pv {l : Launch} {D : va_G} {ad : Nat → Nat} {cI : ClassId} (N : (LC ad).Nodup) {x1 : Int32} {st : St} {out : Int32 × St} (hf : f_Tt_begin_pv x1 st = some out) : xMi l y_Tt_begin b_Tt_begin 2 (some .int) rm_Tt_begin_pv D (tyC cI) (WC ad cI) (LC ad) [.ref (ad 7), .int x1] st out := by
  intro sz
  refine xM_of (L := LC ad) (by decide) (Nat.le_of_ble_eq_true rfl) (fun p e s m below meth c hsz hr C => ?_)
  show j_i p l e rm_Tt_begin_pv s m _ below meth c sz D (WC ad cI) (LC ad) out 2 (WC ad cI st) [(0, .ref (ad 7)), (1, .int x1)] 0 []
  unfold f_Tt_begin_pv at hf
  refine xj_iload_n C d_Tt_begin_0 rfl 1 rfl ?_
  refine xj_if_lt (tgt := 18) C d_Tt_begin_1 (by decide) (fun h9 => ?_) (fun h9 => ?_)
  · have hf := xi_pos h9 hf
    refine xj_iconst (v := (-1)) C d_Tt_begin_18 rfl ?_
    exact xj_iret C hr hf d_Tt_begin_19
  · have hf := xi_neg h9 hf
    refine xj_iload_n C d_Tt_begin_4 rfl 1 rfl ?_
    refine xj_iconst (v := 4) C d_Tt_begin_5 rfl ?_
    refine xj_icmp_ge (tgt := 18) C d_Tt_begin_6 (by decide) (fun h9 => ?_) (fun h9 => ?_)
    · have hf := xi_pos h9 hf
      refine xj_iconst (v := (-1)) C d_Tt_begin_18 rfl ?_
      exact xj_iret C hr hf d_Tt_begin_19
    · have hf := xi_neg h9 hf
      refine xj_aload_n C d_Tt_begin_9 rfl 0 rfl ?_
      refine xj_get C g_Tt_9 7 rfl rfl d_Tt_begin_10 ?_
      refine xj_iload_n C d_Tt_begin_13 rfl 1 rfl ?_
      obtain ⟨g1, hf⟩ := xb_guard hf
      refine xj_iald C 28 0 rfl rfl g1 d_Tt_begin_14 ?_
      refine xj_goto (tgt := 19) C d_Tt_begin_15 (by decide) ?_
      exact xj_iret C hr hf d_Tt_begin_19
set_option maxHeartbeats 4000000 in
set_option maxRecDepth 20000 in
theorem w_Tt_differs_bs_pv_26 {p : Program} {l : Launch} {e : Env} {s : State} {m : MethodId} {args : Array Value} {below : List Frame} {meth : Method} {c : Code} {sz : Nat} {D : va_G} {ad : Nat → Nat} {cI : ClassId} {out : Int32 × St} (N : (LC ad).Nodup) (C : xC p s m args meth c (xA (LC ad) sz) D 3 (tyC cI) b_Tt_differs R_Tt) (hr : meth.sig.returnType = (some .boolean)) (st : St) (hf : f_Tt_differs_bs_pv_26  st = some out) : j_i p l e rm_Tt_differs_bs_pv s m args below meth c sz D (WC ad cI) (LC ad) out 3 (WC ad cI st) [] 26 [] := by
  unfold f_Tt_differs_bs_pv_26 at hf
  refine xj_iconst (v := 1) C d_Tt_differs_26 rfl ?_
  refine xj_goto (tgt := 31) C d_Tt_differs_27 (by decide) ?_
  exact xj_zret C hr rfl hf d_Tt_differs_31
set_option maxHeartbeats 4000000 in
set_option maxRecDepth 20000 in
theorem c_Tt_chamberOf_pv {l : Launch} {D : va_G} {ad : Nat → Nat} {cI : ClassId} (N : (LC ad).Nodup) {x1 : Int32} {st : St} {out : Int32 × St} (hf : f_Tt_chamberOf_pv x1 st = some out) : xMi l y_Tt_chamberOf b_Tt_chamberOf 2 (some .int) rm_Tt_chamberOf_pv D (tyC cI) (WC ad cI) (LC ad) [.ref (ad 7), .int x1] st out := by
  intro sz
  refine xM_of (L := LC ad) (by decide) (Nat.le_of_ble_eq_true rfl) (fun p e s m below meth c hsz hr C => ?_)
  show j_i p l e rm_Tt_chamberOf_pv s m _ below meth c sz D (WC ad cI) (LC ad) out 2 (WC ad cI st) [(0, .ref (ad 7)), (1, .int x1)] 0 []
  unfold f_Tt_chamberOf_pv at hf
  refine xj_iload_n C d_Tt_chamberOf_0 rfl 1 rfl ?_
  refine xj_if_lt (tgt := 18) C d_Tt_chamberOf_1 (by decide) (fun h9 => ?_) (fun h9 => ?_)
  · have hf := xi_pos h9 hf
    refine xj_iconst (v := (-1)) C d_Tt_chamberOf_18 rfl ?_
    exact xj_iret C hr hf d_Tt_chamberOf_19
  · have hf := xi_neg h9 hf
    refine xj_iload_n C d_Tt_chamberOf_4 rfl 1 rfl ?_
    refine xj_iconst (v := 4) C d_Tt_chamberOf_5 rfl ?_
    refine xj_icmp_ge (tgt := 18) C d_Tt_chamberOf_6 (by decide) (fun h9 => ?_) (fun h9 => ?_)
    · have hf := xi_pos h9 hf
      refine xj_iconst (v := (-1)) C d_Tt_chamberOf_18 rfl ?_
      exact xj_iret C hr hf d_Tt_chamberOf_19
    · have hf := xi_neg h9 hf
      refine xj_aload_n C d_Tt_chamberOf_9 rfl 0 rfl ?_
      refine xj_get C g_Tt_15 7 rfl rfl d_Tt_chamberOf_10 ?_
      refine xj_iload_n C d_Tt_chamberOf_13 rfl 1 rfl ?_
      obtain ⟨g1, hf⟩ := xb_guard hf
      refine xj_iald C 29 0 rfl rfl g1 d_Tt_chamberOf_14 ?_
      refine xj_goto (tgt := 19) C d_Tt_chamberOf_15 (by decide) ?_
      exact xj_iret C hr hf d_Tt_chamberOf_19
set_option maxHeartbeats 4000000 in
set_option maxRecDepth 20000 in
theorem c_Tt_differs_bs_pv {l : Launch} {D : va_G} {ad : Nat → Nat} {cI : ClassId} (N : (LC ad).Nodup) {x2 : Int32} {st : St} {out : Int32 × St} (hf : f_Tt_differs_bs_pv x2 st = some out) : xMi l y_Tt_differs b_Tt_differs 3 (some .boolean) rm_Tt_differs_bs_pv D (tyC cI) (WC ad cI) (LC ad) [.ref (ad 6), .ref (ad 7), .int x2] st out := by
  intro sz
  refine xM_of (L := LC ad) (by decide) (Nat.le_of_ble_eq_true rfl) (fun p e s m below meth c hsz hr C => ?_)
  show j_i p l e rm_Tt_differs_bs_pv s m _ below meth c sz D (WC ad cI) (LC ad) out 3 (WC ad cI st) [(0, .ref (ad 6)), (1, .ref (ad 7)), (2, .int x2)] 0 []
  unfold f_Tt_differs_bs_pv at hf
  refine xj_aload_n C d_Tt_differs_0 rfl 0 rfl ?_
  refine xj_iload_n C d_Tt_differs_1 rfl 2 rfl ?_
  obtain ⟨o1, ho1, hf⟩ := xb_some hf
  refine xj_callVi (rest := []) C (c_Tt_begin_bs N ho1) Y_Tt_begin i_Tt_33 6 rfl rfl (by decide) ⟨rfl, rfl⟩ rfl rfl (Nat.le_of_ble_eq_true rfl) d_Tt_differs_2 (fun q h => Or.inl h) ?_
  refine xj_aload_n C d_Tt_differs_5 rfl 1 rfl ?_
  refine xj_iload_n C d_Tt_differs_6 rfl 2 rfl ?_
  obtain ⟨o2, ho2, hf⟩ := xb_some hf
  refine xj_callVi (rest := [.int o1.1]) C (c_Tt_begin_pv N ho2) Y_Tt_begin i_Tt_33 7 rfl rfl (by decide) ⟨rfl, rfl⟩ rfl rfl (Nat.le_of_ble_eq_true rfl) d_Tt_differs_7 (fun q h => Or.inl h) ?_
  refine xj_icmp_ne (tgt := 26) C d_Tt_differs_10 (by decide) (fun h9 => ?_) (fun h9 => ?_)
  · have hf := xi_neg h9 hf
    exact xj_lv [] rfl (w_Tt_differs_bs_pv_26 N C hr o2.2 hf)
  · have hf := xi_pos h9 hf
    refine xj_aload_n C d_Tt_differs_13 rfl 0 rfl ?_
    refine xj_iload_n C d_Tt_differs_14 rfl 2 rfl ?_
    obtain ⟨o3, ho3, hf⟩ := xb_some hf
    refine xj_callVi (rest := []) C (c_Tt_chamberOf_bs N ho3) Y_Tt_chamberOf i_Tt_37 6 rfl rfl (by decide) ⟨rfl, rfl⟩ rfl rfl (Nat.le_of_ble_eq_true rfl) d_Tt_differs_15 (fun q h => Or.inl h) ?_
    refine xj_aload_n C d_Tt_differs_18 rfl 1 rfl ?_
    refine xj_iload_n C d_Tt_differs_19 rfl 2 rfl ?_
    obtain ⟨o4, ho4, hf⟩ := xb_some hf
    refine xj_callVi (rest := [.int o3.1]) C (c_Tt_chamberOf_pv N ho4) Y_Tt_chamberOf i_Tt_37 7 rfl rfl (by decide) ⟨rfl, rfl⟩ rfl rfl (Nat.le_of_ble_eq_true rfl) d_Tt_differs_20 (fun q h => Or.inl h) ?_
    refine xj_icmp_eq (tgt := 30) C d_Tt_differs_23 (by decide) (fun h9 => ?_) (fun h9 => ?_)
    · have hf := xi_pos h9 hf
      refine xj_iconst (v := 0) C d_Tt_differs_30 rfl ?_
      exact xj_zret C hr rfl hf d_Tt_differs_31
    · have hf := xi_neg h9 hf
      exact xj_lv [] rfl (w_Tt_differs_bs_pv_26 N C hr o4.2 hf)
set_option maxHeartbeats 4000000 in
set_option maxRecDepth 20000 in
theorem wb_Tt_differences_bs_pv_5 {p : Program} {l : Launch} {e : Env} {s : State} {m : MethodId} {args : Array Value} {below : List Frame} {meth : Method} {c : Code} {sz : Nat} {D : va_G} {ad : Nat → Nat} {cI : ClassId} {out : Int32 × St} (N : (LC ad).Nodup) (C : xC p s m args meth c (xA (LC ad) sz) D 5 (tyC cI) b_Tt_differences R_Tt) (hr : meth.sig.returnType = (some .int)) {K5 : Int32 → Int32 → Int32 → St → Option (Int32 × St)} (hK5 : ∀ (x2 x3 x4 : Int32) (st : St), K5 x2 x3 x4 st = some out → j_i p l e rm_Tt_differences_bs_pv s m args below meth c sz D (WC ad cI) (LC ad) out 5 (WC ad cI st) [(0, .ref (ad 6)), (1, .ref (ad 7)), (2, .int x2), (3, .int x3), (4, .int x4)] 5 []) (x2 x3 x4 : Int32) (st : St) (hf : b_Tt_differences_bs_pv_5 K5 x2 x3 x4 st = some out) : j_i p l e rm_Tt_differences_bs_pv s m args below meth c sz D (WC ad cI) (LC ad) out 5 (WC ad cI st) [(0, .ref (ad 6)), (1, .ref (ad 7)), (2, .int x2), (3, .int x3), (4, .int x4)] 5 [] := by
  unfold b_Tt_differences_bs_pv_5 at hf
  refine xj_iload C d_Tt_differences_5 4 rfl ?_
  refine xj_iconst (v := 4) C d_Tt_differences_7 rfl ?_
  refine xj_icmp_ge (tgt := 39) C d_Tt_differences_8 (by decide) (fun h9 => ?_) (fun h9 => ?_)
  · have hf := xi_pos h9 hf
    refine xj_iload_n C d_Tt_differences_39 rfl 3 rfl ?_
    exact xj_iret C hr hf d_Tt_differences_40
  · have hf := xi_neg h9 hf
    refine xj_iload_n C d_Tt_differences_11 rfl 2 rfl ?_
    refine xj_iload C d_Tt_differences_12 4 rfl ?_
    obtain ⟨o1, ho1, hf⟩ := xb_some hf
    refine xj_callSNi (rest := []) C (c_LR_holds N ho1) Y_LR_holds i_Tt_25 (by decide) ⟨rfl, rfl⟩ rfl rfl (Nat.le_of_ble_eq_true rfl) d_Tt_differences_14 (fun q h => Or.inl h) ?_
    refine xj_if_eq (tgt := 33) C d_Tt_differences_17 (by decide) (fun h9 => ?_) (fun h9 => ?_)
    · have hf := xi_pos h9 hf
      exact xj_lv [0, 1, 2, 3, 4] rfl (w_Tt_differences_bs_pv_33 N C hr hK5 x2 x3 x4 o1.2 hf)
    · have hf := xi_neg h9 hf
      refine xj_aload_n C d_Tt_differences_20 rfl 0 rfl ?_
      refine xj_aload_n C d_Tt_differences_21 rfl 1 rfl ?_
      refine xj_iload C d_Tt_differences_22 4 rfl ?_
      obtain ⟨o2, ho2, hf⟩ := xb_some hf
      refine xj_callVi (rest := []) C (c_Tt_differs_bs_pv N ho2) Y_Tt_differs i_Tt_29 6 rfl rfl (by decide) ⟨rfl, rfl⟩ rfl rfl (Nat.le_of_ble_eq_true rfl) d_Tt_differences_24 (fun q h => Or.inl h) ?_
      refine xj_if_eq (tgt := 33) C d_Tt_differences_27 (by decide) (fun h9 => ?_) (fun h9 => ?_)
      · have hf := xi_pos h9 hf
        exact xj_lv [0, 1, 2, 3, 4] rfl (w_Tt_differences_bs_pv_33 N C hr hK5 x2 x3 x4 o2.2 hf)
      · have hf := xi_neg h9 hf
        refine xj_iinc (v := x3 + 1) (j := 3) C d_Tt_differences_30 rfl rfl (by decide) rfl ?_
        exact xj_lv [1, 2, 3, 0, 4] rfl (w_Tt_differences_bs_pv_33 N C hr hK5 x2 (x3 + 1) x4 o2.2 hf)
set_option maxHeartbeats 4000000 in
set_option maxRecDepth 20000 in
theorem w_Tt_differences_bs_pv_5 {p : Program} {l : Launch} {e : Env} {s : State} {m : MethodId} {args : Array Value} {below : List Frame} {meth : Method} {c : Code} {sz : Nat} {D : va_G} {ad : Nat → Nat} {cI : ClassId} {out : Int32 × St} (N : (LC ad).Nodup) (C : xC p s m args meth c (xA (LC ad) sz) D 5 (tyC cI) b_Tt_differences R_Tt) (hr : meth.sig.returnType = (some .int)) (n : Nat) : ∀ (x2 x3 x4 : Int32) (st : St), f_Tt_differences_bs_pv_5 n x2 x3 x4 st = some out → j_i p l e rm_Tt_differences_bs_pv s m args below meth c sz D (WC ad cI) (LC ad) out 5 (WC ad cI st) [(0, .ref (ad 6)), (1, .ref (ad 7)), (2, .int x2), (3, .int x3), (4, .int x4)] 5 [] := by
  induction n with
  | zero => intro x2 x3 x4 st hf; exact absurd (show (none : Option (Int32 × St)) = some out from hf) (fun h => by cases h)
  | succ n ih => intro x2 x3 x4 st hf; exact wb_Tt_differences_bs_pv_5 N C hr ih x2 x3 x4 st hf
set_option maxHeartbeats 4000000 in
set_option maxRecDepth 20000 in
theorem c_Tt_differences_bs_pv {l : Launch} {D : va_G} {ad : Nat → Nat} {cI : ClassId} (N : (LC ad).Nodup) {x2 : Int32} {st : St} {out : Int32 × St} (hf : f_Tt_differences_bs_pv x2 st = some out) : xMi l y_Tt_differences b_Tt_differences 5 (some .int) rm_Tt_differences_bs_pv D (tyC cI) (WC ad cI) (LC ad) [.ref (ad 6), .ref (ad 7), .int x2] st out := by
  intro sz
  refine xM_of (L := LC ad) (by decide) (Nat.le_of_ble_eq_true rfl) (fun p e s m below meth c hsz hr C => ?_)
  show j_i p l e rm_Tt_differences_bs_pv s m _ below meth c sz D (WC ad cI) (LC ad) out 5 (WC ad cI st) [(0, .ref (ad 6)), (1, .ref (ad 7)), (2, .int x2)] 0 []
  unfold f_Tt_differences_bs_pv at hf
  refine xj_iconst (v := 0) C d_Tt_differences_0 rfl ?_
  refine xj_istore_n C d_Tt_differences_1 rfl (by decide) rfl ?_
  refine xj_iconst (v := 0) C d_Tt_differences_2 rfl ?_
  refine xj_istore C d_Tt_differences_3 (by decide) rfl ?_
  exact xj_lv [2, 3, 4, 1, 0] rfl (w_Tt_differences_bs_pv_5 N C hr 40 x2 0 0 st hf)
set_option maxHeartbeats 4000000 in
set_option maxRecDepth 20000 in
theorem c_Pl_moved {l : Launch} {D : va_G} {ad : Nat → Nat} {cI : ClassId} (N : (LC ad).Nodup) {st : St} {out : Int32 × St} (hf : f_Pl_moved  st = some out) : xMi l y_Pl_moved b_Pl_moved 1 (some .int) rm_Pl_moved D (tyC cI) (WC ad cI) (LC ad) [.ref (ad 4)] st out := by
  intro sz
  refine xM_of (L := LC ad) (by decide) (Nat.le_of_ble_eq_true rfl) (fun p e s m below meth c hsz hr C => ?_)
  show j_i p l e rm_Pl_moved s m _ below meth c sz D (WC ad cI) (LC ad) out 1 (WC ad cI st) [(0, .ref (ad 4))] 0 []
  unfold f_Pl_moved at hf
  refine xj_aload_n C d_Pl_moved_0 rfl 0 rfl ?_
  refine xj_get C g_Pl_18 4 rfl rfl d_Pl_moved_1 ?_
  refine xj_aload_n C d_Pl_moved_4 rfl 0 rfl ?_
  refine xj_get C g_Pl_21 4 rfl rfl d_Pl_moved_5 ?_
  refine xj_aload_n C d_Pl_moved_8 rfl 0 rfl ?_
  refine xj_get C g_Pl_32 4 rfl rfl d_Pl_moved_9 ?_
  obtain ⟨o1, ho1, hf⟩ := xb_some hf
  refine xj_callVi (rest := [.ref (ad 7), .ref (ad 6)]) C (c_Fl_all N ho1) Y_Fl_all i_Pl_48 2 rfl rfl (by decide) ⟨rfl, rfl⟩ rfl rfl (Nat.le_of_ble_eq_true rfl) d_Pl_moved_12 (fun q h => Or.inl h) ?_
  obtain ⟨o2, ho2, hf⟩ := xb_some hf
  refine xj_callVi (rest := []) C (c_Tt_differences_bs_pv N ho2) Y_Tt_differences i_Pl_61 6 rfl rfl (by decide) ⟨rfl, rfl⟩ rfl rfl (Nat.le_of_ble_eq_true rfl) d_Pl_moved_15 (fun q h => Or.inl h) ?_
  exact xj_iret C hr hf d_Pl_moved_18
set_option maxHeartbeats 4000000 in
set_option maxRecDepth 20000 in
theorem wb_Tt_copyFrom_pv_bs_2 {p : Program} {l : Launch} {e : Env} {s : State} {m : MethodId} {args : Array Value} {below : List Frame} {meth : Method} {c : Code} {sz : Nat} {D : va_G} {ad : Nat → Nat} {cI : ClassId} {out : St} (N : (LC ad).Nodup) (C : xC p s m args meth c (xA (LC ad) sz) D 3 (tyC cI) b_Tt_copyFrom R_Tt) (hr : meth.sig.returnType = none) {K2 : Int32 → St → Option (St)} (hK2 : ∀ (x2 : Int32) (st : St), K2 x2 st = some out → j_v p l e rm_Tt_copyFrom_pv_bs s m args below meth c sz D (WC ad cI) (LC ad) out 3 (WC ad cI st) [(0, .ref (ad 7)), (1, .ref (ad 6)), (2, .int x2)] 2 []) (x2 : Int32) (st : St) (hf : b_Tt_copyFrom_pv_bs_2 K2 x2 st = some out) : j_v p l e rm_Tt_copyFrom_pv_bs s m args below meth c sz D (WC ad cI) (LC ad) out 3 (WC ad cI st) [(0, .ref (ad 7)), (1, .ref (ad 6)), (2, .int x2)] 2 [] := by
  unfold b_Tt_copyFrom_pv_bs_2 at hf
  refine xj_iload_n C d_Tt_copyFrom_2 rfl 2 rfl ?_
  refine xj_iconst (v := 4) C d_Tt_copyFrom_3 rfl ?_
  refine xj_icmp_ge (tgt := 49) C d_Tt_copyFrom_4 (by decide) (fun h9 => ?_) (fun h9 => ?_)
  · have hf := xi_pos h9 hf
    refine xj_aload_n C d_Tt_copyFrom_49 rfl 0 rfl ?_
    refine xj_aload_n C d_Tt_copyFrom_50 rfl 1 rfl ?_
    refine xj_get C g_Tt_21 6 rfl rfl d_Tt_copyFrom_51 ?_
    refine xj_put (ws' := WC ad cI (sI st 6 (st.1 5))) C g_Tt_21 gw_Tt_waiting (WC_D N sz _) 7 rfl rfl rfl (Nat.le_of_ble_eq_true rfl) d_Tt_copyFrom_54 rfl ?_
    exact xj_vret C hr hf d_Tt_copyFrom_57
  · have hf := xi_neg h9 hf
    refine xj_aload_n C d_Tt_copyFrom_7 rfl 0 rfl ?_
    refine xj_get C g_Tt_9 7 rfl rfl d_Tt_copyFrom_8 ?_
    refine xj_iload_n C d_Tt_copyFrom_11 rfl 2 rfl ?_
    refine xj_aload_n C d_Tt_copyFrom_12 rfl 1 rfl ?_
    refine xj_get C g_Tt_9 6 rfl rfl d_Tt_copyFrom_13 ?_
    refine xj_iload_n C d_Tt_copyFrom_16 rfl 2 rfl ?_
    obtain ⟨g1, hf⟩ := xb_guard hf
    refine xj_iald C 25 0 rfl rfl g1 d_Tt_copyFrom_17 ?_
    obtain ⟨g2, hf⟩ := xb_guard hf
    refine xj_iast (ws' := WC ad cI (sA st 20 x2.toNatClampNeg (st.2 17 x2.toNatClampNeg))) C (WC_D N sz _) 28 0 rfl rfl g2 d_Tt_copyFrom_18 rfl ?_
    refine xj_aload_n C d_Tt_copyFrom_19 rfl 0 rfl ?_
    refine xj_get C g_Tt_15 7 rfl rfl d_Tt_copyFrom_20 ?_
    refine xj_iload_n C d_Tt_copyFrom_23 rfl 2 rfl ?_
    refine xj_aload_n C d_Tt_copyFrom_24 rfl 1 rfl ?_
    refine xj_get C g_Tt_15 6 rfl rfl d_Tt_copyFrom_25 ?_
    refine xj_iload_n C d_Tt_copyFrom_28 rfl 2 rfl ?_
    obtain ⟨g3, hf⟩ := xb_guard hf
    refine xj_iald C 26 0 rfl rfl g3 d_Tt_copyFrom_29 ?_
    obtain ⟨g4, hf⟩ := xb_guard hf
    refine xj_iast (ws' := WC ad cI (sA (sA st 20 x2.toNatClampNeg (st.2 17 x2.toNatClampNeg)) 21 x2.toNatClampNeg ((sA st 20 x2.toNatClampNeg (st.2 17 x2.toNatClampNeg)).2 18 x2.toNatClampNeg))) C (WC_D N sz _) 29 0 rfl rfl g4 d_Tt_copyFrom_30 rfl ?_
    refine xj_aload_n C d_Tt_copyFrom_31 rfl 0 rfl ?_
    refine xj_get C g_Tt_18 7 rfl rfl d_Tt_copyFrom_32 ?_
    refine xj_iload_n C d_Tt_copyFrom_35 rfl 2 rfl ?_
    refine xj_aload_n C d_Tt_copyFrom_36 rfl 1 rfl ?_
    refine xj_get C g_Tt_18 6 rfl rfl d_Tt_copyFrom_37 ?_
    refine xj_iload_n C d_Tt_copyFrom_40 rfl 2 rfl ?_
    obtain ⟨g5, hf⟩ := xb_guard hf
    refine xj_iald C 27 0 rfl rfl g5 d_Tt_copyFrom_41 ?_
    obtain ⟨g6, hf⟩ := xb_guard hf
    refine xj_iast (ws' := WC ad cI (sA (sA (sA st 20 x2.toNatClampNeg (st.2 17 x2.toNatClampNeg)) 21 x2.toNatClampNeg ((sA st 20 x2.toNatClampNeg (st.2 17 x2.toNatClampNeg)).2 18 x2.toNatClampNeg)) 22 x2.toNatClampNeg ((sA (sA st 20 x2.toNatClampNeg (st.2 17 x2.toNatClampNeg)) 21 x2.toNatClampNeg ((sA st 20 x2.toNatClampNeg (st.2 17 x2.toNatClampNeg)).2 18 x2.toNatClampNeg)).2 19 x2.toNatClampNeg))) C (WC_D N sz _) 30 0 rfl rfl g6 d_Tt_copyFrom_42 rfl ?_
    refine xj_iinc (v := x2 + 1) (j := 2) C d_Tt_copyFrom_43 rfl rfl (by decide) rfl ?_
    refine xj_goto (tgt := 2) C d_Tt_copyFrom_46 (by decide) ?_
    exact xj_lv [1, 2, 0] rfl (hK2 (x2 + 1) (sA (sA (sA st 20 x2.toNatClampNeg (st.2 17 x2.toNatClampNeg)) 21 x2.toNatClampNeg ((sA st 20 x2.toNatClampNeg (st.2 17 x2.toNatClampNeg)).2 18 x2.toNatClampNeg)) 22 x2.toNatClampNeg ((sA (sA st 20 x2.toNatClampNeg (st.2 17 x2.toNatClampNeg)) 21 x2.toNatClampNeg ((sA st 20 x2.toNatClampNeg (st.2 17 x2.toNatClampNeg)).2 18 x2.toNatClampNeg)).2 19 x2.toNatClampNeg)) hf)
set_option maxHeartbeats 4000000 in
set_option maxRecDepth 20000 in
theorem w_Tt_copyFrom_pv_bs_2 {p : Program} {l : Launch} {e : Env} {s : State} {m : MethodId} {args : Array Value} {below : List Frame} {meth : Method} {c : Code} {sz : Nat} {D : va_G} {ad : Nat → Nat} {cI : ClassId} {out : St} (N : (LC ad).Nodup) (C : xC p s m args meth c (xA (LC ad) sz) D 3 (tyC cI) b_Tt_copyFrom R_Tt) (hr : meth.sig.returnType = none) (n : Nat) : ∀ (x2 : Int32) (st : St), f_Tt_copyFrom_pv_bs_2 n x2 st = some out → j_v p l e rm_Tt_copyFrom_pv_bs s m args below meth c sz D (WC ad cI) (LC ad) out 3 (WC ad cI st) [(0, .ref (ad 7)), (1, .ref (ad 6)), (2, .int x2)] 2 [] := by
  induction n with
  | zero => intro x2 st hf; exact absurd (show (none : Option (St)) = some out from hf) (fun h => by cases h)
  | succ n ih => intro x2 st hf; exact wb_Tt_copyFrom_pv_bs_2 N C hr ih x2 st hf
set_option maxHeartbeats 4000000 in
set_option maxRecDepth 20000 in
theorem c_Tt_copyFrom_pv_bs {l : Launch} {D : va_G} {ad : Nat → Nat} {cI : ClassId} (N : (LC ad).Nodup) {st : St} {out : St} (hf : f_Tt_copyFrom_pv_bs  st = some out) : xMv l y_Tt_copyFrom b_Tt_copyFrom 3 none rm_Tt_copyFrom_pv_bs D (tyC cI) (WC ad cI) (LC ad) [.ref (ad 7), .ref (ad 6)] st out := by
  intro sz
  refine xM_of (L := LC ad) (by decide) (Nat.le_of_ble_eq_true rfl) (fun p e s m below meth c hsz hr C => ?_)
  show j_v p l e rm_Tt_copyFrom_pv_bs s m _ below meth c sz D (WC ad cI) (LC ad) out 3 (WC ad cI st) [(0, .ref (ad 7)), (1, .ref (ad 6))] 0 []
  unfold f_Tt_copyFrom_pv_bs at hf
  refine xj_iconst (v := 0) C d_Tt_copyFrom_0 rfl ?_
  refine xj_istore_n C d_Tt_copyFrom_1 rfl (by decide) rfl ?_
  exact xj_lv [1, 2, 0] rfl (w_Tt_copyFrom_pv_bs_2 N C hr 40 0 st hf)
set_option maxHeartbeats 4000000 in
set_option maxRecDepth 20000 in
theorem c_Pl_keepForComparison {l : Launch} {D : va_G} {ad : Nat → Nat} {cI : ClassId} (N : (LC ad).Nodup) {st : St} {out : St} (hf : f_Pl_keepForComparison  st = some out) : xMv l y_Pl_keepForComparison b_Pl_keepForComparison 1 none rm_Pl_keepForComparison D (tyC cI) (WC ad cI) (LC ad) [.ref (ad 4)] st out := by
  intro sz
  refine xM_of (L := LC ad) (by decide) (Nat.le_of_ble_eq_true rfl) (fun p e s m below meth c hsz hr C => ?_)
  show j_v p l e rm_Pl_keepForComparison s m _ below meth c sz D (WC ad cI) (LC ad) out 1 (WC ad cI st) [(0, .ref (ad 4))] 0 []
  unfold f_Pl_keepForComparison at hf
  refine xj_aload_n C d_Pl_keepForComparison_0 rfl 0 rfl ?_
  refine xj_get C g_Pl_21 4 rfl rfl d_Pl_keepForComparison_1 ?_
  refine xj_aload_n C d_Pl_keepForComparison_4 rfl 0 rfl ?_
  refine xj_get C g_Pl_18 4 rfl rfl d_Pl_keepForComparison_5 ?_
  obtain ⟨o1, ho1, hf⟩ := xb_some hf
  refine xj_callVv (rest := []) C (c_Tt_copyFrom_pv_bs N ho1) Y_Tt_copyFrom i_Pl_57 7 rfl rfl (by decide) ⟨rfl, rfl⟩ rfl rfl (Nat.le_of_ble_eq_true rfl) d_Pl_keepForComparison_8 (fun q h => Or.inl h) ?_
  exact xj_vret C hr hf d_Pl_keepForComparison_11
set_option maxHeartbeats 4000000 in
set_option maxRecDepth 20000 in
theorem c_Pl_hasPlan {l : Launch} {D : va_G} {ad : Nat → Nat} {cI : ClassId} (N : (LC ad).Nodup) {st : St} {out : Int32 × St} (hf : f_Pl_hasPlan  st = some out) : xMi l y_Pl_hasPlan b_Pl_hasPlan 1 (some .boolean) rm_Pl_hasPlan D (tyC cI) (WC ad cI) (LC ad) [.ref (ad 4)] st out := by
  intro sz
  refine xM_of (L := LC ad) (by decide) (Nat.le_of_ble_eq_true rfl) (fun p e s m below meth c hsz hr C => ?_)
  show j_i p l e rm_Pl_hasPlan s m _ below meth c sz D (WC ad cI) (LC ad) out 1 (WC ad cI st) [(0, .ref (ad 4))] 0 []
  unfold f_Pl_hasPlan at hf
  refine xj_aload_n C d_Pl_hasPlan_0 rfl 0 rfl ?_
  refine xj_get C g_Pl_40 4 rfl rfl d_Pl_hasPlan_1 ?_
  obtain ⟨g1, hf⟩ := xb_guard hf
  exact xj_zret C hr (xb_narrow g1) hf d_Pl_hasPlan_4
set_option maxHeartbeats 4000000 in
set_option maxRecDepth 20000 in
theorem c_Pl_forget {l : Launch} {D : va_G} {ad : Nat → Nat} {cI : ClassId} (N : (LC ad).Nodup) {st : St} {out : St} (hf : f_Pl_forget  st = some out) : xMv l y_Pl_forget b_Pl_forget 1 none rm_Pl_forget D (tyC cI) (WC ad cI) (LC ad) [.ref (ad 4)] st out := by
  intro sz
  refine xM_of (L := LC ad) (by decide) (Nat.le_of_ble_eq_true rfl) (fun p e s m below meth c hsz hr C => ?_)
  show j_v p l e rm_Pl_forget s m _ below meth c sz D (WC ad cI) (LC ad) out 1 (WC ad cI st) [(0, .ref (ad 4))] 0 []
  unfold f_Pl_forget at hf
  refine xj_aload_n C d_Pl_forget_0 rfl 0 rfl ?_
  refine xj_iconst (v := 0) C d_Pl_forget_1 rfl ?_
  refine xj_put (ws' := WC ad cI (sI st 7 0)) C g_Pl_40 gw_Pl_planned (WC_D N sz _) 4 rfl rfl rfl (Nat.le_of_ble_eq_true rfl) d_Pl_forget_2 rfl ?_
  exact xj_vret C hr hf d_Pl_forget_5
set_option maxHeartbeats 4000000 in
set_option maxRecDepth 20000 in
theorem c_Pl_waiting {l : Launch} {D : va_G} {ad : Nat → Nat} {cI : ClassId} (N : (LC ad).Nodup) {st : St} {out : Int32 × St} (hf : f_Pl_waiting  st = some out) : xMi l y_Pl_waiting b_Pl_waiting 1 (some .int) rm_Pl_waiting D (tyC cI) (WC ad cI) (LC ad) [.ref (ad 4)] st out := by
  intro sz
  refine xM_of (L := LC ad) (by decide) (Nat.le_of_ble_eq_true rfl) (fun p e s m below meth c hsz hr C => ?_)
  show j_i p l e rm_Pl_waiting s m _ below meth c sz D (WC ad cI) (LC ad) out 1 (WC ad cI st) [(0, .ref (ad 4))] 0 []
  unfold f_Pl_waiting at hf
  refine xj_aload_n C d_Pl_waiting_0 rfl 0 rfl ?_
  refine xj_get C g_Pl_18 4 rfl rfl d_Pl_waiting_1 ?_
  obtain ⟨o1, ho1, hf⟩ := xb_some hf
  refine xj_callVi (rest := []) C (c_Tt_waiting_bs N ho1) Y_Tt_waiting i_Pl_44 6 rfl rfl (by decide) ⟨rfl, rfl⟩ rfl rfl (Nat.le_of_ble_eq_true rfl) d_Pl_waiting_4 (fun q h => Or.inl h) ?_
  exact xj_iret C hr hf d_Pl_waiting_7
set_option maxHeartbeats 4000000 in
set_option maxRecDepth 20000 in
theorem c_Pl_over {l : Launch} {D : va_G} {ad : Nat → Nat} {cI : ClassId} (N : (LC ad).Nodup) {st : St} {out : Int32 × St} (hf : f_Pl_over  st = some out) : xMi l y_Pl_over b_Pl_over 1 (some .int) rm_Pl_over D (tyC cI) (WC ad cI) (LC ad) [.ref (ad 4)] st out := by
  intro sz
  refine xM_of (L := LC ad) (by decide) (Nat.le_of_ble_eq_true rfl) (fun p e s m below meth c hsz hr C => ?_)
  show j_i p l e rm_Pl_over s m _ below meth c sz D (WC ad cI) (LC ad) out 1 (WC ad cI st) [(0, .ref (ad 4))] 0 []
  unfold f_Pl_over at hf
  refine xj_aload_n C d_Pl_over_0 rfl 0 rfl ?_
  refine xj_get C g_Pl_24 4 rfl rfl d_Pl_over_1 ?_
  exact xj_iret C hr hf d_Pl_over_4
set_option maxHeartbeats 4000000 in
set_option maxRecDepth 20000 in
theorem c_Pl_setOver {l : Launch} {D : va_G} {ad : Nat → Nat} {cI : ClassId} (N : (LC ad).Nodup) {x1 : Int32} {st : St} {out : St} (hf : f_Pl_setOver x1 st = some out) : xMv l y_Pl_setOver b_Pl_setOver 2 none rm_Pl_setOver D (tyC cI) (WC ad cI) (LC ad) [.ref (ad 4), .int x1] st out := by
  intro sz
  refine xM_of (L := LC ad) (by decide) (Nat.le_of_ble_eq_true rfl) (fun p e s m below meth c hsz hr C => ?_)
  show j_v p l e rm_Pl_setOver s m _ below meth c sz D (WC ad cI) (LC ad) out 2 (WC ad cI st) [(0, .ref (ad 4)), (1, .int x1)] 0 []
  unfold f_Pl_setOver at hf
  refine xj_aload_n C d_Pl_setOver_0 rfl 0 rfl ?_
  refine xj_iload_n C d_Pl_setOver_1 rfl 1 rfl ?_
  refine xj_put (ws' := WC ad cI (sI st 8 x1)) C g_Pl_24 gw_Pl_over (WC_D N sz _) 4 rfl rfl rfl (Nat.le_of_ble_eq_true rfl) d_Pl_setOver_2 rfl ?_
  exact xj_vret C hr hf d_Pl_setOver_5
set_option maxHeartbeats 4000000 in
set_option maxRecDepth 20000 in
theorem c_Be_setGap {l : Launch} {D : va_G} {ad : Nat → Nat} {cI : ClassId} (N : (LC ad).Nodup) {x1 : Int32} {st : St} {out : St} (hf : f_Be_setGap x1 st = some out) : xMv l y_Be_setGap b_Be_setGap 2 none rm_Be_setGap D (tyC cI) (WC ad cI) (LC ad) [.ref (ad 3), .int x1] st out := by
  intro sz
  refine xM_of (L := LC ad) (by decide) (Nat.le_of_ble_eq_true rfl) (fun p e s m below meth c hsz hr C => ?_)
  show j_v p l e rm_Be_setGap s m _ below meth c sz D (WC ad cI) (LC ad) out 2 (WC ad cI st) [(0, .ref (ad 3)), (1, .int x1)] 0 []
  unfold f_Be_setGap at hf
  refine xj_aload_n C d_Be_setGap_0 rfl 0 rfl ?_
  refine xj_iload_n C d_Be_setGap_1 rfl 1 rfl ?_
  refine xj_put (ws' := WC ad cI (sI st 3 x1)) C g_Be_29 gw_Be_gap (WC_D N sz _) 3 rfl rfl rfl (Nat.le_of_ble_eq_true rfl) d_Be_setGap_2 rfl ?_
  exact xj_vret C hr hf d_Be_setGap_5
set_option maxHeartbeats 4000000 in
set_option maxRecDepth 20000 in
theorem c_Be_gap {l : Launch} {D : va_G} {ad : Nat → Nat} {cI : ClassId} (N : (LC ad).Nodup) {st : St} {out : Int32 × St} (hf : f_Be_gap  st = some out) : xMi l y_Be_gap b_Be_gap 1 (some .int) rm_Be_gap D (tyC cI) (WC ad cI) (LC ad) [.ref (ad 3)] st out := by
  intro sz
  refine xM_of (L := LC ad) (by decide) (Nat.le_of_ble_eq_true rfl) (fun p e s m below meth c hsz hr C => ?_)
  show j_i p l e rm_Be_gap s m _ below meth c sz D (WC ad cI) (LC ad) out 1 (WC ad cI st) [(0, .ref (ad 3))] 0 []
  unfold f_Be_gap at hf
  refine xj_aload_n C d_Be_gap_0 rfl 0 rfl ?_
  refine xj_get C g_Be_29 3 rfl rfl d_Be_gap_1 ?_
  exact xj_iret C hr hf d_Be_gap_4
set_option maxHeartbeats 4000000 in
set_option maxRecDepth 20000 in
theorem c_Ch_add {l : Launch} {D : va_G} {ad : Nat → Nat} {cI : ClassId} (N : (LC ad).Nodup) {x1 x2 x3 : Int32} {st : St} {out : Int32 × St} (hf : f_Ch_add x1 x2 x3 st = some out) : xMi l y_Ch_add b_Ch_add 5 (some .int) rm_Ch_add D (tyC cI) (WC ad cI) (LC ad) [.ref (ad 1), .int x1, .int x2, .int x3] st out := by
  intro sz
  refine xM_of (L := LC ad) (by decide) (Nat.le_of_ble_eq_true rfl) (fun p e s m below meth c hsz hr C => ?_)
  show j_i p l e rm_Ch_add s m _ below meth c sz D (WC ad cI) (LC ad) out 5 (WC ad cI st) [(0, .ref (ad 1)), (1, .int x1), (2, .int x2), (3, .int x3)] 0 []
  unfold f_Ch_add at hf
  refine xj_aload_n C d_Ch_add_0 rfl 0 rfl ?_
  refine xj_get C g_Ch_30 1 rfl rfl d_Ch_add_1 ?_
  refine xj_topi (fun v1 ev1 => ?_)
  have hf := xlet_at ev1 hf
  refine xj_istore C d_Ch_add_4 (by decide) rfl ?_
  refine xj_iload C d_Ch_add_6 0 rfl ?_
  refine xj_if_lt (tgt := 17) C d_Ch_add_8 (by decide) (fun h9 => ?_) (fun h9 => ?_)
  · have hf := xi_pos h9 hf
    refine xj_iconst (v := (-1)) C d_Ch_add_17 rfl ?_
    exact xj_iret C hr hf d_Ch_add_18
  · have hf := xi_neg h9 hf
    refine xj_iload C d_Ch_add_11 0 rfl ?_
    refine xj_iconst (v := 2) C d_Ch_add_13 rfl ?_
    refine xj_icmp_lt (tgt := 19) C d_Ch_add_14 (by decide) (fun h9 => ?_) (fun h9 => ?_)
    · have hf := xi_pos h9 hf
      refine xj_aload_n C d_Ch_add_19 rfl 1 rfl ?_
      refine xj_get C g_Ch_9 1 rfl rfl d_Ch_add_20 ?_
      refine xj_iload C d_Ch_add_23 0 rfl ?_
      refine xj_iload_n C d_Ch_add_25 rfl 2 rfl ?_
      obtain ⟨g2, hf⟩ := xb_guard hf
      refine xj_iast (ws' := WC ad cI (sA st 0 v1.toNatClampNeg x1)) C (WC_D N sz _) 8 0 rfl rfl g2 d_Ch_add_26 rfl ?_
      refine xj_aload_n C d_Ch_add_27 rfl 1 rfl ?_
      refine xj_get C g_Ch_15 1 rfl rfl d_Ch_add_28 ?_
      refine xj_iload C d_Ch_add_31 0 rfl ?_
      refine xj_iload_n C d_Ch_add_33 rfl 3 rfl ?_
      obtain ⟨g3, hf⟩ := xb_guard hf
      refine xj_iast (ws' := WC ad cI (sA (sA st 0 v1.toNatClampNeg x1) 1 v1.toNatClampNeg x2)) C (WC_D N sz _) 9 0 rfl rfl g3 d_Ch_add_34 rfl ?_
      refine xj_aload_n C d_Ch_add_35 rfl 1 rfl ?_
      refine xj_get C g_Ch_18 1 rfl rfl d_Ch_add_36 ?_
      refine xj_iload C d_Ch_add_39 0 rfl ?_
      refine xj_iload_n C d_Ch_add_41 rfl 4 rfl ?_
      obtain ⟨g4, hf⟩ := xb_guard hf
      refine xj_iast (ws' := WC ad cI (sA (sA (sA st 0 v1.toNatClampNeg x1) 1 v1.toNatClampNeg x2) 2 v1.toNatClampNeg x3)) C (WC_D N sz _) 10 0 rfl rfl g4 d_Ch_add_42 rfl ?_
      refine xj_aload_n C d_Ch_add_43 rfl 1 rfl ?_
      refine xj_iload C d_Ch_add_44 0 rfl ?_
      refine xj_iconst (v := 1) C d_Ch_add_46 rfl ?_
      refine xj_iadd C d_Ch_add_47 ?_
      refine xj_put (ws' := WC ad cI (sI (sA (sA (sA st 0 v1.toNatClampNeg x1) 1 v1.toNatClampNeg x2) 2 v1.toNatClampNeg x3) 0 (v1 + 1))) C g_Ch_30 gw_Ch_size (WC_D N sz _) 1 rfl rfl rfl (Nat.le_of_ble_eq_true rfl) d_Ch_add_48 rfl ?_
      refine xj_iload C d_Ch_add_51 0 rfl ?_
      exact xj_iret C hr hf d_Ch_add_53
    · have hf := xi_neg h9 hf
      refine xj_iconst (v := (-1)) C d_Ch_add_17 rfl ?_
      exact xj_iret C hr hf d_Ch_add_18
end
section
set_option maxHeartbeats 4000000 in
set_option maxRecDepth 20000 in
theorem c_Ch_addSpan {l : Launch} {D : va_G} {ad : Nat → Nat} {cI : ClassId} (N : (LC ad).Nodup) {x1 x2 x3 : Int32} {st : St} {out : Int32 × St} (hf : f_Ch_addSpan x1 x2 x3 st = some out) : xMi l y_Ch_addSpan b_Ch_addSpan 5 (some .boolean) rm_Ch_addSpan D (tyC cI) (WC ad cI) (LC ad) [.ref (ad 1), .int x1, .int x2, .int x3] st out := by
  intro sz
  refine xM_of (L := LC ad) (by decide) (Nat.le_of_ble_eq_true rfl) (fun p e s m below meth c hsz hr C => ?_)
  show j_i p l e rm_Ch_addSpan s m _ below meth c sz D (WC ad cI) (LC ad) out 5 (WC ad cI st) [(0, .ref (ad 1)), (1, .int x1), (2, .int x2), (3, .int x3)] 0 []
  unfold f_Ch_addSpan at hf
  refine xj_aload_n C d_Ch_addSpan_0 rfl 0 rfl ?_
  refine xj_get C g_Ch_34 1 rfl rfl d_Ch_addSpan_1 ?_
  refine xj_topi (fun v1 ev1 => ?_)
  have hf := xlet_at ev1 hf
  refine xj_istore C d_Ch_addSpan_4 (by decide) rfl ?_
  refine xj_iload C d_Ch_addSpan_6 0 rfl ?_
  refine xj_if_lt (tgt := 18) C d_Ch_addSpan_8 (by decide) (fun h9 => ?_) (fun h9 => ?_)
  · have hf := xi_pos h9 hf
    refine xj_iconst (v := 0) C d_Ch_addSpan_18 rfl ?_
    exact xj_zret C hr rfl hf d_Ch_addSpan_19
  · have hf := xi_neg h9 hf
    refine xj_iload C d_Ch_addSpan_11 0 rfl ?_
    refine xj_bipush (v := 8) C d_Ch_addSpan_13 rfl ?_
    refine xj_icmp_lt (tgt := 20) C d_Ch_addSpan_15 (by decide) (fun h9 => ?_) (fun h9 => ?_)
    · have hf := xi_pos h9 hf
      refine xj_aload_n C d_Ch_addSpan_20 rfl 1 rfl ?_
      refine xj_get C g_Ch_21 1 rfl rfl d_Ch_addSpan_21 ?_
      refine xj_iload C d_Ch_addSpan_24 0 rfl ?_
      refine xj_iload_n C d_Ch_addSpan_26 rfl 2 rfl ?_
      obtain ⟨g2, hf⟩ := xb_guard hf
      refine xj_iast (ws' := WC ad cI (sA st 3 v1.toNatClampNeg x1)) C (WC_D N sz _) 11 0 rfl rfl g2 d_Ch_addSpan_27 rfl ?_
      refine xj_aload_n C d_Ch_addSpan_28 rfl 1 rfl ?_
      refine xj_get C g_Ch_24 1 rfl rfl d_Ch_addSpan_29 ?_
      refine xj_iload C d_Ch_addSpan_32 0 rfl ?_
      refine xj_iload_n C d_Ch_addSpan_34 rfl 3 rfl ?_
      obtain ⟨g3, hf⟩ := xb_guard hf
      refine xj_iast (ws' := WC ad cI (sA (sA st 3 v1.toNatClampNeg x1) 4 v1.toNatClampNeg x2)) C (WC_D N sz _) 12 0 rfl rfl g3 d_Ch_addSpan_35 rfl ?_
      refine xj_aload_n C d_Ch_addSpan_36 rfl 1 rfl ?_
      refine xj_get C g_Ch_27 1 rfl rfl d_Ch_addSpan_37 ?_
      refine xj_iload C d_Ch_addSpan_40 0 rfl ?_
      refine xj_iload_n C d_Ch_addSpan_42 rfl 4 rfl ?_
      obtain ⟨g4, hf⟩ := xb_guard hf
      refine xj_iast (ws' := WC ad cI (sA (sA (sA st 3 v1.toNatClampNeg x1) 4 v1.toNatClampNeg x2) 5 v1.toNatClampNeg x3)) C (WC_D N sz _) 13 0 rfl rfl g4 d_Ch_addSpan_43 rfl ?_
      refine xj_aload_n C d_Ch_addSpan_44 rfl 1 rfl ?_
      refine xj_iload C d_Ch_addSpan_45 0 rfl ?_
      refine xj_iconst (v := 1) C d_Ch_addSpan_47 rfl ?_
      refine xj_iadd C d_Ch_addSpan_48 ?_
      refine xj_put (ws' := WC ad cI (sI (sA (sA (sA st 3 v1.toNatClampNeg x1) 4 v1.toNatClampNeg x2) 5 v1.toNatClampNeg x3) 1 (v1 + 1))) C g_Ch_34 gw_Ch_spans (WC_D N sz _) 1 rfl rfl rfl (Nat.le_of_ble_eq_true rfl) d_Ch_addSpan_49 rfl ?_
      refine xj_iconst (v := 1) C d_Ch_addSpan_52 rfl ?_
      exact xj_zret C hr rfl hf d_Ch_addSpan_53
    · have hf := xi_neg h9 hf
      refine xj_iconst (v := 0) C d_Ch_addSpan_18 rfl ?_
      exact xj_zret C hr rfl hf d_Ch_addSpan_19
set_option maxHeartbeats 4000000 in
set_option maxRecDepth 20000 in
theorem c_Ch_size {l : Launch} {D : va_G} {ad : Nat → Nat} {cI : ClassId} (N : (LC ad).Nodup) {st : St} {out : Int32 × St} (hf : f_Ch_size  st = some out) : xMi l y_Ch_size b_Ch_size 1 (some .int) rm_Ch_size D (tyC cI) (WC ad cI) (LC ad) [.ref (ad 1)] st out := by
  intro sz
  refine xM_of (L := LC ad) (by decide) (Nat.le_of_ble_eq_true rfl) (fun p e s m below meth c hsz hr C => ?_)
  show j_i p l e rm_Ch_size s m _ below meth c sz D (WC ad cI) (LC ad) out 1 (WC ad cI st) [(0, .ref (ad 1))] 0 []
  unfold f_Ch_size at hf
  refine xj_aload_n C d_Ch_size_0 rfl 0 rfl ?_
  refine xj_get C g_Ch_30 1 rfl rfl d_Ch_size_1 ?_
  exact xj_iret C hr hf d_Ch_size_4
set_option maxHeartbeats 4000000 in
set_option maxRecDepth 20000 in
theorem c_Ch_spans {l : Launch} {D : va_G} {ad : Nat → Nat} {cI : ClassId} (N : (LC ad).Nodup) {st : St} {out : Int32 × St} (hf : f_Ch_spans  st = some out) : xMi l y_Ch_spans b_Ch_spans 1 (some .int) rm_Ch_spans D (tyC cI) (WC ad cI) (LC ad) [.ref (ad 1)] st out := by
  intro sz
  refine xM_of (L := LC ad) (by decide) (Nat.le_of_ble_eq_true rfl) (fun p e s m below meth c hsz hr C => ?_)
  show j_i p l e rm_Ch_spans s m _ below meth c sz D (WC ad cI) (LC ad) out 1 (WC ad cI st) [(0, .ref (ad 1))] 0 []
  unfold f_Ch_spans at hf
  refine xj_aload_n C d_Ch_spans_0 rfl 0 rfl ?_
  refine xj_get C g_Ch_34 1 rfl rfl d_Ch_spans_1 ?_
  exact xj_iret C hr hf d_Ch_spans_4
set_option maxHeartbeats 4000000 in
set_option maxRecDepth 20000 in
theorem c_Fl_add {l : Launch} {D : va_G} {ad : Nat → Nat} {cI : ClassId} (N : (LC ad).Nodup) {x1 x2 x3 x4 x5 : Int32} {st : St} {out : Int32 × St} (hf : f_Fl_add x1 x2 x3 x4 x5 st = some out) : xMi l y_Fl_add b_Fl_add 7 (some .int) rm_Fl_add D (tyC cI) (WC ad cI) (LC ad) [.ref (ad 2), .int x1, .int x2, .int x3, .int x4, .int x5] st out := by
  intro sz
  refine xM_of (L := LC ad) (by decide) (Nat.le_of_ble_eq_true rfl) (fun p e s m below meth c hsz hr C => ?_)
  show j_i p l e rm_Fl_add s m _ below meth c sz D (WC ad cI) (LC ad) out 7 (WC ad cI st) [(0, .ref (ad 2)), (1, .int x1), (2, .int x2), (3, .int x3), (4, .int x4), (5, .int x5)] 0 []
  unfold f_Fl_add at hf
  refine xj_aload_n C d_Fl_add_0 rfl 0 rfl ?_
  refine xj_get C g_Fl_27 2 rfl rfl d_Fl_add_1 ?_
  refine xj_topi (fun v1 ev1 => ?_)
  have hf := xlet_at ev1 hf
  refine xj_istore C d_Fl_add_4 (by decide) rfl ?_
  refine xj_iload C d_Fl_add_6 0 rfl ?_
  refine xj_if_lt (tgt := 17) C d_Fl_add_8 (by decide) (fun h9 => ?_) (fun h9 => ?_)
  · have hf := xi_pos h9 hf
    refine xj_iconst (v := (-1)) C d_Fl_add_17 rfl ?_
    exact xj_iret C hr hf d_Fl_add_18
  · have hf := xi_neg h9 hf
    refine xj_iload C d_Fl_add_11 0 rfl ?_
    refine xj_iconst (v := 4) C d_Fl_add_13 rfl ?_
    refine xj_icmp_lt (tgt := 19) C d_Fl_add_14 (by decide) (fun h9 => ?_) (fun h9 => ?_)
    · have hf := xi_pos h9 hf
      refine xj_aload_n C d_Fl_add_19 rfl 1 rfl ?_
      refine xj_get C g_Fl_9 2 rfl rfl d_Fl_add_20 ?_
      refine xj_iload C d_Fl_add_23 0 rfl ?_
      refine xj_iload_n C d_Fl_add_25 rfl 2 rfl ?_
      obtain ⟨g2, hf⟩ := xb_guard hf
      refine xj_iast (ws' := WC ad cI (sA st 6 v1.toNatClampNeg x1)) C (WC_D N sz _) 14 0 rfl rfl g2 d_Fl_add_26 rfl ?_
      refine xj_aload_n C d_Fl_add_27 rfl 1 rfl ?_
      refine xj_get C g_Fl_15 2 rfl rfl d_Fl_add_28 ?_
      refine xj_iload C d_Fl_add_31 0 rfl ?_
      refine xj_iload_n C d_Fl_add_33 rfl 3 rfl ?_
      obtain ⟨g3, hf⟩ := xb_guard hf
      refine xj_iast (ws' := WC ad cI (sA (sA st 6 v1.toNatClampNeg x1) 7 v1.toNatClampNeg x2)) C (WC_D N sz _) 15 0 rfl rfl g3 d_Fl_add_34 rfl ?_
      refine xj_aload_n C d_Fl_add_35 rfl 1 rfl ?_
      refine xj_get C g_Fl_18 2 rfl rfl d_Fl_add_36 ?_
      refine xj_iload C d_Fl_add_39 0 rfl ?_
      refine xj_iload_n C d_Fl_add_41 rfl 4 rfl ?_
      obtain ⟨g4, hf⟩ := xb_guard hf
      refine xj_iast (ws' := WC ad cI (sA (sA (sA st 6 v1.toNatClampNeg x1) 7 v1.toNatClampNeg x2) 8 v1.toNatClampNeg x3)) C (WC_D N sz _) 16 0 rfl rfl g4 d_Fl_add_42 rfl ?_
      refine xj_aload_n C d_Fl_add_43 rfl 1 rfl ?_
      refine xj_get C g_Fl_21 2 rfl rfl d_Fl_add_44 ?_
      refine xj_iload C d_Fl_add_47 0 rfl ?_
      refine xj_iload C d_Fl_add_49 5 rfl ?_
      obtain ⟨g5, hf⟩ := xb_guard hf
      refine xj_iast (ws' := WC ad cI (sA (sA (sA (sA st 6 v1.toNatClampNeg x1) 7 v1.toNatClampNeg x2) 8 v1.toNatClampNeg x3) 9 v1.toNatClampNeg x4)) C (WC_D N sz _) 17 0 rfl rfl g5 d_Fl_add_51 rfl ?_
      refine xj_aload_n C d_Fl_add_52 rfl 1 rfl ?_
      refine xj_get C g_Fl_24 2 rfl rfl d_Fl_add_53 ?_
      refine xj_iload C d_Fl_add_56 0 rfl ?_
      refine xj_iload C d_Fl_add_58 6 rfl ?_
      obtain ⟨g6, hf⟩ := xb_guard hf
      refine xj_iast (ws' := WC ad cI (sA (sA (sA (sA (sA st 6 v1.toNatClampNeg x1) 7 v1.toNatClampNeg x2) 8 v1.toNatClampNeg x3) 9 v1.toNatClampNeg x4) 10 v1.toNatClampNeg x5)) C (WC_D N sz _) 18 0 rfl rfl g6 d_Fl_add_60 rfl ?_
      refine xj_aload_n C d_Fl_add_61 rfl 1 rfl ?_
      refine xj_iload C d_Fl_add_62 0 rfl ?_
      refine xj_iconst (v := 1) C d_Fl_add_64 rfl ?_
      refine xj_iadd C d_Fl_add_65 ?_
      refine xj_put (ws' := WC ad cI (sI (sA (sA (sA (sA (sA st 6 v1.toNatClampNeg x1) 7 v1.toNatClampNeg x2) 8 v1.toNatClampNeg x3) 9 v1.toNatClampNeg x4) 10 v1.toNatClampNeg x5) 2 (v1 + 1))) C g_Fl_27 gw_Fl_size (WC_D N sz _) 2 rfl rfl rfl (Nat.le_of_ble_eq_true rfl) d_Fl_add_66 rfl ?_
      refine xj_iload C d_Fl_add_69 0 rfl ?_
      exact xj_iret C hr hf d_Fl_add_71
    · have hf := xi_neg h9 hf
      refine xj_iconst (v := (-1)) C d_Fl_add_17 rfl ?_
      exact xj_iret C hr hf d_Fl_add_18
set_option maxHeartbeats 4000000 in
set_option maxRecDepth 20000 in
theorem c_Fl_setArrival {l : Launch} {D : va_G} {ad : Nat → Nat} {cI : ClassId} (N : (LC ad).Nodup) {x1 x2 : Int32} {st : St} {out : St} (hf : f_Fl_setArrival x1 x2 st = some out) : xMv l y_Fl_setArrival b_Fl_setArrival 3 none rm_Fl_setArrival D (tyC cI) (WC ad cI) (LC ad) [.ref (ad 2), .int x1, .int x2] st out := by
  intro sz
  refine xM_of (L := LC ad) (by decide) (Nat.le_of_ble_eq_true rfl) (fun p e s m below meth c hsz hr C => ?_)
  show j_v p l e rm_Fl_setArrival s m _ below meth c sz D (WC ad cI) (LC ad) out 3 (WC ad cI st) [(0, .ref (ad 2)), (1, .int x1), (2, .int x2)] 0 []
  unfold f_Fl_setArrival at hf
  refine xj_aload_n C d_Fl_setArrival_0 rfl 0 rfl ?_
  refine xj_iload_n C d_Fl_setArrival_1 rfl 1 rfl ?_
  obtain ⟨o1, ho1, hf⟩ := xb_some hf
  refine xj_callVi (rest := []) C (c_Fl_has N ho1) Y_Fl_has i_Fl_31 2 rfl rfl (by decide) ⟨rfl, rfl⟩ rfl rfl (Nat.le_of_ble_eq_true rfl) d_Fl_setArrival_2 (fun q h => Or.inl h) ?_
  refine xj_if_eq (tgt := 15) C d_Fl_setArrival_5 (by decide) (fun h9 => ?_) (fun h9 => ?_)
  · have hf := xi_pos h9 hf
    exact xj_vret C hr hf d_Fl_setArrival_15
  · have hf := xi_neg h9 hf
    refine xj_aload_n C d_Fl_setArrival_8 rfl 0 rfl ?_
    refine xj_get C g_Fl_18 2 rfl rfl d_Fl_setArrival_9 ?_
    refine xj_iload_n C d_Fl_setArrival_12 rfl 1 rfl ?_
    refine xj_iload_n C d_Fl_setArrival_13 rfl 2 rfl ?_
    obtain ⟨g2, hf⟩ := xb_guard hf
    refine xj_iast (ws' := WC ad cI (sA o1.2 8 x1.toNatClampNeg x2)) C (WC_D N sz _) 16 0 rfl rfl g2 d_Fl_setArrival_14 rfl ?_
    exact xj_vret C hr hf d_Fl_setArrival_15
set_option maxHeartbeats 4000000 in
set_option maxRecDepth 20000 in
theorem c_LR_within {l : Launch} {D : va_G} {ad : Nat → Nat} {cI : ClassId} (N : (LC ad).Nodup) {x0 x1 x2 : Int32} {st : St} {out : Int32 × St} (hf : f_LR_within x0 x1 x2 st = some out) : xMi l y_LR_within b_LR_within 3 (some .boolean) rm_LR_within D (tyC cI) (WC ad cI) (LC ad) [.int x0, .int x1, .int x2] st out := by
  intro sz
  refine xM_of (L := LC ad) (by decide) (Nat.le_of_ble_eq_true rfl) (fun p e s m below meth c hsz hr C => ?_)
  show j_i p l e rm_LR_within s m _ below meth c sz D (WC ad cI) (LC ad) out 3 (WC ad cI st) [(0, .int x0), (1, .int x1), (2, .int x2)] 0 []
  unfold f_LR_within at hf
  refine xj_iload_n C d_LR_within_0 rfl 0 rfl ?_
  refine xj_iload_n C d_LR_within_1 rfl 1 rfl ?_
  refine xj_icmp_lt (tgt := 14) C d_LR_within_2 (by decide) (fun h9 => ?_) (fun h9 => ?_)
  · have hf := xi_pos h9 hf
    refine xj_iconst (v := 0) C d_LR_within_14 rfl ?_
    exact xj_zret C hr rfl hf d_LR_within_15
  · have hf := xi_neg h9 hf
    refine xj_iload_n C d_LR_within_5 rfl 0 rfl ?_
    refine xj_iload_n C d_LR_within_6 rfl 2 rfl ?_
    refine xj_icmp_gt (tgt := 14) C d_LR_within_7 (by decide) (fun h9 => ?_) (fun h9 => ?_)
    · have hf := xi_pos h9 hf
      refine xj_iconst (v := 0) C d_LR_within_14 rfl ?_
      exact xj_zret C hr rfl hf d_LR_within_15
    · have hf := xi_neg h9 hf
      refine xj_iconst (v := 1) C d_LR_within_10 rfl ?_
      refine xj_goto (tgt := 15) C d_LR_within_11 (by decide) ?_
      exact xj_zret C hr rfl hf d_LR_within_15
set_option maxHeartbeats 4000000 in
set_option maxRecDepth 20000 in
theorem c_LR_canMeasure {l : Launch} {D : va_G} {ad : Nat → Nat} {cI : ClassId} (N : (LC ad).Nodup) {x0 x1 : Int32} {st : St} {out : Int32 × St} (hf : f_LR_canMeasure x0 x1 st = some out) : xMi l y_LR_canMeasure b_LR_canMeasure 2 (some .boolean) rm_LR_canMeasure D (tyC cI) (WC ad cI) (LC ad) [.int x0, .int x1] st out := by
  intro sz
  refine xM_of (L := LC ad) (by decide) (Nat.le_of_ble_eq_true rfl) (fun p e s m below meth c hsz hr C => ?_)
  show j_i p l e rm_LR_canMeasure s m _ below meth c sz D (WC ad cI) (LC ad) out 2 (WC ad cI st) [(0, .int x0), (1, .int x1)] 0 []
  unfold f_LR_canMeasure at hf
  refine xj_iload_n C d_LR_canMeasure_0 rfl 0 rfl ?_
  refine xj_iconst (v := 1) C d_LR_canMeasure_1 rfl ?_
  refine xj_bipush (v := 8) C d_LR_canMeasure_2 rfl ?_
  obtain ⟨o1, ho1, hf⟩ := xb_some hf
  refine xj_callSi (rest := []) C (c_LR_within N ho1) Y_LR_within i_LR_45 (by decide) ⟨rfl, rfl⟩ rfl rfl (Nat.le_of_ble_eq_true rfl) d_LR_canMeasure_4 (fun q h => Or.inl h) ?_
  refine xj_if_eq (tgt := 23) C d_LR_canMeasure_7 (by decide) (fun h9 => ?_) (fun h9 => ?_)
  · have hf := xi_pos h9 hf
    refine xj_iconst (v := 0) C d_LR_canMeasure_23 rfl ?_
    exact xj_zret C hr rfl hf d_LR_canMeasure_24
  · have hf := xi_neg h9 hf
    refine xj_iload_n C d_LR_canMeasure_10 rfl 1 rfl ?_
    refine xj_iconst (v := 1) C d_LR_canMeasure_11 rfl ?_
    refine xj_iconst (v := 3) C d_LR_canMeasure_12 rfl ?_
    obtain ⟨o2, ho2, hf⟩ := xb_some hf
    refine xj_callSi (rest := []) C (c_LR_within N ho2) Y_LR_within i_LR_45 (by decide) ⟨rfl, rfl⟩ rfl rfl (Nat.le_of_ble_eq_true rfl) d_LR_canMeasure_13 (fun q h => Or.inl h) ?_
    refine xj_if_eq (tgt := 23) C d_LR_canMeasure_16 (by decide) (fun h9 => ?_) (fun h9 => ?_)
    · have hf := xi_pos h9 hf
      refine xj_iconst (v := 0) C d_LR_canMeasure_23 rfl ?_
      exact xj_zret C hr rfl hf d_LR_canMeasure_24
    · have hf := xi_neg h9 hf
      refine xj_iconst (v := 1) C d_LR_canMeasure_19 rfl ?_
      refine xj_goto (tgt := 24) C d_LR_canMeasure_20 (by decide) ?_
      exact xj_zret C hr rfl hf d_LR_canMeasure_24
set_option maxHeartbeats 4000000 in
set_option maxRecDepth 20000 in
theorem c_LR_runsOf {l : Launch} {D : va_G} {ad : Nat → Nat} {cI : ClassId} (N : (LC ad).Nodup) {x1 : Int32} {st : St} {out : Int32 × St} (hf : f_LR_runsOf x1 st = some out) : xMi l y_LR_runsOf b_LR_runsOf 2 (some .int) rm_LR_runsOf D (tyC cI) (WC ad cI) (LC ad) [.ref (ad 0), .int x1] st out := by
  intro sz
  refine xM_of (L := LC ad) (by decide) (Nat.le_of_ble_eq_true rfl) (fun p e s m below meth c hsz hr C => ?_)
  show j_i p l e rm_LR_runsOf s m _ below meth c sz D (WC ad cI) (LC ad) out 2 (WC ad cI st) [(0, .ref (ad 0)), (1, .int x1)] 0 []
  unfold f_LR_runsOf at hf
  refine xj_aload_n C d_LR_runsOf_0 rfl 0 rfl ?_
  refine xj_get C g_LR_12 0 rfl rfl d_LR_runsOf_1 ?_
  refine xj_iload_n C d_LR_runsOf_4 rfl 1 rfl ?_
  obtain ⟨o1, ho1, hf⟩ := xb_some hf
  refine xj_callVi (rest := []) C (c_Ch_has N ho1) Y_Ch_has i_LR_75 1 rfl rfl (by decide) ⟨rfl, rfl⟩ rfl rfl (Nat.le_of_ble_eq_true rfl) d_LR_runsOf_5 (fun q h => Or.inl h) ?_
  refine xj_if_eq (tgt := 32) C d_LR_runsOf_8 (by decide) (fun h9 => ?_) (fun h9 => ?_)
  · have hf := xi_pos h9 hf
    refine xj_iconst (v := (-1)) C d_LR_runsOf_32 rfl ?_
    exact xj_iret C hr hf d_LR_runsOf_33
  · have hf := xi_neg h9 hf
    refine xj_aload_n C d_LR_runsOf_11 rfl 0 rfl ?_
    refine xj_get C g_LR_37 0 rfl rfl d_LR_runsOf_12 ?_
    obtain ⟨o2, ho2, hf⟩ := xb_some hf
    refine xj_callVi (rest := []) C (c_Pl_hasPlan N ho2) Y_Pl_hasPlan i_LR_113 4 rfl rfl (by decide) ⟨rfl, rfl⟩ rfl rfl (Nat.le_of_ble_eq_true rfl) d_LR_runsOf_15 (fun q h => Or.inl h) ?_
    refine xj_if_eq (tgt := 32) C d_LR_runsOf_18 (by decide) (fun h9 => ?_) (fun h9 => ?_)
    · have hf := xi_pos h9 hf
      refine xj_iconst (v := (-1)) C d_LR_runsOf_32 rfl ?_
      exact xj_iret C hr hf d_LR_runsOf_33
    · have hf := xi_neg h9 hf
      refine xj_aload_n C d_LR_runsOf_21 rfl 0 rfl ?_
      refine xj_get C g_LR_37 0 rfl rfl d_LR_runsOf_22 ?_
      refine xj_iload_n C d_LR_runsOf_25 rfl 1 rfl ?_
      obtain ⟨o3, ho3, hf⟩ := xb_some hf
      refine xj_callVi (rest := []) C (c_Pl_runs N ho3) Y_Pl_runs i_LR_165 4 rfl rfl (by decide) ⟨rfl, rfl⟩ rfl rfl (Nat.le_of_ble_eq_true rfl) d_LR_runsOf_26 (fun q h => Or.inl h) ?_
      refine xj_goto (tgt := 33) C d_LR_runsOf_29 (by decide) ?_
      exact xj_iret C hr hf d_LR_runsOf_33
set_option maxHeartbeats 4000000 in
set_option maxRecDepth 20000 in
theorem c_LR_closed {l : Launch} {D : va_G} {ad : Nat → Nat} {cI : ClassId} (N : (LC ad).Nodup) {x1 x2 x3 : Int32} {st : St} {out : Int32 × St} (hf : f_LR_closed x1 x2 x3 st = some out) : xMi l y_LR_closed b_LR_closed 4 (some .boolean) rm_LR_closed D (tyC cI) (WC ad cI) (LC ad) [.ref (ad 0), .int x1, .int x2, .int x3] st out := by
  intro sz
  refine xM_of (L := LC ad) (by decide) (Nat.le_of_ble_eq_true rfl) (fun p e s m below meth c hsz hr C => ?_)
  show j_i p l e rm_LR_closed s m _ below meth c sz D (WC ad cI) (LC ad) out 4 (WC ad cI st) [(0, .ref (ad 0)), (1, .int x1), (2, .int x2), (3, .int x3)] 0 []
  unfold f_LR_closed at hf
  refine xj_aload_n C d_LR_closed_0 rfl 0 rfl ?_
  refine xj_get C g_LR_12 0 rfl rfl d_LR_closed_1 ?_
  refine xj_iload_n C d_LR_closed_4 rfl 1 rfl ?_
  obtain ⟨o1, ho1, hf⟩ := xb_some hf
  refine xj_callVi (rest := []) C (c_Ch_has N ho1) Y_Ch_has i_LR_75 1 rfl rfl (by decide) ⟨rfl, rfl⟩ rfl rfl (Nat.le_of_ble_eq_true rfl) d_LR_closed_5 (fun q h => Or.inl h) ?_
  refine xj_if_eq (tgt := 27) C d_LR_closed_8 (by decide) (fun h9 => ?_) (fun h9 => ?_)
  · have hf := xi_pos h9 hf
    refine xj_iconst (v := 0) C d_LR_closed_27 rfl ?_
    exact xj_zret C hr rfl hf d_LR_closed_28
  · have hf := xi_neg h9 hf
    refine xj_iload_n C d_LR_closed_11 rfl 2 rfl ?_
    refine xj_if_lt (tgt := 27) C d_LR_closed_12 (by decide) (fun h9 => ?_) (fun h9 => ?_)
    · have hf := xi_pos h9 hf
      refine xj_iconst (v := 0) C d_LR_closed_27 rfl ?_
      exact xj_zret C hr rfl hf d_LR_closed_28
    · have hf := xi_neg h9 hf
      refine xj_iload_n C d_LR_closed_15 rfl 2 rfl ?_
      refine xj_iload_n C d_LR_closed_16 rfl 3 rfl ?_
      refine xj_icmp_ge (tgt := 27) C d_LR_closed_17 (by decide) (fun h9 => ?_) (fun h9 => ?_)
      · have hf := xi_pos h9 hf
        refine xj_iconst (v := 0) C d_LR_closed_27 rfl ?_
        exact xj_zret C hr rfl hf d_LR_closed_28
      · have hf := xi_neg h9 hf
        refine xj_iload_n C d_LR_closed_20 rfl 3 rfl ?_
        refine xj_sipush (v := 10000) C d_LR_closed_21 rfl ?_
        refine xj_icmp_le (tgt := 29) C d_LR_closed_24 (by decide) (fun h9 => ?_) (fun h9 => ?_)
        · have hf := xi_pos h9 hf
          refine xj_aload_n C d_LR_closed_29 rfl 0 rfl ?_
          refine xj_get C g_LR_12 0 rfl rfl d_LR_closed_30 ?_
          refine xj_iload_n C d_LR_closed_33 rfl 1 rfl ?_
          refine xj_iload_n C d_LR_closed_34 rfl 2 rfl ?_
          refine xj_iload_n C d_LR_closed_35 rfl 3 rfl ?_
          obtain ⟨o2, ho2, hf⟩ := xb_some hf
          refine xj_callVi (rest := []) C (c_Ch_addSpan N ho2) Y_Ch_addSpan i_LR_79 1 rfl rfl (by decide) ⟨rfl, rfl⟩ rfl rfl (Nat.le_of_ble_eq_true rfl) d_LR_closed_36 (fun q h => Or.inl h) ?_
          refine xj_if_ne (tgt := 44) C d_LR_closed_39 (by decide) (fun h9 => ?_) (fun h9 => ?_)
          · have hf := xi_neg h9 hf
            refine xj_aload_n C d_LR_closed_44 rfl 0 rfl ?_
            refine xj_get C g_LR_37 0 rfl rfl d_LR_closed_45 ?_
            obtain ⟨o3, ho3, hf⟩ := xb_some hf
            refine xj_callVv (rest := []) C (c_Pl_forget N ho3) Y_Pl_forget i_LR_65 4 rfl rfl (by decide) ⟨rfl, rfl⟩ rfl rfl (Nat.le_of_ble_eq_true rfl) d_LR_closed_48 (fun q h => Or.inl h) ?_
            refine xj_iconst (v := 1) C d_LR_closed_51 rfl ?_
            exact xj_zret C hr rfl hf d_LR_closed_52
          · have hf := xi_pos h9 hf
            refine xj_iconst (v := 0) C d_LR_closed_42 rfl ?_
            exact xj_zret C hr rfl hf d_LR_closed_43
        · have hf := xi_neg h9 hf
          refine xj_iconst (v := 0) C d_LR_closed_27 rfl ?_
          exact xj_zret C hr rfl hf d_LR_closed_28
set_option maxHeartbeats 4000000 in
set_option maxRecDepth 20000 in
theorem c_LR_rule {l : Launch} {D : va_G} {ad : Nat → Nat} {cI : ClassId} (N : (LC ad).Nodup) {x1 x2 : Int32} {st : St} {out : Int32 × St} (hf : f_LR_rule x1 x2 st = some out) : xMi l y_LR_rule b_LR_rule 3 (some .boolean) rm_LR_rule D (tyC cI) (WC ad cI) (LC ad) [.ref (ad 0), .int x1, .int x2] st out := by
  intro sz
  refine xM_of (L := LC ad) (by decide) (Nat.le_of_ble_eq_true rfl) (fun p e s m below meth c hsz hr C => ?_)
  show j_i p l e rm_LR_rule s m _ below meth c sz D (WC ad cI) (LC ad) out 3 (WC ad cI st) [(0, .ref (ad 0)), (1, .int x1), (2, .int x2)] 0 []
  unfold f_LR_rule at hf
  refine xj_iload_n C d_LR_rule_0 rfl 1 rfl ?_
  refine xj_iconst (v := 0) C d_LR_rule_1 rfl ?_
  refine xj_iconst (v := 3) C d_LR_rule_2 rfl ?_
  obtain ⟨o1, ho1, hf⟩ := xb_some hf
  refine xj_callSi (rest := []) C (c_LR_within N ho1) Y_LR_within i_LR_45 (by decide) ⟨rfl, rfl⟩ rfl rfl (Nat.le_of_ble_eq_true rfl) d_LR_rule_3 (fun q h => Or.inl h) ?_
  refine xj_if_eq (tgt := 18) C d_LR_rule_6 (by decide) (fun h9 => ?_) (fun h9 => ?_)
  · have hf := xi_pos h9 hf
    refine xj_iconst (v := 0) C d_LR_rule_18 rfl ?_
    exact xj_zret C hr rfl hf d_LR_rule_19
  · have hf := xi_neg h9 hf
    refine xj_iload_n C d_LR_rule_9 rfl 2 rfl ?_
    refine xj_iconst (v := 0) C d_LR_rule_10 rfl ?_
    refine xj_iconst (v := 3) C d_LR_rule_11 rfl ?_
    obtain ⟨o2, ho2, hf⟩ := xb_some hf
    refine xj_callSi (rest := []) C (c_LR_within N ho2) Y_LR_within i_LR_45 (by decide) ⟨rfl, rfl⟩ rfl rfl (Nat.le_of_ble_eq_true rfl) d_LR_rule_12 (fun q h => Or.inl h) ?_
    refine xj_if_ne (tgt := 20) C d_LR_rule_15 (by decide) (fun h9 => ?_) (fun h9 => ?_)
    · have hf := xi_neg h9 hf
      refine xj_aload_n C d_LR_rule_20 rfl 0 rfl ?_
      refine xj_get C g_LR_28 0 rfl rfl d_LR_rule_21 ?_
      refine xj_iload_n C d_LR_rule_24 rfl 1 rfl ?_
      obtain ⟨o3, ho3, hf⟩ := xb_some hf
      refine xj_callVv (rest := []) C (c_Be_setGap N ho3) Y_Be_setGap i_LR_82 3 rfl rfl (by decide) ⟨rfl, rfl⟩ rfl rfl (Nat.le_of_ble_eq_true rfl) d_LR_rule_25 (fun q h => Or.inl h) ?_
      refine xj_aload_n C d_LR_rule_28 rfl 0 rfl ?_
      refine xj_get C g_LR_37 0 rfl rfl d_LR_rule_29 ?_
      refine xj_iload_n C d_LR_rule_32 rfl 2 rfl ?_
      obtain ⟨o4, ho4, hf⟩ := xb_some hf
      refine xj_callVv (rest := []) C (c_Pl_setOver N ho4) Y_Pl_setOver i_LR_86 4 rfl rfl (by decide) ⟨rfl, rfl⟩ rfl rfl (Nat.le_of_ble_eq_true rfl) d_LR_rule_33 (fun q h => Or.inl h) ?_
      refine xj_aload_n C d_LR_rule_36 rfl 0 rfl ?_
      refine xj_get C g_LR_37 0 rfl rfl d_LR_rule_37 ?_
      obtain ⟨o5, ho5, hf⟩ := xb_some hf
      refine xj_callVv (rest := []) C (c_Pl_forget N ho5) Y_Pl_forget i_LR_65 4 rfl rfl (by decide) ⟨rfl, rfl⟩ rfl rfl (Nat.le_of_ble_eq_true rfl) d_LR_rule_40 (fun q h => Or.inl h) ?_
      refine xj_iconst (v := 1) C d_LR_rule_43 rfl ?_
      exact xj_zret C hr rfl hf d_LR_rule_44
    · have hf := xi_pos h9 hf
      refine xj_iconst (v := 0) C d_LR_rule_18 rfl ?_
      exact xj_zret C hr rfl hf d_LR_rule_19
set_option maxHeartbeats 4000000 in
set_option maxRecDepth 20000 in
theorem c_LR_plan {l : Launch} {D : va_G} {ad : Nat → Nat} {cI : ClassId} (N : (LC ad).Nodup) {st : St} {out : Int32 × St} (hf : f_LR_plan  st = some out) : xMi l y_LR_plan b_LR_plan 1 (some .int) rm_LR_plan D (tyC cI) (WC ad cI) (LC ad) [.ref (ad 0)] st out := by
  intro sz
  refine xM_of (L := LC ad) (by decide) (Nat.le_of_ble_eq_true rfl) (fun p e s m below meth c hsz hr C => ?_)
  show j_i p l e rm_LR_plan s m _ below meth c sz D (WC ad cI) (LC ad) out 1 (WC ad cI st) [(0, .ref (ad 0))] 0 []
  unfold f_LR_plan at hf
  refine xj_aload_n C d_LR_plan_0 rfl 0 rfl ?_
  refine xj_get C g_LR_37 0 rfl rfl d_LR_plan_1 ?_
  obtain ⟨o1, ho1, hf⟩ := xb_some hf
  refine xj_callVi (rest := []) C (c_Pl_search N ho1) Y_Pl_search i_LR_89 4 rfl rfl (by decide) ⟨rfl, rfl⟩ rfl rfl (Nat.le_of_ble_eq_true rfl) d_LR_plan_4 (fun q h => Or.inl h) ?_
  refine xj_if_eq (tgt := 20) C d_LR_plan_7 (by decide) (fun h9 => ?_) (fun h9 => ?_)
  · have hf := xi_pos h9 hf
    refine xj_iconst (v := (-1)) C d_LR_plan_20 rfl ?_
    exact xj_iret C hr hf d_LR_plan_21
  · have hf := xi_neg h9 hf
    refine xj_aload_n C d_LR_plan_10 rfl 0 rfl ?_
    refine xj_get C g_LR_37 0 rfl rfl d_LR_plan_11 ?_
    obtain ⟨o2, ho2, hf⟩ := xb_some hf
    refine xj_callVi (rest := []) C (c_Pl_waiting N ho2) Y_Pl_waiting i_LR_93 4 rfl rfl (by decide) ⟨rfl, rfl⟩ rfl rfl (Nat.le_of_ble_eq_true rfl) d_LR_plan_14 (fun q h => Or.inl h) ?_
    refine xj_goto (tgt := 21) C d_LR_plan_17 (by decide) ?_
    exact xj_iret C hr hf d_LR_plan_21
set_option maxHeartbeats 4000000 in
set_option maxRecDepth 20000 in
theorem c_LR_count {l : Launch} {D : va_G} {ad : Nat → Nat} {cI : ClassId} (N : (LC ad).Nodup) {x1 : Int32} {st : St} {out : Int32 × St} (hf : f_LR_count x1 st = some out) : xMi l y_LR_count b_LR_count 2 (some .int) rm_LR_count D (tyC cI) (WC ad cI) (LC ad) [.ref (ad 0), .int x1] st out := by
  intro sz
  refine xM_of (L := LC ad) (by decide) (Nat.le_of_ble_eq_true rfl) (fun p e s m below meth c hsz hr C => ?_)
  show j_i p l e rm_LR_count s m _ below meth c sz D (WC ad cI) (LC ad) out 2 (WC ad cI st) [(0, .ref (ad 0)), (1, .int x1)] 0 []
  unfold f_LR_count at hf
  refine xj_iload_n C d_LR_count_0 rfl 1 rfl ?_
  by_cases h09 : x1 = 0
  · have hf := xi_pos h09 hf
    refine xj_tableIn (tgt := 48) C d_LR_count_1 (by rw [h09]; decide) (by rw [h09]; decide) (by rw [h09]; rfl) (by decide) ?_
    refine xj_aload_n C d_LR_count_48 rfl 0 rfl ?_
    refine xj_get C g_LR_12 0 rfl rfl d_LR_count_49 ?_
    obtain ⟨o1, ho1, hf⟩ := xb_some hf
    refine xj_callVi (rest := []) C (c_Ch_size N ho1) Y_Ch_size i_LR_141 1 rfl rfl (by decide) ⟨rfl, rfl⟩ rfl rfl (Nat.le_of_ble_eq_true rfl) d_LR_count_52 (fun q h => Or.inl h) ?_
    exact xj_iret C hr hf d_LR_count_55
  have hf := xi_neg h09 hf
  by_cases h19 : x1 = 1
  · have hf := xi_pos h19 hf
    refine xj_tableIn (tgt := 56) C d_LR_count_1 (by rw [h19]; decide) (by rw [h19]; decide) (by rw [h19]; rfl) (by decide) ?_
    refine xj_aload_n C d_LR_count_56 rfl 0 rfl ?_
    refine xj_get C g_LR_19 0 rfl rfl d_LR_count_57 ?_
    obtain ⟨o2, ho2, hf⟩ := xb_some hf
    refine xj_callVi (rest := []) C (c_Fl_size N ho2) Y_Fl_size i_LR_151 2 rfl rfl (by decide) ⟨rfl, rfl⟩ rfl rfl (Nat.le_of_ble_eq_true rfl) d_LR_count_60 (fun q h => Or.inl h) ?_
    exact xj_iret C hr hf d_LR_count_63
  have hf := xi_neg h19 hf
  by_cases h29 : x1 = 2
  · have hf := xi_pos h29 hf
    refine xj_tableIn (tgt := 64) C d_LR_count_1 (by rw [h29]; decide) (by rw [h29]; decide) (by rw [h29]; rfl) (by decide) ?_
    refine xj_aload_n C d_LR_count_64 rfl 0 rfl ?_
    refine xj_get C g_LR_12 0 rfl rfl d_LR_count_65 ?_
    obtain ⟨o3, ho3, hf⟩ := xb_some hf
    refine xj_callVi (rest := []) C (c_Ch_spans N ho3) Y_Ch_spans i_LR_152 1 rfl rfl (by decide) ⟨rfl, rfl⟩ rfl rfl (Nat.le_of_ble_eq_true rfl) d_LR_count_68 (fun q h => Or.inl h) ?_
    exact xj_iret C hr hf d_LR_count_71
  have hf := xi_neg h29 hf
  by_cases h39 : x1 = 3
  · have hf := xi_pos h39 hf
    refine xj_tableIn (tgt := 72) C d_LR_count_1 (by rw [h39]; decide) (by rw [h39]; decide) (by rw [h39]; rfl) (by decide) ?_
    refine xj_aload_n C d_LR_count_72 rfl 0 rfl ?_
    refine xj_get C g_LR_37 0 rfl rfl d_LR_count_73 ?_
    obtain ⟨o4, ho4, hf⟩ := xb_some hf
    refine xj_callVi (rest := []) C (c_Pl_hasPlan N ho4) Y_Pl_hasPlan i_LR_113 4 rfl rfl (by decide) ⟨rfl, rfl⟩ rfl rfl (Nat.le_of_ble_eq_true rfl) d_LR_count_76 (fun q h => Or.inl h) ?_
    refine xj_if_eq (tgt := 86) C d_LR_count_79 (by decide) (fun h9 => ?_) (fun h9 => ?_)
    · have hf := xi_pos h9 hf
      refine xj_iconst (v := 0) C d_LR_count_86 rfl ?_
      exact xj_iret C hr hf d_LR_count_87
    · have hf := xi_neg h9 hf
      refine xj_iconst (v := 1) C d_LR_count_82 rfl ?_
      refine xj_goto (tgt := 87) C d_LR_count_83 (by decide) ?_
      exact xj_iret C hr hf d_LR_count_87
  have hf := xi_neg h39 hf
  by_cases h49 : x1 = 4
  · have hf := xi_pos h49 hf
    refine xj_tableIn (tgt := 88) C d_LR_count_1 (by rw [h49]; decide) (by rw [h49]; decide) (by rw [h49]; rfl) (by decide) ?_
    refine xj_aload_n C d_LR_count_88 rfl 0 rfl ?_
    refine xj_get C g_LR_28 0 rfl rfl d_LR_count_89 ?_
    obtain ⟨o5, ho5, hf⟩ := xb_some hf
    refine xj_callVi (rest := []) C (c_Be_gap N ho5) Y_Be_gap i_LR_155 3 rfl rfl (by decide) ⟨rfl, rfl⟩ rfl rfl (Nat.le_of_ble_eq_true rfl) d_LR_count_92 (fun q h => Or.inl h) ?_
    exact xj_iret C hr hf d_LR_count_95
  have hf := xi_neg h49 hf
  by_cases h59 : x1 = 5
  · have hf := xi_pos h59 hf
    refine xj_tableIn (tgt := 96) C d_LR_count_1 (by rw [h59]; decide) (by rw [h59]; decide) (by rw [h59]; rfl) (by decide) ?_
    refine xj_aload_n C d_LR_count_96 rfl 0 rfl ?_
    refine xj_get C g_LR_37 0 rfl rfl d_LR_count_97 ?_
    obtain ⟨o6, ho6, hf⟩ := xb_some hf
    refine xj_callVi (rest := []) C (c_Pl_over N ho6) Y_Pl_over i_LR_158 4 rfl rfl (by decide) ⟨rfl, rfl⟩ rfl rfl (Nat.le_of_ble_eq_true rfl) d_LR_count_100 (fun q h => Or.inl h) ?_
    exact xj_iret C hr hf d_LR_count_103
  have hf := xi_neg h59 hf
  by_cases h69 : x1 = 6
  · have hf := xi_pos h69 hf
    refine xj_tableIn (tgt := 104) C d_LR_count_1 (by rw [h69]; decide) (by rw [h69]; decide) (by rw [h69]; rfl) (by decide) ?_
    refine xj_aload_n C d_LR_count_104 rfl 0 rfl ?_
    refine xj_iconst (v := 0) C d_LR_count_105 rfl ?_
    obtain ⟨o7, ho7, hf⟩ := xb_some hf
    refine xj_callVi (rest := []) C (c_LR_runsOf N ho7) Y_LR_runsOf i_LR_161 0 rfl rfl (by decide) ⟨rfl, rfl⟩ rfl rfl (Nat.le_of_ble_eq_true rfl) d_LR_count_106 (fun q h => Or.inl h) ?_
    exact xj_iret C hr hf d_LR_count_109
  have hf := xi_neg h69 hf
  by_cases h79 : x1 = 7
  · have hf := xi_pos h79 hf
    refine xj_tableIn (tgt := 110) C d_LR_count_1 (by rw [h79]; decide) (by rw [h79]; decide) (by rw [h79]; rfl) (by decide) ?_
    refine xj_aload_n C d_LR_count_110 rfl 0 rfl ?_
    refine xj_iconst (v := 1) C d_LR_count_111 rfl ?_
    obtain ⟨o8, ho8, hf⟩ := xb_some hf
    refine xj_callVi (rest := []) C (c_LR_runsOf N ho8) Y_LR_runsOf i_LR_161 0 rfl rfl (by decide) ⟨rfl, rfl⟩ rfl rfl (Nat.le_of_ble_eq_true rfl) d_LR_count_112 (fun q h => Or.inl h) ?_
    exact xj_iret C hr hf d_LR_count_115
  have hf := xi_neg h79 hf
  refine xj_tableOut (tgt := 116) C d_LR_count_1 (xsw_out 8 (by decide) (fun k hk => by rcases xlt_8 hk with rfl | rfl | rfl | rfl | rfl | rfl | rfl | rfl <;> assumption)) (by decide) ?_
  refine xj_iconst (v := (-1)) C d_LR_count_116 rfl ?_
  exact xj_iret C hr hf d_LR_count_117
end
