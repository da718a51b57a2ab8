-- ===== end of PART A; then your names; then what follows =====
/-! THE CLAIM OUT OF ONE WALK OF THE LAW'S BODY. Your part is whole_start (and what it stands on); all else here is the same for every law, but numbers. -/
def R_law : String := "LockRunsLaw"
def lw_P (b : Addr) (xs : List Int32) (args : Array Value) (s : State) : Prop := args = #[.ref b] ∧ s.IntsAt b xs ∧ xs.length ≤ 3072 ∧ (Jvm.Cond.and given_1 narrow_1).before args s = true
def lw_Q (_ : Array Value) (s : State) (o : Outcome) (t : State) : Prop := o = .returned (some (.int 1)) ∧ Framed s o t [] 669114 7088763
def lw_Z (below : List Frame) (a : Array Value) (s : State) : State → Prop := fun t => ∃ o, t.status = .running ∧ Ended t below o ∧ lw_Q a s o t
/-- the law's own end, with 1 on the stack, nothing written that was there before, its room as the claim has it -/
theorem lw_ret {p : Program} {l : Launch} {e : Env} {s : State} {m : MethodId} {below : List Frame} {meth : Method} {c : Code} {b : Nat} (hx : p.tables.exec = Jvm.exec) (hb : c.code = code) (hr : meth.sig.returnType = ret) (hlocks : meth.locks = false) {pc : Nat} {H : Heap} {ls : Array Slot} (hdg : decode code pc = .ok (.ireturn, 1)) : W p l e room_1 s m #[Value.ref b] below meth c H [] 669114 7088763 (lw_Z below #[Value.ref b] s) (F0 m pc ls [.int 1]) := by
  intro T hT X
  obtain ⟨fs, hret, hrun, hended, hW, hframe⟩ := X.leave (v := some (.int 1)) (hlocks := hlocks) (fun h => by rw [hr] at h; cases h)
  have hmeth' : T.vm.method? m = some meth := X.method'
  refine ⟨T.setFrames fs, ?_, .returned (some (.int 1)), hrun, hended, rfl, ⟨_, rfl⟩, hW, hframe⟩
  jvm_step X.here [X.here.top, hx, hb, hdg, hmeth', hr, ret, narrow_b1]
  (try refine ⟨rfl, ?_⟩); (try refine ⟨rfl, ?_⟩)
  first | (intro acts; rw [hret _ acts rfl rfl rfl]) | rw [hret _ _ rfl rfl rfl]
  exact Steps.refl _
/-- what holds at the law's entry: the machine, the code, the tables' words (any of lw_tbl by 'hts w (by decide +kernel)'), the script of L ints xs at the cell b, what the Statement gives of the start (any of its parts by flat_of_before) -/
def lw_At (p : Program) (s : State) (m : MethodId) (meth : Method) (c : Code) (b L : Nat) (xs : Nat → Int32) : Prop :=
  p.tables.exec = Jvm.exec ∧ c.code = code ∧ meth.sig.returnType = ret ∧ c.maxLocals = 7 ∧ s.vm.findClass R_law = some m.cls ∧ (∀ w ∈ lw_tbl, w.before #[Value.ref b] s = true) ∧ va_X b L xs s s.heap ∧ b < s.heap.size ∧ meth.locks = false ∧ (Jvm.Cond.and given_1 narrow_1).before #[Value.ref b] s = true
section XQ
variable {p : Program} {l : Launch} {e : Env} {R : Room} {s : State} {m : MethodId} {args : Array Value} {below : List Frame} {meth : Method} {c : Code} {Q : State → Prop} {cells slots : Nat} {s0 : State} {H : Heap} {locs : List Loc}
variable {A : Nat → Prop} {D : va_G} {tys tysC : List (ClassId × FieldType)} {nL : Nat} {lv : List (Nat × Value)} {pc : Nat} {rest st0 : List Value} {cc : ByteArray} {own : String} {S : Type} {wf : S → va_W} {L : List Nat} {st : S} {wr ws : va_W}
/-- a static call of a method with handlers, which returns -/
theorem xCallSW {nL n index maxL mc ms : Nat} {ls : Array Slot} {Ts wsy : List Cond} {y : MethodName} {bytes : ByteArray} {ret : Option FieldType} {hh : List xRow} {rm : Room} {Pc : Array Value → State → Prop} {Qc : Array Value → State → Outcome → State → Prop} {free : Addr → Prop} {As : List Value}
    (S9 : CallFix p m c cc nL s args Ts own) (hM : xMet l y wsy rm Pc Qc mc ms free) (hcode : (Cond.codeWith y bytes maxL ret hh).before args s = true) (hws : ∀ w ∈ wsy, ∀ (a' : Array Value) (U : State), s.WarmedH U.vm → w.before a' U = true) (hini : (Cond.initialized y.cls).before args s = true) (hy : y.cls ≠ "java/lang/invoke/MethodHandle" ∧ y.cls ≠ "java/lang/invoke/VarHandle")
    (hlen : (parseMethodDescriptor y.desc).map (fun d => d.parameters.length) = some n) (hlink : (Cond.methodLink own index y).before args s = true) (hstat : (Cond.static y).before args s = true) (hrc : rm.cells = mc) (hrs : rm.slots = ms) (hR : rm.frames + 1 ≤ R.frames ∧ 8 + (maxL + 11) + rm.locals ≤ R.locals)
    (hblind : FrameBlind Pc) (hPc : ∀ U : State, U.heap = H → s.WarmedH U.vm → Pc As.toArray U) (hn : As.length = n) (hsize : ls.size = nL) (hst0 : st0 = As.reverse ++ rest) (hW : (rest.map fun v => v.category).sum ≤ 8) (hdg : decode cc pc = .ok (.invokestatic index, 3)) (hf : cells + mc ≤ R.cells ∧ slots + ms ≤ R.slots)
    (hno : ∀ a u t, ¬ Qc As.toArray u (.threw a) t)
    (kr : ∀ (v : Option Value) (u t : State) (H1 : Heap) (L9 : List Loc), u.heap = H → t.heap = H1 → Qc As.toArray u (.returned v) t → (∀ q ∈ L9, free q.base) → W p l e R s m args below meth c H1 (locs ++ L9) (cells + mc) (slots + ms) Q (F0 m (pc + 3) ls (v.toList ++ rest))) :
    W p l e R s m args below meth c H locs cells slots Q (F0 m pc ls st0) := by
  obtain ⟨hx, hb, hml, hown, -⟩ := S9
  intro T hT X
  obtain ⟨mk, methM, cM, hnamed, hmethM, hcM, -, hmlM, -, -, -, hsigM⟩ := Cond.codeWith_spec hcode
  have hstatic : methM.isStatic = true := Cond.static_spec hnamed hmethM hstat
  obtain ⟨kP, hkP, -⟩ := className_of_methodNamed hnamed
  have hinitP : kP.init = .initialized := Cond.initialized_spec (findClass_of_methodNamed hnamed) hkP hini
  have hsig : As.length = methM.sig.parameters.length := by
    rw [hsigM] at hlen
    exact hn.trans (Option.some.inj hlen).symm
  obtain ⟨vm₁, X₁, hstep⟩ := X.invokestatic hx hown hlink hnamed hmethM hstatic hkP hinitP hy (g := F0 m pc ls st0) rfl (argsL := As) (rest := rest) hsig hst0 (by rw [hb]; exact hdg)
  have hW1 := X₁.warmed
  obtain ⟨o, t, L9, hst, hend, hq, hfe, hL⟩ := xRuns X₁ (g := F0 m pc ls rest) rfl (hsize.trans hml.symm) (by rw [hb]; exact hdg) hM (mk := mk) (a := As.toArray) (X₁.named hnamed) (methY := methM) (cY := cM)
    (by rw [hW1.alike.method?]; exact hmethM) hcM (fun w hw => hws w hw _ _ hW1) (word_at hW1 (Or.inl rfl) hini) hR.1 (by show 2 * 0 + (rest.map fun v => v.category).sum + (cM.maxLocals + 11) + rm.locals ≤ R.locals; rw [hmlM]; omega) (by rw [hrc]; exact hf.1) (by rw [hrs]; exact hf.2)
    (hblind _ _ _ _ (hPc _ hT hW1))
  have hback : ∀ tg, Steps p.tables e below t tg → Steps p.tables e below (T.setTop (F0 m pc ls st0)) tg := fun tg h => hstep _ fun acts => by rw [doInvoke_state]; exact hst.trans h
  cases o with
  | returned v =>
    obtain ⟨T', X', hw', hs', ht⟩ := X₁.outOf (g := F0 m pc ls rest) rfl (by rw [hb]; exact hdg) hend hfe.1 hfe.2
    have hh : T'.heap = t.heap := by rw [ht]; rfl
    obtain ⟨tg, a1, a2⟩ := kr v _ t _ L9 (show ((T.setVm vm₁).calling (F0 m pc ls rest) mk _).heap = H from hT) rfl hq hL T' hh X'
    exact ⟨tg, hback tg (by rw [ht]; exact a1), a2⟩
  | threw a => exact absurd hq (hno _ _ _)
/-- what the tables say of a helper -/
def xYW (own : String) (index : Nat) (y : MethodName) (b : ByteArray) (n : Nat) (rt : Option FieldType) (hh : List xRow) (np : Nat) : Prop := Cond.codeWith y b n rt hh ∈ BIG ∧ Cond.initialized y.cls ∈ BIG ∧ (y.cls ≠ "java/lang/invoke/MethodHandle" ∧ y.cls ≠ "java/lang/invoke/VarHandle") ∧ (parseMethodDescriptor y.desc).map (fun d => d.parameters.length) = some np ∧ Cond.methodLink own index y ∈ BIG ∧ Cond.static y ∈ BIG
/-- a helper is called, over the first piece of the world -/
theorem xj_hcall (C : xC p s m args meth c A D nL tys cc own) (Z : xS s0 s) (hA0 : ∀ q, A q → s0.heap.size ≤ q) {y : MethodName} {b : ByteArray} {n np index : Nat} {rt : Option FieldType} {hh : List xRow} {rm : Room} {out : Int32 × S} {As : List Value} (hM : xMh s0 l y b n rt hh rm D tysC wf L As st out) (hsub : ∃ is : List Nat, is.filterMap (fun i => tys[i]?) = tysC) (hY : xYW own index y b n rt hh np)
    (hR : rm.frames + 1 ≤ R.frames ∧ 8 + (n + 11) + rm.locals ≤ R.locals) (hrm : rm.cells = 1 ∧ rm.slots = 6) (hnp : As.length = np) (hs : st0 = As.reverse ++ rest) (hw : (rest.map fun v => v.category).sum ≤ 8) (hdg : decode cc pc = .ok (.invokestatic index, 3)) (hRc : cells + 1 ≤ R.cells) (hRs : slots + 6 ≤ R.slots) (hA : ∀ q, q ∈ L → A q) (hdis : ∀ a ∈ wr.map (·.1), a ∉ L)
    (k : xJ p l e R s m args below meth c (cells + 1) (slots + 6) Q A D nL (wf out.2 ++ wr) lv (pc + 3) (.int out.1 :: rest)) : xJ p l e R s m args below meth c cells slots Q A D nL (wf st ++ wr) lv pc st0 := by
  intro H locs ls hP hS hl
  have hAA := xFree C hS hA
  have hkeep : ∀ q : Nat, q < s0.heap.size → H[q]? = s.heap[q]? := fun q hq => hS.2.1 q (Nat.lt_of_lt_of_le hq (xS_le Z)) (fun h9 => absurd (hA0 q h9) (by omega))
  have hblind : FrameBlind (xPx s0 D tysC wf As st H.size) := fun v U g mk q => by
    obtain ⟨q0, q1, qP, qK, qZ⟩ := q
    exact ⟨q0, q1, qP, xK.blind (s := U) (U := U.calling g mk v) rfl qK, qZ.1, qZ.2.1, qZ.2.2⟩
  refine xCallSW (rest := rest) C.1 (hM H.size) (C.ts _ hY.1) (fun w hw9 a' U hW => ?_) (C.ts _ hY.2.1) hY.2.2.1 hY.2.2.2.1 (C.ts _ hY.2.2.2.2.1) (C.ts _ hY.2.2.2.2.2) hrm.1 hrm.2 hR hblind
    (fun U hU hW => ⟨rfl, by rw [hU], by rw [hU]; exact va_P_left hP, xKsub C hsub hW, Z.to hW (fun q hq => by rw [hU]; exact hkeep q hq)⟩) hnp hl.1 hs hw hdg ⟨hRc, hRs⟩ (fun a u t h9 => ?_) (fun v u t H1 L9 hu ht hq hL9 => ?_)
  · rcases List.mem_cons.mp hw9 with rfl | hw9
    · exact word_at hW (BIG_good _ hY.1).2 (C.ts _ hY.1)
    · exact word_at hW (BIG_good w hw9).2 (C.ts w hw9)
  · obtain ⟨⟨r, u9, e1, -⟩, -⟩ := h9
    cases e1
  · obtain ⟨⟨r, u9, e1, e2, hq2⟩, hq3⟩ := hq
    cases e1
    cases e2
    rw [ht] at hq2
    have hz : H.size ≤ H1.size := by rw [← hu, ← ht]; exact hq3.1
    have hk : ∀ q : Nat, q < H.size → ¬ xA L H.size q → H1[q]? = H[q]? := fun q h1 h2 => by rw [← hu, ← ht]; exact hq3.2 q (by rw [hu]; exact h1) h2
    obtain ⟨hPr, hS1⟩ := xAfter hS hAA hz hk hL9 (va_P_right hP) hdis
    exact k H1 _ ls (hq2.app hPr) hS1 hl
/-- a virtual call over the first piece of the world -/
theorem xj_fVi (C : xC p s m args meth c A D nL tys cc own) {y : MethodName} {b : ByteArray} {n np index : Nat} {rt : Option FieldType} {rm : Room} {out : Int32 × S} {a : Nat} {As : List Value} (hM : xMi l y b n rt rm D tysC wf L (.ref a :: As) st out) (hsub : ∃ is : List Nat, is.filterMap (fun i => tys[i]?) = tysC) (hY : xY y b n rt np) (hI : xIV own index y) (q0 : Nat) {ci : Nat} {fs : List Value} (he : (wf st)[q0]? = some (a, .inr (ci, fs))) (hcl : (classes[ci]?).map (·.1) = some y.cls)
    (hR : rm.frames + 1 ≤ R.frames ∧ 8 + (n + 11) + rm.locals ≤ R.locals) (hrm : rm.cells = 0 ∧ rm.slots = 0) (hnp : As.length = np) (hs : st0 = As.reverse ++ .ref a :: rest) (hw : (rest.map fun v => v.category).sum ≤ 8) (hdg : decode cc pc = .ok (.invokevirtual index, 3)) (hRc : cells ≤ R.cells) (hRs : slots ≤ R.slots) (hA : ∀ q, q ∈ L → A q) (hdis : ∀ a ∈ wr.map (·.1), a ∉ L)
    (k : xJ p l e R s m args below meth c cells slots Q A D nL (wf out.2 ++ wr) lv (pc + 3) (.int out.1 :: rest)) : xJ p l e R s m args below meth c cells slots Q A D nL (wf st ++ wr) lv pc st0 := by
  intro H locs ls hP hS hl
  have hAA := xFree C hS hA
  refine va_calli (va_runV (As := As) (rest := rest) C.1 (hM H.size) ⟨xB C hY hI.1 hrm.1 hrm.2 hR, C.ts _ hI.2.1, C.ts _ hI.2.2⟩ ⟨xBlind, xRecv C (va_P_left hP) he hcl, fun U hU hW => ⟨rfl, by rw [hU], by rw [hU]; exact va_P_left hP, xKsub C hsub hW⟩⟩ rfl hnp hl.1 hs (lv_room hw) hdg ⟨hRc, hRs⟩) hS (fun q _ h => hAA q h) hAA (fun r u t H1 locs1 ht hvm hw2 hB hz1 hk1 hS1 => ?_)
  subst hw2
  rw [ht] at hB
  have hPr := (xAfter (L9 := []) hS hAA hz1 hk1 (fun q h => absurd h List.not_mem_nil) (va_P_right hP) hdis).1
  exact k H1 locs1 ls (hB.app hPr) hS1 hl
theorem xj_sld (C : xC p s m args meth c A D nL tys cc own) {b N : Nat} {xs : Nat → Int32} (hX : va_X b N xs s s.heap) (hbl : b < s.heap.size) (hbA : ¬ A b) {i : Int32} (hin : vp_in i N) (hdg : decode cc pc = .ok (.iaload, 1)) (k : xJ p l e R s m args below meth c cells slots Q A D nL ws lv (pc + 1) (.int (xs i.toNatClampNeg) :: rest)) : xJ p l e R s m args below meth c cells slots Q A D nL ws lv pc (.int i :: .ref b :: rest) := fun H locs ls hP hS hl => va_sld C.ex C.by hX hbl hbA hS hin hdg (k H locs ls hP hS hl)
theorem xj_slen (C : xC p s m args meth c A D nL tys cc own) {b N : Nat} {xs : Nat → Int32} (hX : va_X b N xs s s.heap) (hbl : b < s.heap.size) (hbA : ¬ A b) (hdg : decode cc pc = .ok (.arraylength, 1)) (k : xJ p l e R s m args below meth c cells slots Q A D nL ws lv (pc + 1) (.int (Int32.ofNat N) :: rest)) : xJ p l e R s m args below meth c cells slots Q A D nL ws lv pc (.ref b :: rest) := fun H locs ls hP hS hl => va_slen C.ex C.by hX hbl hbA hS hdg (k H locs ls hP hS hl)
end XQ
/-- the law's end -/
theorem xj_lw1 {p : Program} {l : Launch} {e : Env} {s : State} {m : MethodId} {below : List Frame} {meth : Method} {c : Code} {b : Nat} {D : va_G} {tys : List (ClassId × FieldType)} {kc ks : Nat} {ws : va_W} {lv : List (Nat × Value)} {pc : Nat} (C : xC p s m #[Value.ref b] meth c (fun q => s.heap.size ≤ q) D 7 tys code R_Lw) (hr : meth.sig.returnType = ret) (hk : kc ≤ 669114 ∧ ks ≤ 7088763) (hdg : decode code pc = .ok (.ireturn, 1)) : xJ p l e room_1 s m #[Value.ref b] below meth c kc ks (lw_Z below #[Value.ref b] s) (fun q => s.heap.size ≤ q) D 7 ws lv pc [.int 1] := fun H locs ls hP hS hl =>
  va_forget (fun q hq => hS.2.2 q hq) (W.widen (k := 669114) (n := 7088763) hk.1 hk.2 (lw_ret C.ex C.by hr C.lk hdg))
