/-! THE LAW'S EIGHT HELPERS: each calls one method of the class and turns what it throws into a number. -/
abbrev SH : Type := St × (Nat → Int64)
/-- the class's world and the law's array of one long -/
def WH (ad : Nat → Nat) (ao : Nat) (cI cJ : ClassId) (u : SH) : va_W := WC ad cI u.1 ++ [(ao, .inl (cJ, 1, .inr (.inl u.2)))]
def LH (ad : Nat → Nat) (ao : Nat) : List Nat := LC ad ++ [ao]
def tyL (cI cZ cJ : ClassId) : List (ClassId × FieldType) := [(cI, .int), (cZ, .boolean), (cJ, .long)]
def xMh {S : Type} (s0 : State) (l : Launch) (y : MethodName) (b : ByteArray) (n : Nat) (rt : Option FieldType) (hh : List xRow) (rm : Room) (D : va_G) (tys : List (ClassId × FieldType)) (wf : S → va_W) (L : List Nat) (av : List Value) (st : S) (out : Int32 × S) : Prop :=
  ∀ sz : Nat, xMet l y (.codeWith y b n rt hh :: BIG) rm (xPx s0 D tys wf av st sz) (xQi D wf L out sz) 1 6 (xA L sz)
theorem xMh_of {l : Launch} {y : MethodName} {b : ByteArray} {n : Nat} {rt : Option FieldType} {hh : List xRow} {rm : Room} {D : va_G} {tys : List (ClassId × FieldType)} {S : Type} {wf : S → va_W} {L : List Nat} {av : List Value} {st : S} {s0 : State} {Qc : Array Value → State → Outcome → State → Prop} {mc ms sz : Nat} {free : Addr → Prop} (hy : plainName y.cls = true) (hn : (lg_sl av).length ≤ n)
    (body : ∀ (p : Program) (e : Env) (s : State) (m : MethodId) (below : List Frame) (meth : Method) (c : Code), s.heap.size = sz → meth.sig.returnType = rt → c.exceptionTable.toList.map (fun h => (h.startPc, h.endPc, h.handlerPc, h.catchType)) = hh → xS s0 s → xC p s m av.toArray meth c (xA L sz) D n tys b y.cls → xJ p l e rm s m av.toArray below meth c 0 0 (MQ below Qc av.toArray s mc ms free) (xA L sz) D n (wf st) (lv_args 0 av) 0 []) :
    xMet l y (.codeWith y b n rt hh :: BIG) rm (xPx s0 D tys wf av st sz) Qc mc ms free := by
  refine MetFree.of_bodyS (code := b) (maxLocals := n) (ret := rt) hy ?_ ?_
  · intro args s m h hn9
    obtain ⟨m9, meth, c, h0, h1, h2, h3, h4, -, h5, h6, -⟩ := Cond.codeWith_spec (atoms_spec (ws := .codeWith y b n rt hh :: BIG) h _ List.mem_cons_self)
    cases hn9.symm.trans h0
    exact ⟨meth, c, h1, h2, h3, h4, h5, h6⟩
  · intro p e s m args below meth c s₁ B hml hv _
    obtain ⟨rfl, hsz, hP, ⟨hK, hNw⟩, hZ⟩ := hv
    have hts : ∀ w ∈ Cond.codeWith y b n rt hh :: BIG, w.before av.toArray s = true := atoms_spec (ws := .codeWith y b n rt hh :: BIG) B.pre
    have hex : c.exceptionTable.toList.map (fun h => (h.startPc, h.endPc, h.handlerPc, h.catchType)) = hh := by
      obtain ⟨m9, meth9, c9, h0, h1, h2, -, -, h5, -⟩ := Cond.codeWith_spec (hts _ List.mem_cons_self)
      cases Option.some.inj (h0.symm.trans B.named)
      cases Option.some.inj (h1.symm.trans B.method)
      cases Option.some.inj (h2.symm.trans (Stand.of_body B).code)
      exact h5
    have hh0 : s₁.heap = s.heap := by rw [B.state]; rfl
    have hl := lv_entry av (n := n) hn
    have K := body p e s m below meth c hsz B.returns hex hZ ⟨⟨B.exec, B.bytes, hml, findClass_of_methodNamed B.named, fun w h => hts w (List.mem_cons_of_mem _ h)⟩, hK, fun q h => Or.inr (by rw [← hsz]; exact h), B.notSynchronized, hNw⟩ s.heap [] _ hP va_S.rf hl
    rw [← lg_entry_eq] at K
    obtain ⟨t, a1, b1⟩ := K s₁ hh0 (Stand.of_body B)
    obtain ⟨o, b1, b2, b3, L9, b4, b5⟩ := xMQ_of b1
    exact ⟨t, o, a1, b1, b2, b3, L9, b4, b5⟩
theorem WH_D {ad : Nat → Nat} {ao : Nat} {cI cJ : ClassId} (N : (LH ad ao).Nodup) (sz : Nat) (u : SH) : va_D (xA (LH ad ao) sz) (WH ad ao cI cJ u) := xD_L (L := LH ad ao) (wf := WH ad ao cI cJ) (fun _ => rfl) N sz u
theorem LH_C {ad : Nat → Nat} {ao : Nat} (N : (LH ad ao).Nodup) : (LC ad).Nodup ∧ ao ∉ LC ad := by
  have h := List.nodup_append.mp N
  exact ⟨h.1, fun h9 => h.2.2 ao h9 ao (List.mem_singleton.mpr rfl) rfl⟩
abbrev j_h (p : Program) (l : Launch) (e : Env) (R : Room) (s : State) (m : MethodId) (args : Array Value) (below : List Frame) (meth : Method) (c : Code) (kc ks sz : Nat) (D : va_G) (ad : Nat → Nat) (ao : Nat) (cI cJ : ClassId) (out : Int32 × SH) (nL : Nat) (ws : va_W) (lv : List (Nat × Value)) (pc : Nat) (st : List Value) : Prop := xJ p l e R s m args below meth c kc ks (MQ below (xQi D (WH ad ao cI cJ) (LH ad ao) out sz) args s 1 6 (xA (LH ad ao) sz)) (xA (LH ad ao) sz) D nL ws lv pc st
theorem xS_le {s0 s : State} (Z : xS s0 s) : s0.heap.size ≤ s.heap.size := by
  rcases Nat.lt_or_ge s.heap.size s0.heap.size with h | h
  · exfalso
    have h1 := Z.2.1 s.heap.size h
    rw [Array.getElem?_eq_none (Nat.le_refl _), Array.getElem?_eq_getElem h] at h1
    cases h1
  · exact h
theorem d_Lw_chamber_0 : decode b_Lw_chamber 0 = .ok (.aload 4, 2) := by decide +kernel
theorem d_Lw_chamber_2 : decode b_Lw_chamber 2 = .ok (.iconst 0, 1) := by decide +kernel
theorem d_Lw_chamber_3 : decode b_Lw_chamber 3 = .ok (.aload_n 0, 1) := by decide +kernel
theorem d_Lw_chamber_4 : decode b_Lw_chamber 4 = .ok (.iload_n 1, 1) := by decide +kernel
theorem d_Lw_chamber_5 : decode b_Lw_chamber 5 = .ok (.iload_n 2, 1) := by decide +kernel
theorem d_Lw_chamber_6 : decode b_Lw_chamber 6 = .ok (.iload_n 3, 1) := by decide +kernel
theorem d_Lw_chamber_7 : decode b_Lw_chamber 7 = .ok (.invokevirtual 7, 3) := by decide +kernel
theorem d_Lw_chamber_10 : decode b_Lw_chamber 10 = .ok (.i2l, 1) := by decide +kernel
theorem d_Lw_chamber_11 : decode b_Lw_chamber 11 = .ok (.lastore, 1) := by decide +kernel
theorem d_Lw_chamber_12 : decode b_Lw_chamber 12 = .ok (.goto 11, 3) := by decide +kernel
theorem d_Lw_chamber_15 : decode b_Lw_chamber 15 = .ok (.astore 5, 2) := by decide +kernel
theorem d_Lw_chamber_17 : decode b_Lw_chamber 17 = .ok (.iconst 1, 1) := by decide +kernel
theorem d_Lw_chamber_18 : decode b_Lw_chamber 18 = .ok (.ireturn, 1) := by decide +kernel
theorem d_Lw_chamber_19 : decode b_Lw_chamber 19 = .ok (.astore 5, 2) := by decide +kernel
theorem d_Lw_chamber_21 : decode b_Lw_chamber 21 = .ok (.iconst 2, 1) := by decide +kernel
theorem d_Lw_chamber_22 : decode b_Lw_chamber 22 = .ok (.ireturn, 1) := by decide +kernel
theorem d_Lw_chamber_23 : decode b_Lw_chamber 23 = .ok (.iconst 0, 1) := by decide +kernel
theorem d_Lw_chamber_24 : decode b_Lw_chamber 24 = .ok (.ireturn, 1) := by decide +kernel
theorem d_Lw_ship_0 : decode b_Lw_ship 0 = .ok (.aload 6, 2) := by decide +kernel
theorem d_Lw_ship_2 : decode b_Lw_ship 2 = .ok (.iconst 0, 1) := by decide +kernel
theorem d_Lw_ship_3 : decode b_Lw_ship 3 = .ok (.aload_n 0, 1) := by decide +kernel
theorem d_Lw_ship_4 : decode b_Lw_ship 4 = .ok (.iload_n 1, 1) := by decide +kernel
theorem d_Lw_ship_5 : decode b_Lw_ship 5 = .ok (.iload_n 2, 1) := by decide +kernel
theorem d_Lw_ship_6 : decode b_Lw_ship 6 = .ok (.iload_n 3, 1) := by decide +kernel
theorem d_Lw_ship_7 : decode b_Lw_ship 7 = .ok (.iload 4, 2) := by decide +kernel
theorem d_Lw_ship_9 : decode b_Lw_ship 9 = .ok (.iload 5, 2) := by decide +kernel
theorem d_Lw_ship_11 : decode b_Lw_ship 11 = .ok (.invokevirtual 17, 3) := by decide +kernel
theorem d_Lw_ship_14 : decode b_Lw_ship 14 = .ok (.i2l, 1) := by decide +kernel
theorem d_Lw_ship_15 : decode b_Lw_ship 15 = .ok (.lastore, 1) := by decide +kernel
theorem d_Lw_ship_16 : decode b_Lw_ship 16 = .ok (.goto 11, 3) := by decide +kernel
theorem d_Lw_ship_19 : decode b_Lw_ship 19 = .ok (.astore 7, 2) := by decide +kernel
theorem d_Lw_ship_21 : decode b_Lw_ship 21 = .ok (.iconst 1, 1) := by decide +kernel
theorem d_Lw_ship_22 : decode b_Lw_ship 22 = .ok (.ireturn, 1) := by decide +kernel
theorem d_Lw_ship_23 : decode b_Lw_ship 23 = .ok (.astore 7, 2) := by decide +kernel
theorem d_Lw_ship_25 : decode b_Lw_ship 25 = .ok (.iconst 2, 1) := by decide +kernel
theorem d_Lw_ship_26 : decode b_Lw_ship 26 = .ok (.ireturn, 1) := by decide +kernel
theorem d_Lw_ship_27 : decode b_Lw_ship 27 = .ok (.iconst 0, 1) := by decide +kernel
theorem d_Lw_ship_28 : decode b_Lw_ship 28 = .ok (.ireturn, 1) := by decide +kernel
theorem d_Lw_fits_0 : decode b_Lw_fits 0 = .ok (.aload_n 3, 1) := by decide +kernel
theorem d_Lw_fits_1 : decode b_Lw_fits 1 = .ok (.iconst 0, 1) := by decide +kernel
theorem d_Lw_fits_2 : decode b_Lw_fits 2 = .ok (.aload_n 0, 1) := by decide +kernel
theorem d_Lw_fits_3 : decode b_Lw_fits 3 = .ok (.iload_n 1, 1) := by decide +kernel
theorem d_Lw_fits_4 : decode b_Lw_fits 4 = .ok (.iload_n 2, 1) := by decide +kernel
theorem d_Lw_fits_5 : decode b_Lw_fits 5 = .ok (.invokevirtual 21, 3) := by decide +kernel
theorem d_Lw_fits_8 : decode b_Lw_fits 8 = .ok (.ifCond .eq 7, 3) := by decide +kernel
theorem d_Lw_fits_11 : decode b_Lw_fits 11 = .ok (.lconst 1, 1) := by decide +kernel
theorem d_Lw_fits_12 : decode b_Lw_fits 12 = .ok (.goto 4, 3) := by decide +kernel
theorem d_Lw_fits_15 : decode b_Lw_fits 15 = .ok (.lconst 0, 1) := by decide +kernel
theorem d_Lw_fits_16 : decode b_Lw_fits 16 = .ok (.lastore, 1) := by decide +kernel
theorem d_Lw_fits_17 : decode b_Lw_fits 17 = .ok (.goto 7, 3) := by decide +kernel
theorem d_Lw_fits_20 : decode b_Lw_fits 20 = .ok (.astore 4, 2) := by decide +kernel
theorem d_Lw_fits_22 : decode b_Lw_fits 22 = .ok (.iconst 1, 1) := by decide +kernel
theorem d_Lw_fits_23 : decode b_Lw_fits 23 = .ok (.ireturn, 1) := by decide +kernel
theorem d_Lw_fits_24 : decode b_Lw_fits 24 = .ok (.iconst 0, 1) := by decide +kernel
theorem d_Lw_fits_25 : decode b_Lw_fits 25 = .ok (.ireturn, 1) := by decide +kernel
theorem d_Lw_of_0 : decode b_Lw_of 0 = .ok (.aload_n 3, 1) := by decide +kernel
theorem d_Lw_of_1 : decode b_Lw_of 1 = .ok (.iconst 0, 1) := by decide +kernel
theorem d_Lw_of_2 : decode b_Lw_of 2 = .ok (.aload_n 0, 1) := by decide +kernel
theorem d_Lw_of_3 : decode b_Lw_of 3 = .ok (.iload_n 1, 1) := by decide +kernel
theorem d_Lw_of_4 : decode b_Lw_of 4 = .ok (.iload_n 2, 1) := by decide +kernel
theorem d_Lw_of_5 : decode b_Lw_of 5 = .ok (.invokevirtual 25, 3) := by decide +kernel
theorem d_Lw_of_8 : decode b_Lw_of 8 = .ok (.i2l, 1) := by decide +kernel
theorem d_Lw_of_9 : decode b_Lw_of 9 = .ok (.lastore, 1) := by decide +kernel
theorem d_Lw_of_10 : decode b_Lw_of 10 = .ok (.goto 11, 3) := by decide +kernel
theorem d_Lw_of_13 : decode b_Lw_of 13 = .ok (.astore 4, 2) := by decide +kernel
theorem d_Lw_of_15 : decode b_Lw_of 15 = .ok (.iconst 1, 1) := by decide +kernel
theorem d_Lw_of_16 : decode b_Lw_of 16 = .ok (.ireturn, 1) := by decide +kernel
theorem d_Lw_of_17 : decode b_Lw_of 17 = .ok (.astore 4, 2) := by decide +kernel
theorem d_Lw_of_19 : decode b_Lw_of 19 = .ok (.iconst 2, 1) := by decide +kernel
theorem d_Lw_of_20 : decode b_Lw_of 20 = .ok (.ireturn, 1) := by decide +kernel
theorem d_Lw_of_21 : decode b_Lw_of 21 = .ok (.iconst 0, 1) := by decide +kernel
theorem d_Lw_of_22 : decode b_Lw_of 22 = .ok (.ireturn, 1) := by decide +kernel
theorem d_Lw_run_0 : decode b_Lw_run 0 = .ok (.aload 4, 2) := by decide +kernel
theorem d_Lw_run_2 : decode b_Lw_run 2 = .ok (.iconst 0, 1) := by decide +kernel
theorem d_Lw_run_3 : decode b_Lw_run 3 = .ok (.aload_n 0, 1) := by decide +kernel
theorem d_Lw_run_4 : decode b_Lw_run 4 = .ok (.iload_n 1, 1) := by decide +kernel
theorem d_Lw_run_5 : decode b_Lw_run 5 = .ok (.iload_n 2, 1) := by decide +kernel
theorem d_Lw_run_6 : decode b_Lw_run 6 = .ok (.iload_n 3, 1) := by decide +kernel
theorem d_Lw_run_7 : decode b_Lw_run 7 = .ok (.invokevirtual 31, 3) := by decide +kernel
theorem d_Lw_run_10 : decode b_Lw_run 10 = .ok (.i2l, 1) := by decide +kernel
theorem d_Lw_run_11 : decode b_Lw_run 11 = .ok (.lastore, 1) := by decide +kernel
theorem d_Lw_run_12 : decode b_Lw_run 12 = .ok (.goto 11, 3) := by decide +kernel
theorem d_Lw_run_15 : decode b_Lw_run 15 = .ok (.astore 5, 2) := by decide +kernel
theorem d_Lw_run_17 : decode b_Lw_run 17 = .ok (.iconst 1, 1) := by decide +kernel
theorem d_Lw_run_18 : decode b_Lw_run 18 = .ok (.ireturn, 1) := by decide +kernel
theorem d_Lw_run_19 : decode b_Lw_run 19 = .ok (.astore 5, 2) := by decide +kernel
theorem d_Lw_run_21 : decode b_Lw_run 21 = .ok (.iconst 2, 1) := by decide +kernel
theorem d_Lw_run_22 : decode b_Lw_run 22 = .ok (.ireturn, 1) := by decide +kernel
theorem d_Lw_run_23 : decode b_Lw_run 23 = .ok (.iconst 0, 1) := by decide +kernel
theorem d_Lw_run_24 : decode b_Lw_run 24 = .ok (.ireturn, 1) := by decide +kernel
theorem d_Lw_late_0 : decode b_Lw_late 0 = .ok (.aload_n 3, 1) := by decide +kernel
theorem d_Lw_late_1 : decode b_Lw_late 1 = .ok (.iconst 0, 1) := by decide +kernel
theorem d_Lw_late_2 : decode b_Lw_late 2 = .ok (.aload_n 0, 1) := by decide +kernel
theorem d_Lw_late_3 : decode b_Lw_late 3 = .ok (.iload_n 1, 1) := by decide +kernel
theorem d_Lw_late_4 : decode b_Lw_late 4 = .ok (.iload_n 2, 1) := by decide +kernel
theorem d_Lw_late_5 : decode b_Lw_late 5 = .ok (.invokevirtual 34, 3) := by decide +kernel
theorem d_Lw_late_8 : decode b_Lw_late 8 = .ok (.i2l, 1) := by decide +kernel
theorem d_Lw_late_9 : decode b_Lw_late 9 = .ok (.lastore, 1) := by decide +kernel
theorem d_Lw_late_10 : decode b_Lw_late 10 = .ok (.goto 15, 3) := by decide +kernel
theorem d_Lw_late_13 : decode b_Lw_late 13 = .ok (.astore 4, 2) := by decide +kernel
theorem d_Lw_late_15 : decode b_Lw_late 15 = .ok (.iconst 1, 1) := by decide +kernel
theorem d_Lw_late_16 : decode b_Lw_late 16 = .ok (.ireturn, 1) := by decide +kernel
theorem d_Lw_late_17 : decode b_Lw_late 17 = .ok (.astore 4, 2) := by decide +kernel
theorem d_Lw_late_19 : decode b_Lw_late 19 = .ok (.iconst 2, 1) := by decide +kernel
theorem d_Lw_late_20 : decode b_Lw_late 20 = .ok (.ireturn, 1) := by decide +kernel
theorem d_Lw_late_21 : decode b_Lw_late 21 = .ok (.astore 4, 2) := by decide +kernel
theorem d_Lw_late_23 : decode b_Lw_late 23 = .ok (.iconst 3, 1) := by decide +kernel
theorem d_Lw_late_24 : decode b_Lw_late 24 = .ok (.ireturn, 1) := by decide +kernel
theorem d_Lw_late_25 : decode b_Lw_late 25 = .ok (.iconst 0, 1) := by decide +kernel
theorem d_Lw_late_26 : decode b_Lw_late 26 = .ok (.ireturn, 1) := by decide +kernel
theorem d_Lw_home_0 : decode b_Lw_home 0 = .ok (.aload_n 2, 1) := by decide +kernel
theorem d_Lw_home_1 : decode b_Lw_home 1 = .ok (.iconst 0, 1) := by decide +kernel
theorem d_Lw_home_2 : decode b_Lw_home 2 = .ok (.aload_n 0, 1) := by decide +kernel
theorem d_Lw_home_3 : decode b_Lw_home 3 = .ok (.iload_n 1, 1) := by decide +kernel
theorem d_Lw_home_4 : decode b_Lw_home 4 = .ok (.invokevirtual 37, 3) := by decide +kernel
theorem d_Lw_home_7 : decode b_Lw_home 7 = .ok (.i2l, 1) := by decide +kernel
theorem d_Lw_home_8 : decode b_Lw_home 8 = .ok (.lastore, 1) := by decide +kernel
theorem d_Lw_home_9 : decode b_Lw_home 9 = .ok (.goto 6, 3) := by decide +kernel
theorem d_Lw_home_12 : decode b_Lw_home 12 = .ok (.astore_n 3, 1) := by decide +kernel
theorem d_Lw_home_13 : decode b_Lw_home 13 = .ok (.iconst 1, 1) := by decide +kernel
theorem d_Lw_home_14 : decode b_Lw_home 14 = .ok (.ireturn, 1) := by decide +kernel
theorem d_Lw_home_15 : decode b_Lw_home 15 = .ok (.iconst 0, 1) := by decide +kernel
theorem d_Lw_home_16 : decode b_Lw_home 16 = .ok (.ireturn, 1) := by decide +kernel
theorem d_Lw_rate_0 : decode b_Lw_rate 0 = .ok (.aload_n 3, 1) := by decide +kernel
theorem d_Lw_rate_1 : decode b_Lw_rate 1 = .ok (.iconst 0, 1) := by decide +kernel
theorem d_Lw_rate_2 : decode b_Lw_rate 2 = .ok (.aload_n 0, 1) := by decide +kernel
theorem d_Lw_rate_3 : decode b_Lw_rate 3 = .ok (.iload_n 1, 1) := by decide +kernel
theorem d_Lw_rate_4 : decode b_Lw_rate 4 = .ok (.iload_n 2, 1) := by decide +kernel
theorem d_Lw_rate_5 : decode b_Lw_rate 5 = .ok (.invokevirtual 41, 3) := by decide +kernel
theorem d_Lw_rate_8 : decode b_Lw_rate 8 = .ok (.i2l, 1) := by decide +kernel
theorem d_Lw_rate_9 : decode b_Lw_rate 9 = .ok (.lastore, 1) := by decide +kernel
theorem d_Lw_rate_10 : decode b_Lw_rate 10 = .ok (.goto 11, 3) := by decide +kernel
theorem d_Lw_rate_13 : decode b_Lw_rate 13 = .ok (.astore 4, 2) := by decide +kernel
theorem d_Lw_rate_15 : decode b_Lw_rate 15 = .ok (.iconst 1, 1) := by decide +kernel
theorem d_Lw_rate_16 : decode b_Lw_rate 16 = .ok (.ireturn, 1) := by decide +kernel
theorem d_Lw_rate_17 : decode b_Lw_rate 17 = .ok (.astore 4, 2) := by decide +kernel
theorem d_Lw_rate_19 : decode b_Lw_rate 19 = .ok (.iconst 2, 1) := by decide +kernel
theorem d_Lw_rate_20 : decode b_Lw_rate 20 = .ok (.ireturn, 1) := by decide +kernel
theorem d_Lw_rate_21 : decode b_Lw_rate 21 = .ok (.iconst 0, 1) := by decide +kernel
theorem d_Lw_rate_22 : decode b_Lw_rate 22 = .ok (.ireturn, 1) := by decide +kernel
set_option maxRecDepth 20000 in
theorem Y_LR_ship : xY y_LR_ship b_LR_ship 7 (some .int) 5 := ⟨BIG_at 490 rfl rfl, BIG_at 1 (by decide +kernel) (by decide +kernel), by decide +kernel, by decide +kernel, by decide +kernel⟩
theorem i_Lw_17 : xIV R_Lw 17 y_LR_ship := ⟨BIG_at 487 (by decide +kernel) (by decide +kernel), BIG_at 488 (by decide +kernel) (by decide +kernel), BIG_at 489 (by decide +kernel) (by decide +kernel)⟩
set_option maxRecDepth 20000 in
theorem Y_LR_fits : xY y_LR_fits b_LR_fits 3 (some .boolean) 2 := ⟨BIG_at 503 rfl rfl, BIG_at 1 (by decide +kernel) (by decide +kernel), by decide +kernel, by decide +kernel, by decide +kernel⟩
theorem i_Lw_21 : xIV R_Lw 21 y_LR_fits := ⟨BIG_at 500 (by decide +kernel) (by decide +kernel), BIG_at 501 (by decide +kernel) (by decide +kernel), BIG_at 502 (by decide +kernel) (by decide +kernel)⟩
set_option maxRecDepth 20000 in
theorem Y_LR_of : xY y_LR_of b_LR_of 3 (some .int) 2 := ⟨BIG_at 515 rfl rfl, BIG_at 1 (by decide +kernel) (by decide +kernel), by decide +kernel, by decide +kernel, by decide +kernel⟩
theorem i_Lw_25 : xIV R_Lw 25 y_LR_of := ⟨BIG_at 512 (by decide +kernel) (by decide +kernel), BIG_at 513 (by decide +kernel) (by decide +kernel), BIG_at 514 (by decide +kernel) (by decide +kernel)⟩
set_option maxRecDepth 20000 in
theorem Y_LR_run : xY y_LR_run b_LR_run 4 (some .int) 3 := ⟨BIG_at 568 rfl rfl, BIG_at 1 (by decide +kernel) (by decide +kernel), by decide +kernel, by decide +kernel, by decide +kernel⟩
theorem i_Lw_31 : xIV R_Lw 31 y_LR_run := ⟨BIG_at 565 (by decide +kernel) (by decide +kernel), BIG_at 566 (by decide +kernel) (by decide +kernel), BIG_at 567 (by decide +kernel) (by decide +kernel)⟩
set_option maxRecDepth 20000 in
theorem Y_LR_late : xY y_LR_late b_LR_late 3 (some .int) 2 := ⟨BIG_at 584 rfl rfl, BIG_at 1 (by decide +kernel) (by decide +kernel), by decide +kernel, by decide +kernel, by decide +kernel⟩
theorem i_Lw_34 : xIV R_Lw 34 y_LR_late := ⟨BIG_at 581 (by decide +kernel) (by decide +kernel), BIG_at 582 (by decide +kernel) (by decide +kernel), BIG_at 583 (by decide +kernel) (by decide +kernel)⟩
set_option maxRecDepth 20000 in
theorem Y_LR_home : xY y_LR_home b_LR_home 3 (some .int) 1 := ⟨BIG_at 609 rfl rfl, BIG_at 1 (by decide +kernel) (by decide +kernel), by decide +kernel, by decide +kernel, by decide +kernel⟩
theorem i_Lw_37 : xIV R_Lw 37 y_LR_home := ⟨BIG_at 606 (by decide +kernel) (by decide +kernel), BIG_at 607 (by decide +kernel) (by decide +kernel), BIG_at 608 (by decide +kernel) (by decide +kernel)⟩
set_option maxRecDepth 20000 in
theorem Y_LR_rate : xY y_LR_rate b_LR_rate 3 (some .int) 2 := ⟨BIG_at 617 rfl rfl, BIG_at 1 (by decide +kernel) (by decide +kernel), by decide +kernel, by decide +kernel, by decide +kernel⟩
theorem i_Lw_41 : xIV R_Lw 41 y_LR_rate := ⟨BIG_at 614 (by decide +kernel) (by decide +kernel), BIG_at 615 (by decide +kernel) (by decide +kernel), BIG_at 616 (by decide +kernel) (by decide +kernel)⟩
set_option maxRecDepth 20000 in
theorem Y_LR_chamber : xY y_LR_chamber b_LR_chamber 5 (some .int) 3 := ⟨BIG_at 391 rfl rfl, BIG_at 1 (by decide +kernel) (by decide +kernel), by decide +kernel, by decide +kernel, by decide +kernel⟩
theorem i_Lw_7 : xIV R_Lw 7 y_LR_chamber := ⟨BIG_at 388 (by decide +kernel) (by decide +kernel), BIG_at 389 (by decide +kernel) (by decide +kernel), BIG_at 390 (by decide +kernel) (by decide +kernel)⟩
def f_Lw_chamber (x1 x2 x3 : Int32) (u : SH) : Option (Int32 × SH) :=
  (f_LR_chamber x1 x2 x3 u.1).bind (fun o => (if o.1.1 = 0 then some (0, (o.2, vp_updL u.2 0 o.1.2.toInt64)) else (if o.1.1 = 1 then some (1, (o.2, u.2)) else (if o.1.1 = 2 then some (2, (o.2, u.2)) else none))))
def rm_Lw_chamber : Room := { frames := rm_LR_chamber.frames + 1, cells := 1, slots := 6, locals := 8 + (5 + 11) + rm_LR_chamber.locals }
def f_Lw_ship (x1 x2 x3 x4 x5 : Int32) (u : SH) : Option (Int32 × SH) :=
  (f_LR_ship x1 x2 x3 x4 x5 u.1).bind (fun o => (if o.1.1 = 0 then some (0, (o.2, vp_updL u.2 0 o.1.2.toInt64)) else (if o.1.1 = 1 then some (1, (o.2, u.2)) else (if o.1.1 = 2 then some (2, (o.2, u.2)) else none))))
def rm_Lw_ship : Room := { frames := rm_LR_ship.frames + 1, cells := 1, slots := 6, locals := 8 + (7 + 11) + rm_LR_ship.locals }
def f_Lw_fits (x1 x2 : Int32) (u : SH) : Option (Int32 × SH) :=
  (f_LR_fits x1 x2 u.1).bind (fun o => (if o.1.1 = 0 then (if o.1.2 = 0 then some (0, (o.2, vp_updL u.2 0 0)) else some (0, (o.2, vp_updL u.2 0 1))) else (if o.1.1 = 1 then some (1, (o.2, u.2)) else none)))
def rm_Lw_fits : Room := { frames := rm_LR_fits.frames + 1, cells := 1, slots := 6, locals := 8 + (3 + 11) + rm_LR_fits.locals }
def f_Lw_of (x1 x2 : Int32) (u : SH) : Option (Int32 × SH) :=
  (f_LR_of x1 x2 u.1).bind (fun o => (if o.1.1 = 0 then some (0, (o.2, vp_updL u.2 0 o.1.2.toInt64)) else (if o.1.1 = 3 then some (1, (o.2, u.2)) else (if o.1.1 = 2 then some (2, (o.2, u.2)) else none))))
def rm_Lw_of : Room := { frames := rm_LR_of.frames + 1, cells := 1, slots := 6, locals := 8 + (3 + 11) + rm_LR_of.locals }
def f_Lw_run (x1 x2 x3 : Int32) (u : SH) : Option (Int32 × SH) :=
  (f_LR_run x1 x2 x3 u.1).bind (fun o => (if o.1.1 = 0 then some (0, (o.2, vp_updL u.2 0 o.1.2.toInt64)) else (if o.1.1 = 3 then some (1, (o.2, u.2)) else (if o.1.1 = 2 then some (2, (o.2, u.2)) else none))))
def rm_Lw_run : Room := { frames := rm_LR_run.frames + 1, cells := 1, slots := 6, locals := 8 + (4 + 11) + rm_LR_run.locals }
def f_Lw_late (x1 x2 : Int32) (u : SH) : Option (Int32 × SH) :=
  (f_LR_late x1 x2 u.1).bind (fun o => (if o.1.1 = 0 then some (0, (o.2, vp_updL u.2 0 o.1.2.toInt64)) else (if o.1.1 = 3 then some (1, (o.2, u.2)) else (if o.1.1 = 1 then some (2, (o.2, u.2)) else (if o.1.1 = 2 then some (3, (o.2, u.2)) else none)))))
def rm_Lw_late : Room := { frames := rm_LR_late.frames + 1, cells := 1, slots := 6, locals := 8 + (3 + 11) + rm_LR_late.locals }
def f_Lw_home (x1 : Int32) (u : SH) : Option (Int32 × SH) :=
  (f_LR_home x1 u.1).bind (fun o => (if o.1.1 = 0 then some (0, (o.2, vp_updL u.2 0 o.1.2.toInt64)) else (if o.1.1 = 3 then some (1, (o.2, u.2)) else none)))
def rm_Lw_home : Room := { frames := rm_LR_home.frames + 1, cells := 1, slots := 6, locals := 8 + (3 + 11) + rm_LR_home.locals }
def f_Lw_rate (x1 x2 : Int32) (u : SH) : Option (Int32 × SH) :=
  (f_LR_rate x1 x2 u.1).bind (fun o => (if o.1.1 = 0 then some (0, (o.2, vp_updL u.2 0 o.1.2.toInt64)) else (if o.1.1 = 1 then some (1, (o.2, u.2)) else (if o.1.1 = 4 then some (2, (o.2, u.2)) else none))))
def rm_Lw_rate : Room := { frames := rm_LR_rate.frames + 1, cells := 1, slots := 6, locals := 8 + (3 + 11) + rm_LR_rate.locals }
