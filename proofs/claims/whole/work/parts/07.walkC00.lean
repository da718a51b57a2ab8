theorem xroom_rec_Pl_tryRuns (d : Nat) : (rm_Pl_tryRuns d).frames + 1 ≤ (rm_Pl_tryRuns (d + 1)).frames ∧ 8 + (12 + 11) + (rm_Pl_tryRuns d).locals ≤ (rm_Pl_tryRuns (d + 1)).locals := by
  constructor
  · show 10 + d + 1 ≤ 10 + (d + 1); omega
  · show 8 + (12 + 11) + (290 + d * 31) ≤ 290 + (d + 1) * 31; omega
theorem xroom_rec_Be_layFrom (d : Nat) : (rm_Be_layFrom d).frames + 1 ≤ (rm_Be_layFrom (d + 1)).frames ∧ 8 + (14 + 11) + (rm_Be_layFrom d).locals ≤ (rm_Be_layFrom (d + 1)).locals := by
  constructor
  · show 2 + d + 1 ≤ 2 + (d + 1); omega
  · show 8 + (14 + 11) + (47 + d * 33) ≤ 47 + (d + 1) * 33; omega
set_option maxHeartbeats 4000000 in
set_option maxRecDepth 20000 in
theorem c_Fl_all {l : Launch} {D : va_G} {ad : Nat → Nat} {cI : ClassId} (N : (LC ad).Nodup) {st : St} {out : Int32 × St} (hf : f_Fl_all  st = some out) : xMi l y_Fl_all b_Fl_all 1 (some .int) rm_Fl_all D (tyC cI) (WC ad cI) (LC ad) [.ref (ad 2)] st out := by
  intro sz
  refine xM_of (L := LC ad) (by decide) (Nat.le_of_ble_eq_true rfl) (fun p e s m below meth c hsz hr C => ?_)
  show j_i p l e rm_Fl_all s m _ below meth c sz D (WC ad cI) (LC ad) out 1 (WC ad cI st) [(0, .ref (ad 2))] 0 []
  unfold f_Fl_all at hf
  refine xj_iconst (v := 1) C d_Fl_all_0 rfl ?_
  refine xj_aload_n C d_Fl_all_1 rfl 0 rfl ?_
  refine xj_get C g_Fl_27 2 rfl rfl d_Fl_all_2 ?_
  refine xj_ishl C d_Fl_all_5 ?_
  refine xj_iconst (v := 1) C d_Fl_all_6 rfl ?_
  refine xj_isub C d_Fl_all_7 ?_
  exact xj_iret C hr hf d_Fl_all_8
set_option maxHeartbeats 4000000 in
set_option maxRecDepth 20000 in
theorem c_Ch_has {l : Launch} {D : va_G} {ad : Nat → Nat} {cI : ClassId} (N : (LC ad).Nodup) {x1 : Int32} {st : St} {out : Int32 × St} (hf : f_Ch_has x1 st = some out) : xMi l y_Ch_has b_Ch_has 2 (some .boolean) rm_Ch_has D (tyC cI) (WC ad cI) (LC ad) [.ref (ad 1), .int x1] st out := by
  intro sz
  refine xM_of (L := LC ad) (by decide) (Nat.le_of_ble_eq_true rfl) (fun p e s m below meth c hsz hr C => ?_)
  show j_i p l e rm_Ch_has s m _ below meth c sz D (WC ad cI) (LC ad) out 2 (WC ad cI st) [(0, .ref (ad 1)), (1, .int x1)] 0 []
  unfold f_Ch_has at hf
  refine xj_iload_n C d_Ch_has_0 rfl 1 rfl ?_
  refine xj_if_lt (tgt := 21) C d_Ch_has_1 (by decide) (fun h9 => ?_) (fun h9 => ?_)
  · have hf := xi_pos h9 hf
    refine xj_iconst (v := 0) C d_Ch_has_21 rfl ?_
    exact xj_zret C hr rfl hf d_Ch_has_22
  · have hf := xi_neg h9 hf
    refine xj_iload_n C d_Ch_has_4 rfl 1 rfl ?_
    refine xj_aload_n C d_Ch_has_5 rfl 0 rfl ?_
    refine xj_get C g_Ch_30 1 rfl rfl d_Ch_has_6 ?_
    refine xj_icmp_ge (tgt := 21) C d_Ch_has_9 (by decide) (fun h9 => ?_) (fun h9 => ?_)
    · have hf := xi_pos h9 hf
      refine xj_iconst (v := 0) C d_Ch_has_21 rfl ?_
      exact xj_zret C hr rfl hf d_Ch_has_22
    · have hf := xi_neg h9 hf
      refine xj_iload_n C d_Ch_has_12 rfl 1 rfl ?_
      refine xj_iconst (v := 2) C d_Ch_has_13 rfl ?_
      refine xj_icmp_ge (tgt := 21) C d_Ch_has_14 (by decide) (fun h9 => ?_) (fun h9 => ?_)
      · have hf := xi_pos h9 hf
        refine xj_iconst (v := 0) C d_Ch_has_21 rfl ?_
        exact xj_zret C hr rfl hf d_Ch_has_22
      · have hf := xi_neg h9 hf
        refine xj_iconst (v := 1) C d_Ch_has_17 rfl ?_
        refine xj_goto (tgt := 22) C d_Ch_has_18 (by decide) ?_
        exact xj_zret C hr rfl hf d_Ch_has_22
set_option maxHeartbeats 4000000 in
set_option maxRecDepth 20000 in
theorem c_Ch_fill {l : Launch} {D : va_G} {ad : Nat → Nat} {cI : ClassId} (N : (LC ad).Nodup) {x1 : Int32} {st : St} {out : Int32 × St} (hf : f_Ch_fill x1 st = some out) : xMi l y_Ch_fill b_Ch_fill 2 (some .int) rm_Ch_fill D (tyC cI) (WC ad cI) (LC ad) [.ref (ad 1), .int x1] st out := by
  intro sz
  refine xM_of (L := LC ad) (by decide) (Nat.le_of_ble_eq_true rfl) (fun p e s m below meth c hsz hr C => ?_)
  show j_i p l e rm_Ch_fill s m _ below meth c sz D (WC ad cI) (LC ad) out 2 (WC ad cI st) [(0, .ref (ad 1)), (1, .int x1)] 0 []
  unfold f_Ch_fill at hf
  refine xj_aload_n C d_Ch_fill_0 rfl 0 rfl ?_
  refine xj_iload_n C d_Ch_fill_1 rfl 1 rfl ?_
  obtain ⟨o1, ho1, hf⟩ := xb_some hf
  refine xj_callVi (rest := []) C (c_Ch_has N ho1) Y_Ch_has i_Ch_37 1 rfl rfl (by decide) ⟨rfl, rfl⟩ rfl rfl (Nat.le_of_ble_eq_true rfl) d_Ch_fill_2 (fun q h => Or.inl h) ?_
  refine xj_if_eq (tgt := 17) C d_Ch_fill_5 (by decide) (fun h9 => ?_) (fun h9 => ?_)
  · have hf := xi_pos h9 hf
    refine xj_iconst (v := 0) C d_Ch_fill_17 rfl ?_
    exact xj_iret C hr hf d_Ch_fill_18
  · have hf := xi_neg h9 hf
    refine xj_aload_n C d_Ch_fill_8 rfl 0 rfl ?_
    refine xj_get C g_Ch_18 1 rfl rfl d_Ch_fill_9 ?_
    refine xj_iload_n C d_Ch_fill_12 rfl 1 rfl ?_
    obtain ⟨g2, hf⟩ := xb_guard hf
    refine xj_iald C 10 0 rfl rfl g2 d_Ch_fill_13 ?_
    refine xj_goto (tgt := 18) C d_Ch_fill_14 (by decide) ?_
    exact xj_iret C hr hf d_Ch_fill_18
set_option maxHeartbeats 4000000 in
set_option maxRecDepth 20000 in
theorem w_Pl_tryRuns_186 {p : Program} {l : Launch} {e : Env} {s : State} {m : MethodId} {args : Array Value} {below : List Frame} {meth : Method} {c : Code} {sz : Nat} {D : va_G} {ad : Nat → Nat} {cI : ClassId} {out : St} {dd : Nat} (N : (LC ad).Nodup) (C : xC p s m args meth c (xA (LC ad) sz) D 12 (tyC cI) b_Pl_tryRuns R_Pl) (hr : meth.sig.returnType = none) {REC : Int32 → Int32 → Int32 → Int32 → Int32 → Int32 → St → Option (St)} (hREC : ∀ (x1 x2 x3 x4 x5 x6 : Int32) (st : St) (o : St), REC x1 x2 x3 x4 x5 x6 st = some o → xMv l y_Pl_tryRuns b_Pl_tryRuns 12 none (rm_Pl_tryRuns dd) D (tyC cI) (WC ad cI) (LC ad) [.ref (ad 4), .int x1, .int x2, .int x3, .int x4, .int x5, .int x6] st o) {K56 : Int32 → Int32 → Int32 → Int32 → Int32 → Int32 → Int32 → Int32 → St → Option (St)} (hK56 : ∀ (x1 x2 x3 x4 x5 x6 x7 x8 : Int32) (st : St), K56 x1 x2 x3 x4 x5 x6 x7 x8 st = some out → j_v p l e (rm_Pl_tryRuns (dd + 1)) s m args below meth c sz D (WC ad cI) (LC ad) out 12 (WC ad cI st) [(0, .ref (ad 4)), (1, .int x1), (2, .int x2), (3, .int x3), (4, .int x4), (5, .int x5), (6, .int x6), (7, .int x7), (8, .int x8)] 56 []) (x1 x2 x3 x4 x5 x6 x7 x8 : Int32) (st : St) (hf : f_Pl_tryRuns_186 REC K56 x1 x2 x3 x4 x5 x6 x7 x8 st = some out) : j_v p l e (rm_Pl_tryRuns (dd + 1)) s m args below meth c sz D (WC ad cI) (LC ad) out 12 (WC ad cI st) [(0, .ref (ad 4)), (1, .int x1), (2, .int x2), (3, .int x3), (4, .int x4), (5, .int x5), (6, .int x6), (7, .int x7), (8, .int x8)] 186 [] := by
  unfold f_Pl_tryRuns_186 at hf
  refine xj_iinc (v := x8 + 1) (j := 8) C d_Pl_tryRuns_186 rfl rfl (by decide) rfl ?_
  refine xj_goto (tgt := 56) C d_Pl_tryRuns_189 (by decide) ?_
  exact xj_lv [1, 2, 3, 4, 5, 6, 7, 8, 0] rfl (hK56 x1 x2 x3 x4 x5 x6 x7 (x8 + 1) st hf)
set_option maxHeartbeats 4000000 in
set_option maxRecDepth 20000 in
theorem c_LR_holds {l : Launch} {D : va_G} {ad : Nat → Nat} {cI : ClassId} (N : (LC ad).Nodup) {x0 x1 : Int32} {st : St} {out : Int32 × St} (hf : f_LR_holds x0 x1 st = some out) : xMi l y_LR_holds b_LR_holds 2 (some .boolean) rm_LR_holds D (tyC cI) (WC ad cI) (LC ad) [.int x0, .int x1] st out := by
  intro sz
  refine xM_of (L := LC ad) (by decide) (Nat.le_of_ble_eq_true rfl) (fun p e s m below meth c hsz hr C => ?_)
  show j_i p l e rm_LR_holds s m _ below meth c sz D (WC ad cI) (LC ad) out 2 (WC ad cI st) [(0, .int x0), (1, .int x1)] 0 []
  unfold f_LR_holds at hf
  refine xj_iload_n C d_LR_holds_0 rfl 0 rfl ?_
  refine xj_iconst (v := 1) C d_LR_holds_1 rfl ?_
  refine xj_iload_n C d_LR_holds_2 rfl 1 rfl ?_
  refine xj_ishl C d_LR_holds_3 ?_
  refine xj_iand C d_LR_holds_4 ?_
  refine xj_if_eq (tgt := 12) C d_LR_holds_5 (by decide) (fun h9 => ?_) (fun h9 => ?_)
  · have hf := xi_pos h9 hf
    refine xj_iconst (v := 0) C d_LR_holds_12 rfl ?_
    exact xj_zret C hr rfl hf d_LR_holds_13
  · have hf := xi_neg h9 hf
    refine xj_iconst (v := 1) C d_LR_holds_8 rfl ?_
    refine xj_goto (tgt := 13) C d_LR_holds_9 (by decide) ?_
    exact xj_zret C hr rfl hf d_LR_holds_13
set_option maxHeartbeats 4000000 in
set_option maxRecDepth 20000 in
theorem w_Fl_commonDirection_41 {p : Program} {l : Launch} {e : Env} {s : State} {m : MethodId} {args : Array Value} {below : List Frame} {meth : Method} {c : Code} {sz : Nat} {D : va_G} {ad : Nat → Nat} {cI : ClassId} {out : Int32 × St} (N : (LC ad).Nodup) (C : xC p s m args meth c (xA (LC ad) sz) D 4 (tyC cI) b_Fl_commonDirection R_Fl) (hr : meth.sig.returnType = (some .int)) {K4 : Int32 → Int32 → Int32 → St → Option (Int32 × St)} (hK4 : ∀ (x1 x2 x3 : Int32) (st : St), K4 x1 x2 x3 st = some out → j_i p l e rm_Fl_commonDirection s m args below meth c sz D (WC ad cI) (LC ad) out 4 (WC ad cI st) [(0, .ref (ad 2)), (1, .int x1), (2, .int x2), (3, .int x3)] 4 []) (x1 x2 x3 : Int32) (st : St) (hf : f_Fl_commonDirection_41 K4 x1 x2 x3 st = some out) : j_i p l e rm_Fl_commonDirection s m args below meth c sz D (WC ad cI) (LC ad) out 4 (WC ad cI st) [(0, .ref (ad 2)), (1, .int x1), (2, .int x2), (3, .int x3)] 41 [] := by
  unfold f_Fl_commonDirection_41 at hf
  refine xj_iinc (v := x3 + 1) (j := 3) C d_Fl_commonDirection_41 rfl rfl (by decide) rfl ?_
  refine xj_goto (tgt := 4) C d_Fl_commonDirection_44 (by decide) ?_
  exact xj_lv [1, 2, 3, 0] rfl (hK4 x1 x2 (x3 + 1) st hf)
set_option maxHeartbeats 4000000 in
set_option maxRecDepth 20000 in
theorem w_Fl_commonDirection_34 {p : Program} {l : Launch} {e : Env} {s : State} {m : MethodId} {args : Array Value} {below : List Frame} {meth : Method} {c : Code} {sz : Nat} {D : va_G} {ad : Nat → Nat} {cI : ClassId} {out : Int32 × St} (N : (LC ad).Nodup) (C : xC p s m args meth c (xA (LC ad) sz) D 4 (tyC cI) b_Fl_commonDirection R_Fl) (hr : meth.sig.returnType = (some .int)) {K4 : Int32 → Int32 → Int32 → St → Option (Int32 × St)} (hK4 : ∀ (x1 x2 x3 : Int32) (st : St), K4 x1 x2 x3 st = some out → j_i p l e rm_Fl_commonDirection s m args below meth c sz D (WC ad cI) (LC ad) out 4 (WC ad cI st) [(0, .ref (ad 2)), (1, .int x1), (2, .int x2), (3, .int x3)] 4 []) (x1 x3 : Int32) (st : St) (hf : f_Fl_commonDirection_34 K4 x1 x3 st = some out) : j_i p l e rm_Fl_commonDirection s m args below meth c sz D (WC ad cI) (LC ad) out 4 (WC ad cI st) [(0, .ref (ad 2)), (1, .int x1), (3, .int x3)] 34 [] := by
  unfold f_Fl_commonDirection_34 at hf
  refine xj_aload_n C d_Fl_commonDirection_34 rfl 0 rfl ?_
  refine xj_get C g_Fl_21 2 rfl rfl d_Fl_commonDirection_35 ?_
  refine xj_iload_n C d_Fl_commonDirection_38 rfl 2 rfl ?_
  obtain ⟨g2, hf⟩ := xb_guard hf
  refine xj_iald C 17 0 rfl rfl g2 d_Fl_commonDirection_39 ?_
  refine xj_topi (fun v3 ev3 => ?_)
  have hf := xlet_at ev3 hf
  refine xj_istore_n C d_Fl_commonDirection_40 rfl (by decide) rfl ?_
  exact xj_lv [1, 2, 0, 3] rfl (w_Fl_commonDirection_41 N C hr hK4 x1 v3 x3 st hf)
set_option maxHeartbeats 4000000 in
set_option maxRecDepth 20000 in
theorem wb_Fl_commonDirection_4 {p : Program} {l : Launch} {e : Env} {s : State} {m : MethodId} {args : Array Value} {below : List Frame} {meth : Method} {c : Code} {sz : Nat} {D : va_G} {ad : Nat → Nat} {cI : ClassId} {out : Int32 × St} (N : (LC ad).Nodup) (C : xC p s m args meth c (xA (LC ad) sz) D 4 (tyC cI) b_Fl_commonDirection R_Fl) (hr : meth.sig.returnType = (some .int)) {K4 : Int32 → Int32 → Int32 → St → Option (Int32 × St)} (hK4 : ∀ (x1 x2 x3 : Int32) (st : St), K4 x1 x2 x3 st = some out → j_i p l e rm_Fl_commonDirection s m args below meth c sz D (WC ad cI) (LC ad) out 4 (WC ad cI st) [(0, .ref (ad 2)), (1, .int x1), (2, .int x2), (3, .int x3)] 4 []) (x1 x2 x3 : Int32) (st : St) (hf : b_Fl_commonDirection_4 K4 x1 x2 x3 st = some out) : j_i p l e rm_Fl_commonDirection s m args below meth c sz D (WC ad cI) (LC ad) out 4 (WC ad cI st) [(0, .ref (ad 2)), (1, .int x1), (2, .int x2), (3, .int x3)] 4 [] := by
  unfold b_Fl_commonDirection_4 at hf
  refine xj_iload_n C d_Fl_commonDirection_4 rfl 3 rfl ?_
  refine xj_iconst (v := 4) C d_Fl_commonDirection_5 rfl ?_
  refine xj_icmp_ge (tgt := 47) C d_Fl_commonDirection_6 (by decide) (fun h9 => ?_) (fun h9 => ?_)
  · have hf := xi_pos h9 hf
    refine xj_iload_n C d_Fl_commonDirection_47 rfl 2 rfl ?_
    exact xj_iret C hr hf d_Fl_commonDirection_48
  · have hf := xi_neg h9 hf
    refine xj_iload_n C d_Fl_commonDirection_9 rfl 1 rfl ?_
    refine xj_iload_n C d_Fl_commonDirection_10 rfl 3 rfl ?_
    obtain ⟨o1, ho1, hf⟩ := xb_some hf
    refine xj_callSNi (rest := []) C (c_LR_holds N ho1) Y_LR_holds i_Fl_35 (by decide) ⟨rfl, rfl⟩ rfl rfl (Nat.le_of_ble_eq_true rfl) d_Fl_commonDirection_11 (fun q h => Or.inl h) ?_
    refine xj_if_eq (tgt := 41) C d_Fl_commonDirection_14 (by decide) (fun h9 => ?_) (fun h9 => ?_)
    · have hf := xi_pos h9 hf
      exact xj_lv [0, 1, 2, 3] rfl (w_Fl_commonDirection_41 N C hr hK4 x1 x2 x3 o1.2 hf)
    · have hf := xi_neg h9 hf
      refine xj_iload_n C d_Fl_commonDirection_17 rfl 2 rfl ?_
      refine xj_iconst (v := (-1)) C d_Fl_commonDirection_18 rfl ?_
      refine xj_icmp_eq (tgt := 34) C d_Fl_commonDirection_19 (by decide) (fun h9 => ?_) (fun h9 => ?_)
      · have hf := xi_pos h9 hf
        exact xj_lv [0, 1, 3] rfl (w_Fl_commonDirection_34 N C hr hK4 x1 x3 o1.2 hf)
      · have hf := xi_neg h9 hf
        refine xj_iload_n C d_Fl_commonDirection_22 rfl 2 rfl ?_
        refine xj_aload_n C d_Fl_commonDirection_23 rfl 0 rfl ?_
        refine xj_get C g_Fl_21 2 rfl rfl d_Fl_commonDirection_24 ?_
        refine xj_iload_n C d_Fl_commonDirection_27 rfl 3 rfl ?_
        obtain ⟨g4, hf⟩ := xb_guard hf
        refine xj_iald C 17 0 rfl rfl g4 d_Fl_commonDirection_28 ?_
        refine xj_icmp_eq (tgt := 34) C d_Fl_commonDirection_29 (by decide) (fun h9 => ?_) (fun h9 => ?_)
        · have hf := xi_pos h9 hf
          exact xj_lv [0, 1, 3] rfl (w_Fl_commonDirection_34 N C hr hK4 x1 x3 o1.2 hf)
        · have hf := xi_neg h9 hf
          refine xj_iconst (v := (-1)) C d_Fl_commonDirection_32 rfl ?_
          exact xj_iret C hr hf d_Fl_commonDirection_33
set_option maxHeartbeats 4000000 in
set_option maxRecDepth 20000 in
theorem w_Fl_commonDirection_4 {p : Program} {l : Launch} {e : Env} {s : State} {m : MethodId} {args : Array Value} {below : List Frame} {meth : Method} {c : Code} {sz : Nat} {D : va_G} {ad : Nat → Nat} {cI : ClassId} {out : Int32 × St} (N : (LC ad).Nodup) (C : xC p s m args meth c (xA (LC ad) sz) D 4 (tyC cI) b_Fl_commonDirection R_Fl) (hr : meth.sig.returnType = (some .int)) (n : Nat) : ∀ (x1 x2 x3 : Int32) (st : St), f_Fl_commonDirection_4 n x1 x2 x3 st = some out → j_i p l e rm_Fl_commonDirection s m args below meth c sz D (WC ad cI) (LC ad) out 4 (WC ad cI st) [(0, .ref (ad 2)), (1, .int x1), (2, .int x2), (3, .int x3)] 4 [] := by
  induction n with
  | zero => intro x1 x2 x3 st hf; exact absurd (show (none : Option (Int32 × St)) = some out from hf) (fun h => by cases h)
  | succ n ih => intro x1 x2 x3 st hf; exact wb_Fl_commonDirection_4 N C hr ih x1 x2 x3 st hf
set_option maxHeartbeats 4000000 in
set_option maxRecDepth 20000 in
theorem c_Fl_commonDirection {l : Launch} {D : va_G} {ad : Nat → Nat} {cI : ClassId} (N : (LC ad).Nodup) {x1 : Int32} {st : St} {out : Int32 × St} (hf : f_Fl_commonDirection x1 st = some out) : xMi l y_Fl_commonDirection b_Fl_commonDirection 4 (some .int) rm_Fl_commonDirection D (tyC cI) (WC ad cI) (LC ad) [.ref (ad 2), .int x1] st out := by
  intro sz
  refine xM_of (L := LC ad) (by decide) (Nat.le_of_ble_eq_true rfl) (fun p e s m below meth c hsz hr C => ?_)
  show j_i p l e rm_Fl_commonDirection s m _ below meth c sz D (WC ad cI) (LC ad) out 4 (WC ad cI st) [(0, .ref (ad 2)), (1, .int x1)] 0 []
  unfold f_Fl_commonDirection at hf
  refine xj_iconst (v := (-1)) C d_Fl_commonDirection_0 rfl ?_
  refine xj_istore_n C d_Fl_commonDirection_1 rfl (by decide) rfl ?_
  refine xj_iconst (v := 0) C d_Fl_commonDirection_2 rfl ?_
  refine xj_istore_n C d_Fl_commonDirection_3 rfl (by decide) rfl ?_
  exact xj_lv [2, 3, 1, 0] rfl (w_Fl_commonDirection_4 N C hr 40 x1 (-1) 0 st hf)
set_option maxHeartbeats 4000000 in
set_option maxRecDepth 20000 in
theorem w_Be_canLay_60 {p : Program} {l : Launch} {e : Env} {s : State} {m : MethodId} {args : Array Value} {below : List Frame} {meth : Method} {c : Code} {sz : Nat} {D : va_G} {ad : Nat → Nat} {cI : ClassId} {out : Int32 × St} (N : (LC ad).Nodup) (C : xC p s m args meth c (xA (LC ad) sz) D 4 (tyC cI) b_Be_canLay R_Be) (hr : meth.sig.returnType = (some .boolean)) (x3 : Int32) (st : St) (hf : f_Be_canLay_60 x3 st = some out) : j_i p l e rm_Be_canLay s m args below meth c sz D (WC ad cI) (LC ad) out 4 (WC ad cI st) [(0, .ref (ad 3)), (3, .int x3)] 60 [] := by
  unfold f_Be_canLay_60 at hf
  refine xj_aload_n C d_Be_canLay_60 rfl 0 rfl ?_
  refine xj_get C g_Be_18 3 rfl rfl d_Be_canLay_61 ?_
  refine xj_iload_n C d_Be_canLay_64 rfl 1 rfl ?_
  obtain ⟨g3, hf⟩ := xb_guard hf
  refine xj_iald C 21 0 rfl rfl g3 d_Be_canLay_65 ?_
  refine xj_iconst (v := 1) C d_Be_canLay_66 rfl ?_
  refine xj_icmp_ne (tgt := 74) C d_Be_canLay_67 (by decide) (fun h9 => ?_) (fun h9 => ?_)
  · have hf := xi_neg h9 hf
    refine xj_iconst (v := 0) C d_Be_canLay_74 rfl ?_
    exact xj_zret C hr rfl hf d_Be_canLay_75
  · have hf := xi_pos h9 hf
    refine xj_iconst (v := 1) C d_Be_canLay_70 rfl ?_
    refine xj_goto (tgt := 75) C d_Be_canLay_71 (by decide) ?_
    exact xj_zret C hr rfl hf d_Be_canLay_75
set_option maxHeartbeats 4000000 in
set_option maxRecDepth 20000 in
theorem c_Fl_has {l : Launch} {D : va_G} {ad : Nat → Nat} {cI : ClassId} (N : (LC ad).Nodup) {x1 : Int32} {st : St} {out : Int32 × St} (hf : f_Fl_has x1 st = some out) : xMi l y_Fl_has b_Fl_has 2 (some .boolean) rm_Fl_has D (tyC cI) (WC ad cI) (LC ad) [.ref (ad 2), .int x1] st out := by
  intro sz
  refine xM_of (L := LC ad) (by decide) (Nat.le_of_ble_eq_true rfl) (fun p e s m below meth c hsz hr C => ?_)
  show j_i p l e rm_Fl_has s m _ below meth c sz D (WC ad cI) (LC ad) out 2 (WC ad cI st) [(0, .ref (ad 2)), (1, .int x1)] 0 []
  unfold f_Fl_has at hf
  refine xj_iload_n C d_Fl_has_0 rfl 1 rfl ?_
  refine xj_if_lt (tgt := 21) C d_Fl_has_1 (by decide) (fun h9 => ?_) (fun h9 => ?_)
  · have hf := xi_pos h9 hf
    refine xj_iconst (v := 0) C d_Fl_has_21 rfl ?_
    exact xj_zret C hr rfl hf d_Fl_has_22
  · have hf := xi_neg h9 hf
    refine xj_iload_n C d_Fl_has_4 rfl 1 rfl ?_
    refine xj_aload_n C d_Fl_has_5 rfl 0 rfl ?_
    refine xj_get C g_Fl_27 2 rfl rfl d_Fl_has_6 ?_
    refine xj_icmp_ge (tgt := 21) C d_Fl_has_9 (by decide) (fun h9 => ?_) (fun h9 => ?_)
    · have hf := xi_pos h9 hf
      refine xj_iconst (v := 0) C d_Fl_has_21 rfl ?_
      exact xj_zret C hr rfl hf d_Fl_has_22
    · have hf := xi_neg h9 hf
      refine xj_iload_n C d_Fl_has_12 rfl 1 rfl ?_
      refine xj_iconst (v := 4) C d_Fl_has_13 rfl ?_
      refine xj_icmp_ge (tgt := 21) C d_Fl_has_14 (by decide) (fun h9 => ?_) (fun h9 => ?_)
      · have hf := xi_pos h9 hf
        refine xj_iconst (v := 0) C d_Fl_has_21 rfl ?_
        exact xj_zret C hr rfl hf d_Fl_has_22
      · have hf := xi_neg h9 hf
        refine xj_iconst (v := 1) C d_Fl_has_17 rfl ?_
        refine xj_goto (tgt := 22) C d_Fl_has_18 (by decide) ?_
        exact xj_zret C hr rfl hf d_Fl_has_22
set_option maxHeartbeats 4000000 in
set_option maxRecDepth 20000 in
theorem c_Fl_length {l : Launch} {D : va_G} {ad : Nat → Nat} {cI : ClassId} (N : (LC ad).Nodup) {x1 : Int32} {st : St} {out : Int32 × St} (hf : f_Fl_length x1 st = some out) : xMi l y_Fl_length b_Fl_length 2 (some .int) rm_Fl_length D (tyC cI) (WC ad cI) (LC ad) [.ref (ad 2), .int x1] st out := by
  intro sz
  refine xM_of (L := LC ad) (by decide) (Nat.le_of_ble_eq_true rfl) (fun p e s m below meth c hsz hr C => ?_)
  show j_i p l e rm_Fl_length s m _ below meth c sz D (WC ad cI) (LC ad) out 2 (WC ad cI st) [(0, .ref (ad 2)), (1, .int x1)] 0 []
  unfold f_Fl_length at hf
  refine xj_aload_n C d_Fl_length_0 rfl 0 rfl ?_
  refine xj_iload_n C d_Fl_length_1 rfl 1 rfl ?_
  obtain ⟨o1, ho1, hf⟩ := xb_some hf
  refine xj_callVi (rest := []) C (c_Fl_has N ho1) Y_Fl_has i_Fl_31 2 rfl rfl (by decide) ⟨rfl, rfl⟩ rfl rfl (Nat.le_of_ble_eq_true rfl) d_Fl_length_2 (fun q h => Or.inl h) ?_
  refine xj_if_eq (tgt := 17) C d_Fl_length_5 (by decide) (fun h9 => ?_) (fun h9 => ?_)
  · have hf := xi_pos h9 hf
    refine xj_iconst (v := 0) C d_Fl_length_17 rfl ?_
    exact xj_iret C hr hf d_Fl_length_18
  · have hf := xi_neg h9 hf
    refine xj_aload_n C d_Fl_length_8 rfl 0 rfl ?_
    refine xj_get C g_Fl_9 2 rfl rfl d_Fl_length_9 ?_
    refine xj_iload_n C d_Fl_length_12 rfl 1 rfl ?_
    obtain ⟨g2, hf⟩ := xb_guard hf
    refine xj_iald C 14 0 rfl rfl g2 d_Fl_length_13 ?_
    refine xj_goto (tgt := 18) C d_Fl_length_14 (by decide) ?_
    exact xj_iret C hr hf d_Fl_length_18
set_option maxHeartbeats 4000000 in
set_option maxRecDepth 20000 in
theorem c_Fl_width {l : Launch} {D : va_G} {ad : Nat → Nat} {cI : ClassId} (N : (LC ad).Nodup) {x1 : Int32} {st : St} {out : Int32 × St} (hf : f_Fl_width x1 st = some out) : xMi l y_Fl_width b_Fl_width 2 (some .int) rm_Fl_width D (tyC cI) (WC ad cI) (LC ad) [.ref (ad 2), .int x1] st out := by
  intro sz
  refine xM_of (L := LC ad) (by decide) (Nat.le_of_ble_eq_true rfl) (fun p e s m below meth c hsz hr C => ?_)
  show j_i p l e rm_Fl_width s m _ below meth c sz D (WC ad cI) (LC ad) out 2 (WC ad cI st) [(0, .ref (ad 2)), (1, .int x1)] 0 []
  unfold f_Fl_width at hf
  refine xj_aload_n C d_Fl_width_0 rfl 0 rfl ?_
  refine xj_iload_n C d_Fl_width_1 rfl 1 rfl ?_
  obtain ⟨o1, ho1, hf⟩ := xb_some hf
  refine xj_callVi (rest := []) C (c_Fl_has N ho1) Y_Fl_has i_Fl_31 2 rfl rfl (by decide) ⟨rfl, rfl⟩ rfl rfl (Nat.le_of_ble_eq_true rfl) d_Fl_width_2 (fun q h => Or.inl h) ?_
  refine xj_if_eq (tgt := 17) C d_Fl_width_5 (by decide) (fun h9 => ?_) (fun h9 => ?_)
  · have hf := xi_pos h9 hf
    refine xj_iconst (v := 0) C d_Fl_width_17 rfl ?_
    exact xj_iret C hr hf d_Fl_width_18
  · have hf := xi_neg h9 hf
    refine xj_aload_n C d_Fl_width_8 rfl 0 rfl ?_
    refine xj_get C g_Fl_15 2 rfl rfl d_Fl_width_9 ?_
    refine xj_iload_n C d_Fl_width_12 rfl 1 rfl ?_
    obtain ⟨g2, hf⟩ := xb_guard hf
    refine xj_iald C 15 0 rfl rfl g2 d_Fl_width_13 ?_
    refine xj_goto (tgt := 18) C d_Fl_width_14 (by decide) ?_
    exact xj_iret C hr hf d_Fl_width_18
set_option maxHeartbeats 4000000 in
set_option maxRecDepth 20000 in
theorem c_Ch_length {l : Launch} {D : va_G} {ad : Nat → Nat} {cI : ClassId} (N : (LC ad).Nodup) {x1 : Int32} {st : St} {out : Int32 × St} (hf : f_Ch_length x1 st = some out) : xMi l y_Ch_length b_Ch_length 2 (some .int) rm_Ch_length D (tyC cI) (WC ad cI) (LC ad) [.ref (ad 1), .int x1] st out := by
  intro sz
  refine xM_of (L := LC ad) (by decide) (Nat.le_of_ble_eq_true rfl) (fun p e s m below meth c hsz hr C => ?_)
  show j_i p l e rm_Ch_length s m _ below meth c sz D (WC ad cI) (LC ad) out 2 (WC ad cI st) [(0, .ref (ad 1)), (1, .int x1)] 0 []
  unfold f_Ch_length at hf
  refine xj_aload_n C d_Ch_length_0 rfl 0 rfl ?_
  refine xj_iload_n C d_Ch_length_1 rfl 1 rfl ?_
  obtain ⟨o1, ho1, hf⟩ := xb_some hf
  refine xj_callVi (rest := []) C (c_Ch_has N ho1) Y_Ch_has i_Ch_37 1 rfl rfl (by decide) ⟨rfl, rfl⟩ rfl rfl (Nat.le_of_ble_eq_true rfl) d_Ch_length_2 (fun q h => Or.inl h) ?_
  refine xj_if_eq (tgt := 17) C d_Ch_length_5 (by decide) (fun h9 => ?_) (fun h9 => ?_)
  · have hf := xi_pos h9 hf
    refine xj_iconst (v := 0) C d_Ch_length_17 rfl ?_
    exact xj_iret C hr hf d_Ch_length_18
  · have hf := xi_neg h9 hf
    refine xj_aload_n C d_Ch_length_8 rfl 0 rfl ?_
    refine xj_get C g_Ch_9 1 rfl rfl d_Ch_length_9 ?_
    refine xj_iload_n C d_Ch_length_12 rfl 1 rfl ?_
    obtain ⟨g2, hf⟩ := xb_guard hf
    refine xj_iald C 8 0 rfl rfl g2 d_Ch_length_13 ?_
    refine xj_goto (tgt := 18) C d_Ch_length_14 (by decide) ?_
    exact xj_iret C hr hf d_Ch_length_18
set_option maxHeartbeats 4000000 in
set_option maxRecDepth 20000 in
theorem c_Ch_width {l : Launch} {D : va_G} {ad : Nat → Nat} {cI : ClassId} (N : (LC ad).Nodup) {x1 : Int32} {st : St} {out : Int32 × St} (hf : f_Ch_width x1 st = some out) : xMi l y_Ch_width b_Ch_width 2 (some .int) rm_Ch_width D (tyC cI) (WC ad cI) (LC ad) [.ref (ad 1), .int x1] st out := by
  intro sz
  refine xM_of (L := LC ad) (by decide) (Nat.le_of_ble_eq_true rfl) (fun p e s m below meth c hsz hr C => ?_)
  show j_i p l e rm_Ch_width s m _ below meth c sz D (WC ad cI) (LC ad) out 2 (WC ad cI st) [(0, .ref (ad 1)), (1, .int x1)] 0 []
  unfold f_Ch_width at hf
  refine xj_aload_n C d_Ch_width_0 rfl 0 rfl ?_
  refine xj_iload_n C d_Ch_width_1 rfl 1 rfl ?_
  obtain ⟨o1, ho1, hf⟩ := xb_some hf
  refine xj_callVi (rest := []) C (c_Ch_has N ho1) Y_Ch_has i_Ch_37 1 rfl rfl (by decide) ⟨rfl, rfl⟩ rfl rfl (Nat.le_of_ble_eq_true rfl) d_Ch_width_2 (fun q h => Or.inl h) ?_
  refine xj_if_eq (tgt := 17) C d_Ch_width_5 (by decide) (fun h9 => ?_) (fun h9 => ?_)
  · have hf := xi_pos h9 hf
    refine xj_iconst (v := 0) C d_Ch_width_17 rfl ?_
    exact xj_iret C hr hf d_Ch_width_18
  · have hf := xi_neg h9 hf
    refine xj_aload_n C d_Ch_width_8 rfl 0 rfl ?_
    refine xj_get C g_Ch_15 1 rfl rfl d_Ch_width_9 ?_
    refine xj_iload_n C d_Ch_width_12 rfl 1 rfl ?_
    obtain ⟨g2, hf⟩ := xb_guard hf
    refine xj_iald C 9 0 rfl rfl g2 d_Ch_width_13 ?_
    refine xj_goto (tgt := 18) C d_Ch_width_14 (by decide) ?_
    exact xj_iret C hr hf d_Ch_width_18
set_option maxHeartbeats 4000000 in
set_option maxRecDepth 20000 in
theorem c_Fl_side {l : Launch} {D : va_G} {ad : Nat → Nat} {cI : ClassId} (N : (LC ad).Nodup) {x1 : Int32} {st : St} {out : Int32 × St} (hf : f_Fl_side x1 st = some out) : xMi l y_Fl_side b_Fl_side 2 (some .int) rm_Fl_side D (tyC cI) (WC ad cI) (LC ad) [.ref (ad 2), .int x1] st out := by
  intro sz
  refine xM_of (L := LC ad) (by decide) (Nat.le_of_ble_eq_true rfl) (fun p e s m below meth c hsz hr C => ?_)
  show j_i p l e rm_Fl_side s m _ below meth c sz D (WC ad cI) (LC ad) out 2 (WC ad cI st) [(0, .ref (ad 2)), (1, .int x1)] 0 []
  unfold f_Fl_side at hf
  refine xj_aload_n C d_Fl_side_0 rfl 0 rfl ?_
  refine xj_iload_n C d_Fl_side_1 rfl 1 rfl ?_
  obtain ⟨o1, ho1, hf⟩ := xb_some hf
  refine xj_callVi (rest := []) C (c_Fl_has N ho1) Y_Fl_has i_Fl_31 2 rfl rfl (by decide) ⟨rfl, rfl⟩ rfl rfl (Nat.le_of_ble_eq_true rfl) d_Fl_side_2 (fun q h => Or.inl h) ?_
  refine xj_if_eq (tgt := 17) C d_Fl_side_5 (by decide) (fun h9 => ?_) (fun h9 => ?_)
  · have hf := xi_pos h9 hf
    refine xj_iconst (v := 2) C d_Fl_side_17 rfl ?_
    exact xj_iret C hr hf d_Fl_side_18
  · have hf := xi_neg h9 hf
    refine xj_aload_n C d_Fl_side_8 rfl 0 rfl ?_
    refine xj_get C g_Fl_24 2 rfl rfl d_Fl_side_9 ?_
    refine xj_iload_n C d_Fl_side_12 rfl 1 rfl ?_
    obtain ⟨g2, hf⟩ := xb_guard hf
    refine xj_iald C 18 0 rfl rfl g2 d_Fl_side_13 ?_
    refine xj_goto (tgt := 18) C d_Fl_side_14 (by decide) ?_
    exact xj_iret C hr hf d_Fl_side_18
set_option maxHeartbeats 4000000 in
set_option maxRecDepth 20000 in
theorem w_Be_cells_62 {p : Program} {l : Launch} {e : Env} {s : State} {m : MethodId} {args : Array Value} {below : List Frame} {meth : Method} {c : Code} {sz : Nat} {D : va_G} {ad : Nat → Nat} {cI : ClassId} {out : Int32 × St} (N : (LC ad).Nodup) (C : xC p s m args meth c (xA (LC ad) sz) D 7 (tyC cI) b_Be_cells R_Be) (hr : meth.sig.returnType = (some .int)) {K10 : Int32 → Int32 → Int32 → Int32 → Int32 → St → Option (Int32 × St)} (hK10 : ∀ (x1 x2 x3 x4 x5 : Int32) (st : St), K10 x1 x2 x3 x4 x5 st = some out → j_i p l e rm_Be_cells s m args below meth c sz D (WC ad cI) (LC ad) out 7 (WC ad cI st) [(1, .int x1), (2, .int x2), (3, .int x3), (4, .int x4), (5, .int x5)] 10 []) (x1 x2 x3 x4 x5 : Int32) (st : St) (hf : f_Be_cells_62 K10 x1 x2 x3 x4 x5 st = some out) : j_i p l e rm_Be_cells s m args below meth c sz D (WC ad cI) (LC ad) out 7 (WC ad cI st) [(1, .int x1), (2, .int x2), (3, .int x3), (4, .int x4), (5, .int x5)] 62 [] := by
  unfold f_Be_cells_62 at hf
  refine xj_iinc (v := x5 + 1) (j := 4) C d_Be_cells_62 rfl rfl (by decide) rfl ?_
  refine xj_goto (tgt := 10) C d_Be_cells_65 (by decide) ?_
  exact xj_lv [1, 2, 3, 4, 0] rfl (hK10 x1 x2 x3 x4 (x5 + 1) st hf)
set_option maxHeartbeats 4000000 in
set_option maxRecDepth 20000 in
theorem wb_Be_cells_30 {p : Program} {l : Launch} {e : Env} {s : State} {m : MethodId} {args : Array Value} {below : List Frame} {meth : Method} {c : Code} {sz : Nat} {D : va_G} {ad : Nat → Nat} {cI : ClassId} {out : Int32 × St} (N : (LC ad).Nodup) (C : xC p s m args meth c (xA (LC ad) sz) D 7 (tyC cI) b_Be_cells R_Be) (hr : meth.sig.returnType = (some .int)) {K10 : Int32 → Int32 → Int32 → Int32 → Int32 → St → Option (Int32 × St)} (hK10 : ∀ (x1 x2 x3 x4 x5 : Int32) (st : St), K10 x1 x2 x3 x4 x5 st = some out → j_i p l e rm_Be_cells s m args below meth c sz D (WC ad cI) (LC ad) out 7 (WC ad cI st) [(1, .int x1), (2, .int x2), (3, .int x3), (4, .int x4), (5, .int x5)] 10 []) {K30 : Int32 → Int32 → Int32 → Int32 → Int32 → Int32 → St → Option (Int32 × St)} (hK30 : ∀ (x1 x2 x3 x4 x5 x6 : Int32) (st : St), K30 x1 x2 x3 x4 x5 x6 st = some out → j_i p l e rm_Be_cells s m args below meth c sz D (WC ad cI) (LC ad) out 7 (WC ad cI st) [(1, .int x1), (2, .int x2), (3, .int x3), (4, .int x4), (5, .int x5), (6, .int x6)] 30 []) (x1 x2 x3 x4 x5 x6 : Int32) (st : St) (hf : b_Be_cells_30 K10 K30 x1 x2 x3 x4 x5 x6 st = some out) : j_i p l e rm_Be_cells s m args below meth c sz D (WC ad cI) (LC ad) out 7 (WC ad cI st) [(1, .int x1), (2, .int x2), (3, .int x3), (4, .int x4), (5, .int x5), (6, .int x6)] 30 [] := by
  unfold b_Be_cells_30 at hf
  refine xj_iload C d_Be_cells_30 5 rfl ?_
  refine xj_iload_n C d_Be_cells_32 rfl 2 rfl ?_
  refine xj_icmp_ge (tgt := 62) C d_Be_cells_33 (by decide) (fun h9 => ?_) (fun h9 => ?_)
  · have hf := xi_pos h9 hf
    exact xj_lv [0, 1, 2, 3, 4] rfl (w_Be_cells_62 N C hr hK10 x1 x2 x3 x4 x5 st hf)
  · have hf := xi_neg h9 hf
    refine xj_iload C d_Be_cells_36 5 rfl ?_
    refine xj_iconst (v := 3) C d_Be_cells_38 rfl ?_
    refine xj_icmp_ge (tgt := 62) C d_Be_cells_39 (by decide) (fun h9 => ?_) (fun h9 => ?_)
    · have hf := xi_pos h9 hf
      exact xj_lv [0, 1, 2, 3, 4] rfl (w_Be_cells_62 N C hr hK10 x1 x2 x3 x4 x5 st hf)
    · have hf := xi_neg h9 hf
      refine xj_iload C d_Be_cells_42 3 rfl ?_
      refine xj_iconst (v := 1) C d_Be_cells_44 rfl ?_
      refine xj_iconst (v := 3) C d_Be_cells_45 rfl ?_
      refine xj_iload C d_Be_cells_46 4 rfl ?_
      refine xj_imul C d_Be_cells_48 ?_
      refine xj_iload C d_Be_cells_49 5 rfl ?_
      refine xj_iadd C d_Be_cells_51 ?_
      refine xj_ishl C d_Be_cells_52 ?_
      refine xj_ior C d_Be_cells_53 ?_
      refine xj_topi (fun v3 ev3 => ?_)
      have hf := xlet_at ev3 hf
      refine xj_istore C d_Be_cells_54 (by decide) rfl ?_
      refine xj_iinc (v := x6 + 1) (j := 5) C d_Be_cells_56 rfl rfl (by decide) rfl ?_
      refine xj_goto (tgt := 30) C d_Be_cells_59 (by decide) ?_
      exact xj_lv [2, 3, 4, 1, 5, 0] rfl (hK30 x1 x2 x3 v3 x5 (x6 + 1) st hf)
set_option maxHeartbeats 4000000 in
set_option maxRecDepth 20000 in
theorem w_Be_cells_30 {p : Program} {l : Launch} {e : Env} {s : State} {m : MethodId} {args : Array Value} {below : List Frame} {meth : Method} {c : Code} {sz : Nat} {D : va_G} {ad : Nat → Nat} {cI : ClassId} {out : Int32 × St} (N : (LC ad).Nodup) (C : xC p s m args meth c (xA (LC ad) sz) D 7 (tyC cI) b_Be_cells R_Be) (hr : meth.sig.returnType = (some .int)) {K10 : Int32 → Int32 → Int32 → Int32 → Int32 → St → Option (Int32 × St)} (hK10 : ∀ (x1 x2 x3 x4 x5 : Int32) (st : St), K10 x1 x2 x3 x4 x5 st = some out → j_i p l e rm_Be_cells s m args below meth c sz D (WC ad cI) (LC ad) out 7 (WC ad cI st) [(1, .int x1), (2, .int x2), (3, .int x3), (4, .int x4), (5, .int x5)] 10 []) (n : Nat) : ∀ (x1 x2 x3 x4 x5 x6 : Int32) (st : St), f_Be_cells_30 K10 n x1 x2 x3 x4 x5 x6 st = some out → j_i p l e rm_Be_cells s m args below meth c sz D (WC ad cI) (LC ad) out 7 (WC ad cI st) [(1, .int x1), (2, .int x2), (3, .int x3), (4, .int x4), (5, .int x5), (6, .int x6)] 30 [] := by
  induction n with
  | zero => intro x1 x2 x3 x4 x5 x6 st hf; exact absurd (show (none : Option (Int32 × St)) = some out from hf) (fun h => by cases h)
  | succ n ih => intro x1 x2 x3 x4 x5 x6 st hf; exact wb_Be_cells_30 N C hr hK10 ih x1 x2 x3 x4 x5 x6 st hf
set_option maxHeartbeats 4000000 in
set_option maxRecDepth 20000 in
theorem wb_Be_cells_10 {p : Program} {l : Launch} {e : Env} {s : State} {m : MethodId} {args : Array Value} {below : List Frame} {meth : Method} {c : Code} {sz : Nat} {D : va_G} {ad : Nat → Nat} {cI : ClassId} {out : Int32 × St} (N : (LC ad).Nodup) (C : xC p s m args meth c (xA (LC ad) sz) D 7 (tyC cI) b_Be_cells R_Be) (hr : meth.sig.returnType = (some .int)) {K10 : Int32 → Int32 → Int32 → Int32 → Int32 → St → Option (Int32 × St)} (hK10 : ∀ (x1 x2 x3 x4 x5 : Int32) (st : St), K10 x1 x2 x3 x4 x5 st = some out → j_i p l e rm_Be_cells s m args below meth c sz D (WC ad cI) (LC ad) out 7 (WC ad cI st) [(1, .int x1), (2, .int x2), (3, .int x3), (4, .int x4), (5, .int x5)] 10 []) (x1 x2 x3 x4 x5 : Int32) (st : St) (hf : b_Be_cells_10 K10 x1 x2 x3 x4 x5 st = some out) : j_i p l e rm_Be_cells s m args below meth c sz D (WC ad cI) (LC ad) out 7 (WC ad cI st) [(1, .int x1), (2, .int x2), (3, .int x3), (4, .int x4), (5, .int x5)] 10 [] := by
  unfold b_Be_cells_10 at hf
  refine xj_iload C d_Be_cells_10 4 rfl ?_
  refine xj_iload_n C d_Be_cells_12 rfl 0 rfl ?_
  refine xj_icmp_ge (tgt := 68) C d_Be_cells_13 (by decide) (fun h9 => ?_) (fun h9 => ?_)
  · have hf := xi_pos h9 hf
    refine xj_iload C d_Be_cells_68 3 rfl ?_
    exact xj_iret C hr hf d_Be_cells_70
  · have hf := xi_neg h9 hf
    refine xj_iload C d_Be_cells_16 4 rfl ?_
    refine xj_bipush (v := 8) C d_Be_cells_18 rfl ?_
    refine xj_icmp_ge (tgt := 68) C d_Be_cells_20 (by decide) (fun h9 => ?_) (fun h9 => ?_)
    · have hf := xi_pos h9 hf
      refine xj_iload C d_Be_cells_68 3 rfl ?_
      exact xj_iret C hr hf d_Be_cells_70
    · have hf := xi_neg h9 hf
      refine xj_iload_n C d_Be_cells_23 rfl 1 rfl ?_
      refine xj_iconst (v := 0) C d_Be_cells_24 rfl ?_
      refine xj_mmax C mm_Be_61 (by decide) (Nat.le_of_ble_eq_true rfl) d_Be_cells_25 ?_
      refine xj_topi (fun v2 ev2 => ?_)
      have hf := xlet_at ev2 hf
      refine xj_istore C d_Be_cells_28 (by decide) rfl ?_
      exact xj_lv [1, 2, 3, 4, 5, 0] rfl (w_Be_cells_30 N C hr hK10 40 x1 x2 x3 x4 x5 v2 st hf)
set_option maxHeartbeats 4000000 in
set_option maxRecDepth 20000 in
theorem w_Be_cells_10 {p : Program} {l : Launch} {e : Env} {s : State} {m : MethodId} {args : Array Value} {below : List Frame} {meth : Method} {c : Code} {sz : Nat} {D : va_G} {ad : Nat → Nat} {cI : ClassId} {out : Int32 × St} (N : (LC ad).Nodup) (C : xC p s m args meth c (xA (LC ad) sz) D 7 (tyC cI) b_Be_cells R_Be) (hr : meth.sig.returnType = (some .int)) (n : Nat) : ∀ (x1 x2 x3 x4 x5 : Int32) (st : St), f_Be_cells_10 n x1 x2 x3 x4 x5 st = some out → j_i p l e rm_Be_cells s m args below meth c sz D (WC ad cI) (LC ad) out 7 (WC ad cI st) [(1, .int x1), (2, .int x2), (3, .int x3), (4, .int x4), (5, .int x5)] 10 [] := by
  induction n with
  | zero => intro x1 x2 x3 x4 x5 st hf; exact absurd (show (none : Option (Int32 × St)) = some out from hf) (fun h => by cases h)
  | succ n ih => intro x1 x2 x3 x4 x5 st hf; exact wb_Be_cells_10 N C hr ih x1 x2 x3 x4 x5 st hf
set_option maxHeartbeats 4000000 in
set_option maxRecDepth 20000 in
theorem c_Be_cells {l : Launch} {D : va_G} {ad : Nat → Nat} {cI : ClassId} (N : (LC ad).Nodup) {x0 x1 x2 x3 : Int32} {st : St} {out : Int32 × St} (hf : f_Be_cells x0 x1 x2 x3 st = some out) : xMi l y_Be_cells b_Be_cells 7 (some .int) rm_Be_cells D (tyC cI) (WC ad cI) (LC ad) [.int x0, .int x1, .int x2, .int x3] st out := by
  intro sz
  refine xM_of (L := LC ad) (by decide) (Nat.le_of_ble_eq_true rfl) (fun p e s m below meth c hsz hr C => ?_)
  show j_i p l e rm_Be_cells s m _ below meth c sz D (WC ad cI) (LC ad) out 7 (WC ad cI st) [(0, .int x0), (1, .int x1), (2, .int x2), (3, .int x3)] 0 []
  unfold f_Be_cells at hf
  refine xj_iconst (v := 0) C d_Be_cells_0 rfl ?_
  refine xj_istore C d_Be_cells_1 (by decide) rfl ?_
  refine xj_iload_n C d_Be_cells_3 rfl 1 rfl ?_
  refine xj_iconst (v := 0) C d_Be_cells_4 rfl ?_
  refine xj_mmax C mm_Be_61 (by decide) (Nat.le_of_ble_eq_true rfl) d_Be_cells_5 ?_
  refine xj_topi (fun v1 ev1 => ?_)
  have hf := xlet_at ev1 hf
  refine xj_istore C d_Be_cells_8 (by decide) rfl ?_
  exact xj_lv [3, 4, 5, 1, 0] rfl (w_Be_cells_10 N C hr 40 x1 x2 x3 0 v1 st hf)
set_option maxHeartbeats 4000000 in
set_option maxRecDepth 20000 in
theorem w_Be_layFrom_240 {p : Program} {l : Launch} {e : Env} {s : State} {m : MethodId} {args : Array Value} {below : List Frame} {meth : Method} {c : Code} {sz : Nat} {D : va_G} {ad : Nat → Nat} {cI : ClassId} {out : Int32 × St} {dd : Nat} (N : (LC ad).Nodup) (C : xC p s m args meth c (xA (LC ad) sz) D 14 (tyC cI) b_Be_layFrom R_Be) (hr : meth.sig.returnType = (some .boolean)) {REC : Int32 → Int32 → Int32 → Int32 → St → Option (Int32 × St)} (hREC : ∀ (x1 x2 x3 x4 : Int32) (st : St) (o : Int32 × St), REC x1 x2 x3 x4 st = some o → xMi l y_Be_layFrom b_Be_layFrom 14 (some .boolean) (rm_Be_layFrom dd) D (tyC cI) (WC ad cI) (LC ad) [.ref (ad 3), .int x1, .int x2, .int x3, .int x4] st o) {K132 : Int32 → Int32 → Int32 → Int32 → Int32 → Int32 → Int32 → Int32 → Int32 → Int32 → Int32 → St → Option (Int32 × St)} {K143 : Int32 → Int32 → Int32 → Int32 → Int32 → Int32 → Int32 → Int32 → Int32 → Int32 → Int32 → Int32 → St → Option (Int32 × St)} (hK132 : ∀ (x1 x2 x3 x4 x5 x6 x7 x8 x9 x10 x11 : Int32) (st : St), K132 x1 x2 x3 x4 x5 x6 x7 x8 x9 x10 x11 st = some out → j_i p l e (rm_Be_layFrom (dd + 1)) s m args below meth c sz D (WC ad cI) (LC ad) out 14 (WC ad cI st) [(0, .ref (ad 3)), (1, .int x1), (2, .int x2), (3, .int x3), (4, .int x4), (5, .int x5), (6, .int x6), (7, .int x7), (8, .int x8), (9, .int x9), (10, .int x10), (11, .int x11)] 132 []) (hK143 : ∀ (x1 x2 x3 x4 x5 x6 x7 x8 x9 x10 x11 x12 : Int32) (st : St), K143 x1 x2 x3 x4 x5 x6 x7 x8 x9 x10 x11 x12 st = some out → j_i p l e (rm_Be_layFrom (dd + 1)) s m args below meth c sz D (WC ad cI) (LC ad) out 14 (WC ad cI st) [(0, .ref (ad 3)), (1, .int x1), (2, .int x2), (3, .int x3), (4, .int x4), (5, .int x5), (6, .int x6), (7, .int x7), (8, .int x8), (9, .int x9), (10, .int x10), (11, .int x11), (12, .int x12)] 143 []) (x1 x2 x3 x4 x5 x6 x7 x8 x9 x10 x11 x12 : Int32) (st : St) (hf : f_Be_layFrom_240 REC K132 K143 x1 x2 x3 x4 x5 x6 x7 x8 x9 x10 x11 x12 st = some out) : j_i p l e (rm_Be_layFrom (dd + 1)) s m args below meth c sz D (WC ad cI) (LC ad) out 14 (WC ad cI st) [(0, .ref (ad 3)), (1, .int x1), (2, .int x2), (3, .int x3), (4, .int x4), (5, .int x5), (6, .int x6), (7, .int x7), (8, .int x8), (9, .int x9), (10, .int x10), (11, .int x11), (12, .int x12)] 240 [] := by
  unfold f_Be_layFrom_240 at hf
  refine xj_iinc (v := x12 + 1) (j := 12) C d_Be_layFrom_240 rfl rfl (by decide) rfl ?_
  refine xj_goto (tgt := 143) C d_Be_layFrom_243 (by decide) ?_
  exact xj_lv [1, 2, 3, 4, 5, 6, 7, 8, 9, 10, 11, 12, 0] rfl (hK143 x1 x2 x3 x4 x5 x6 x7 x8 x9 x10 x11 (x12 + 1) st hf)
set_option maxHeartbeats 4000000 in
set_option maxRecDepth 20000 in
theorem wb_Be_layFrom_143 {p : Program} {l : Launch} {e : Env} {s : State} {m : MethodId} {args : Array Value} {below : List Frame} {meth : Method} {c : Code} {sz : Nat} {D : va_G} {ad : Nat → Nat} {cI : ClassId} {out : Int32 × St} {dd : Nat} (N : (LC ad).Nodup) (C : xC p s m args meth c (xA (LC ad) sz) D 14 (tyC cI) b_Be_layFrom R_Be) (hr : meth.sig.returnType = (some .boolean)) {REC : Int32 → Int32 → Int32 → Int32 → St → Option (Int32 × St)} (hREC : ∀ (x1 x2 x3 x4 : Int32) (st : St) (o : Int32 × St), REC x1 x2 x3 x4 st = some o → xMi l y_Be_layFrom b_Be_layFrom 14 (some .boolean) (rm_Be_layFrom dd) D (tyC cI) (WC ad cI) (LC ad) [.ref (ad 3), .int x1, .int x2, .int x3, .int x4] st o) {K132 : Int32 → Int32 → Int32 → Int32 → Int32 → Int32 → Int32 → Int32 → Int32 → Int32 → Int32 → St → Option (Int32 × St)} (hK132 : ∀ (x1 x2 x3 x4 x5 x6 x7 x8 x9 x10 x11 : Int32) (st : St), K132 x1 x2 x3 x4 x5 x6 x7 x8 x9 x10 x11 st = some out → j_i p l e (rm_Be_layFrom (dd + 1)) s m args below meth c sz D (WC ad cI) (LC ad) out 14 (WC ad cI st) [(0, .ref (ad 3)), (1, .int x1), (2, .int x2), (3, .int x3), (4, .int x4), (5, .int x5), (6, .int x6), (7, .int x7), (8, .int x8), (9, .int x9), (10, .int x10), (11, .int x11)] 132 []) {K143 : Int32 → Int32 → Int32 → Int32 → Int32 → Int32 → Int32 → Int32 → Int32 → Int32 → Int32 → Int32 → St → Option (Int32 × St)} (hK143 : ∀ (x1 x2 x3 x4 x5 x6 x7 x8 x9 x10 x11 x12 : Int32) (st : St), K143 x1 x2 x3 x4 x5 x6 x7 x8 x9 x10 x11 x12 st = some out → j_i p l e (rm_Be_layFrom (dd + 1)) s m args below meth c sz D (WC ad cI) (LC ad) out 14 (WC ad cI st) [(0, .ref (ad 3)), (1, .int x1), (2, .int x2), (3, .int x3), (4, .int x4), (5, .int x5), (6, .int x6), (7, .int x7), (8, .int x8), (9, .int x9), (10, .int x10), (11, .int x11), (12, .int x12)] 143 []) (x1 x2 x3 x4 x5 x6 x7 x8 x9 x10 x11 x12 : Int32) (st : St) (hf : b_Be_layFrom_143 REC K132 K143 x1 x2 x3 x4 x5 x6 x7 x8 x9 x10 x11 x12 st = some out) : j_i p l e (rm_Be_layFrom (dd + 1)) s m args below meth c sz D (WC ad cI) (LC ad) out 14 (WC ad cI st) [(0, .ref (ad 3)), (1, .int x1), (2, .int x2), (3, .int x3), (4, .int x4), (5, .int x5), (6, .int x6), (7, .int x7), (8, .int x8), (9, .int x9), (10, .int x10), (11, .int x11), (12, .int x12)] 143 [] := by
  unfold b_Be_layFrom_143 at hf
  refine xj_iload C d_Be_layFrom_143 12 rfl ?_
  refine xj_iload C d_Be_layFrom_145 8 rfl ?_
  refine xj_icmp_gt (tgt := 246) C d_Be_layFrom_147 (by decide) (fun h9 => ?_) (fun h9 => ?_)
  · have hf := xi_pos h9 hf
    refine xj_iinc (v := x11 + 1) (j := 11) C d_Be_layFrom_246 rfl rfl (by decide) rfl ?_
    refine xj_goto (tgt := 132) C d_Be_layFrom_249 (by decide) ?_
    exact xj_lv [1, 2, 3, 4, 5, 6, 7, 8, 9, 10, 11, 0] rfl (hK132 x1 x2 x3 x4 x5 x6 x7 x8 x9 x10 (x11 + 1) st hf)
  · have hf := xi_neg h9 hf
    refine xj_iload C d_Be_layFrom_150 10 rfl ?_
    refine xj_iconst (v := 3) C d_Be_layFrom_152 rfl ?_
    refine xj_iload C d_Be_layFrom_153 11 rfl ?_
    refine xj_imul C d_Be_layFrom_155 ?_
    refine xj_iload C d_Be_layFrom_156 12 rfl ?_
    refine xj_iadd C d_Be_layFrom_158 ?_
    refine xj_ishl C d_Be_layFrom_159 ?_
    refine xj_iload C d_Be_layFrom_160 4 rfl ?_
    refine xj_iand C d_Be_layFrom_162 ?_
    refine xj_if_ne (tgt := 240) C d_Be_layFrom_163 (by decide) (fun h9 => ?_) (fun h9 => ?_)
    · have hf := xi_neg h9 hf
      exact xj_lv [0, 1, 2, 3, 4, 5, 6, 7, 8, 9, 10, 11, 12] rfl (w_Be_layFrom_240 N C hr hREC hK132 hK143 x1 x2 x3 x4 x5 x6 x7 x8 x9 x10 x11 x12 st hf)
    · have hf := xi_pos h9 hf
      refine xj_aload_n C d_Be_layFrom_166 rfl 0 rfl ?_
      refine xj_get C g_Be_9 3 rfl rfl d_Be_layFrom_167 ?_
      refine xj_iload_n C d_Be_layFrom_170 rfl 1 rfl ?_
      refine xj_iload C d_Be_layFrom_171 11 rfl ?_
      obtain ⟨g11, hf⟩ := xb_guard hf
      obtain ⟨s12, es12, hf⟩ := xlet_ex hf
      refine xj_iast (ws' := WC ad cI s12) C (WC_D N sz _) 19 0 rfl rfl g11 d_Be_layFrom_173 (by rw [es12]; rfl) ?_
      refine xj_aload_n C d_Be_layFrom_174 rfl 0 rfl ?_
      refine xj_get C g_Be_15 3 rfl rfl d_Be_layFrom_175 ?_
      refine xj_iload_n C d_Be_layFrom_178 rfl 1 rfl ?_
      refine xj_iload C d_Be_layFrom_179 12 rfl ?_
      obtain ⟨g13, hf⟩ := xb_guard hf
      obtain ⟨s14, es14, hf⟩ := xlet_ex hf
      refine xj_iast (ws' := WC ad cI s14) C (WC_D N sz _) 20 0 rfl rfl g13 d_Be_layFrom_181 (by rw [es14]; rfl) ?_
      refine xj_iload C d_Be_layFrom_182 11 rfl ?_
      refine xj_aload_n C d_Be_layFrom_184 rfl 0 rfl ?_
      refine xj_get C g_Be_29 3 rfl rfl d_Be_layFrom_185 ?_
      refine xj_isub C d_Be_layFrom_188 ?_
      refine xj_iload C d_Be_layFrom_189 11 rfl ?_
      refine xj_iload C d_Be_layFrom_191 5 rfl ?_
      refine xj_iadd C d_Be_layFrom_193 ?_
      refine xj_aload_n C d_Be_layFrom_194 rfl 0 rfl ?_
      refine xj_get C g_Be_29 3 rfl rfl d_Be_layFrom_195 ?_
      refine xj_iadd C d_Be_layFrom_198 ?_
      refine xj_iload C d_Be_layFrom_199 12 rfl ?_
      refine xj_aload_n C d_Be_layFrom_201 rfl 0 rfl ?_
      refine xj_get C g_Be_29 3 rfl rfl d_Be_layFrom_202 ?_
      refine xj_isub C d_Be_layFrom_205 ?_
      refine xj_iload C d_Be_layFrom_206 12 rfl ?_
      refine xj_iload C d_Be_layFrom_208 6 rfl ?_
      refine xj_iadd C d_Be_layFrom_210 ?_
      refine xj_aload_n C d_Be_layFrom_211 rfl 0 rfl ?_
      refine xj_get C g_Be_29 3 rfl rfl d_Be_layFrom_212 ?_
      refine xj_iadd C d_Be_layFrom_215 ?_
      obtain ⟨o15, ho15, hf⟩ := xb_some hf
      refine xj_callSi (rest := []) C (c_Be_cells N ho15) Y_Be_cells i_Be_57 (by simp only [rm_Be_layFrom, rm_Be_cells]; omega) ⟨rfl, rfl⟩ rfl rfl (Nat.le_of_ble_eq_true rfl) d_Be_layFrom_216 (fun q h => Or.inl h) ?_
      refine xj_istore C d_Be_layFrom_219 (by decide) rfl ?_
      refine xj_aload_n C d_Be_layFrom_221 rfl 1 rfl ?_
      refine xj_iload_n C d_Be_layFrom_222 rfl 2 rfl ?_
      refine xj_iconst (v := 1) C d_Be_layFrom_223 rfl ?_
      refine xj_iadd C d_Be_layFrom_224 ?_
      refine xj_iload_n C d_Be_layFrom_225 rfl 3 rfl ?_
      refine xj_iload_n C d_Be_layFrom_226 rfl 4 rfl ?_
      refine xj_iload C d_Be_layFrom_227 5 rfl ?_
      refine xj_iload C d_Be_layFrom_229 0 rfl ?_
      refine xj_ior C d_Be_layFrom_231 ?_
      obtain ⟨o16, ho16, hf⟩ := xb_some hf
      refine xj_callVi (rest := []) C (hREC (x1 + 1) x2 x3 (x4 ||| o15.1) o15.2 o16 ho16) Y_Be_layFrom i_Be_33 3 rfl rfl (xroom_rec_Be_layFrom dd) ⟨rfl, rfl⟩ rfl rfl (Nat.le_of_ble_eq_true rfl) d_Be_layFrom_232 (fun q h => Or.inl h) ?_
      refine xj_if_eq (tgt := 240) C d_Be_layFrom_235 (by decide) (fun h9 => ?_) (fun h9 => ?_)
      · have hf := xi_pos h9 hf
        exact xj_lv [1, 2, 3, 4, 5, 6, 7, 8, 9, 10, 11, 12, 13] rfl (w_Be_layFrom_240 N C hr hREC hK132 hK143 x1 x2 x3 x4 x5 x6 x7 x8 x9 x10 x11 x12 o16.2 hf)
      · have hf := xi_neg h9 hf
        refine xj_iconst (v := 1) C d_Be_layFrom_238 rfl ?_
        exact xj_zret C hr rfl hf d_Be_layFrom_239
set_option maxHeartbeats 4000000 in
set_option maxRecDepth 20000 in
theorem w_Be_layFrom_143 {p : Program} {l : Launch} {e : Env} {s : State} {m : MethodId} {args : Array Value} {below : List Frame} {meth : Method} {c : Code} {sz : Nat} {D : va_G} {ad : Nat → Nat} {cI : ClassId} {out : Int32 × St} {dd : Nat} (N : (LC ad).Nodup) (C : xC p s m args meth c (xA (LC ad) sz) D 14 (tyC cI) b_Be_layFrom R_Be) (hr : meth.sig.returnType = (some .boolean)) {REC : Int32 → Int32 → Int32 → Int32 → St → Option (Int32 × St)} (hREC : ∀ (x1 x2 x3 x4 : Int32) (st : St) (o : Int32 × St), REC x1 x2 x3 x4 st = some o → xMi l y_Be_layFrom b_Be_layFrom 14 (some .boolean) (rm_Be_layFrom dd) D (tyC cI) (WC ad cI) (LC ad) [.ref (ad 3), .int x1, .int x2, .int x3, .int x4] st o) {K132 : Int32 → Int32 → Int32 → Int32 → Int32 → Int32 → Int32 → Int32 → Int32 → Int32 → Int32 → St → Option (Int32 × St)} (hK132 : ∀ (x1 x2 x3 x4 x5 x6 x7 x8 x9 x10 x11 : Int32) (st : St), K132 x1 x2 x3 x4 x5 x6 x7 x8 x9 x10 x11 st = some out → j_i p l e (rm_Be_layFrom (dd + 1)) s m args below meth c sz D (WC ad cI) (LC ad) out 14 (WC ad cI st) [(0, .ref (ad 3)), (1, .int x1), (2, .int x2), (3, .int x3), (4, .int x4), (5, .int x5), (6, .int x6), (7, .int x7), (8, .int x8), (9, .int x9), (10, .int x10), (11, .int x11)] 132 []) (n : Nat) : ∀ (x1 x2 x3 x4 x5 x6 x7 x8 x9 x10 x11 x12 : Int32) (st : St), f_Be_layFrom_143 REC K132 n x1 x2 x3 x4 x5 x6 x7 x8 x9 x10 x11 x12 st = some out → j_i p l e (rm_Be_layFrom (dd + 1)) s m args below meth c sz D (WC ad cI) (LC ad) out 14 (WC ad cI st) [(0, .ref (ad 3)), (1, .int x1), (2, .int x2), (3, .int x3), (4, .int x4), (5, .int x5), (6, .int x6), (7, .int x7), (8, .int x8), (9, .int x9), (10, .int x10), (11, .int x11), (12, .int x12)] 143 [] := by
  induction n with
  | zero => intro x1 x2 x3 x4 x5 x6 x7 x8 x9 x10 x11 x12 st hf; exact absurd (show (none : Option (Int32 × St)) = some out from hf) (fun h => by cases h)
  | succ n ih => intro x1 x2 x3 x4 x5 x6 x7 x8 x9 x10 x11 x12 st hf; exact wb_Be_layFrom_143 N C hr hREC hK132 ih x1 x2 x3 x4 x5 x6 x7 x8 x9 x10 x11 x12 st hf
set_option maxHeartbeats 4000000 in
set_option maxRecDepth 20000 in
theorem wb_Be_layFrom_132 {p : Program} {l : Launch} {e : Env} {s : State} {m : MethodId} {args : Array Value} {below : List Frame} {meth : Method} {c : Code} {sz : Nat} {D : va_G} {ad : Nat → Nat} {cI : ClassId} {out : Int32 × St} {dd : Nat} (N : (LC ad).Nodup) (C : xC p s m args meth c (xA (LC ad) sz) D 14 (tyC cI) b_Be_layFrom R_Be) (hr : meth.sig.returnType = (some .boolean)) {REC : Int32 → Int32 → Int32 → Int32 → St → Option (Int32 × St)} (hREC : ∀ (x1 x2 x3 x4 : Int32) (st : St) (o : Int32 × St), REC x1 x2 x3 x4 st = some o → xMi l y_Be_layFrom b_Be_layFrom 14 (some .boolean) (rm_Be_layFrom dd) D (tyC cI) (WC ad cI) (LC ad) [.ref (ad 3), .int x1, .int x2, .int x3, .int x4] st o) {K132 : Int32 → Int32 → Int32 → Int32 → Int32 → Int32 → Int32 → Int32 → Int32 → Int32 → Int32 → St → Option (Int32 × St)} (hK132 : ∀ (x1 x2 x3 x4 x5 x6 x7 x8 x9 x10 x11 : Int32) (st : St), K132 x1 x2 x3 x4 x5 x6 x7 x8 x9 x10 x11 st = some out → j_i p l e (rm_Be_layFrom (dd + 1)) s m args below meth c sz D (WC ad cI) (LC ad) out 14 (WC ad cI st) [(0, .ref (ad 3)), (1, .int x1), (2, .int x2), (3, .int x3), (4, .int x4), (5, .int x5), (6, .int x6), (7, .int x7), (8, .int x8), (9, .int x9), (10, .int x10), (11, .int x11)] 132 []) (x1 x2 x3 x4 x5 x6 x7 x8 x9 x10 x11 : Int32) (st : St) (hf : b_Be_layFrom_132 REC K132 x1 x2 x3 x4 x5 x6 x7 x8 x9 x10 x11 st = some out) : j_i p l e (rm_Be_layFrom (dd + 1)) s m args below meth c sz D (WC ad cI) (LC ad) out 14 (WC ad cI st) [(0, .ref (ad 3)), (1, .int x1), (2, .int x2), (3, .int x3), (4, .int x4), (5, .int x5), (6, .int x6), (7, .int x7), (8, .int x8), (9, .int x9), (10, .int x10), (11, .int x11)] 132 [] := by
  unfold b_Be_layFrom_132 at hf
  refine xj_iload C d_Be_layFrom_132 11 rfl ?_
  refine xj_iload C d_Be_layFrom_134 7 rfl ?_
  refine xj_icmp_gt (tgt := 252) C d_Be_layFrom_136 (by decide) (fun h9 => ?_) (fun h9 => ?_)
  · have hf := xi_pos h9 hf
    refine xj_iconst (v := 0) C d_Be_layFrom_252 rfl ?_
    exact xj_zret C hr rfl hf d_Be_layFrom_253
  · have hf := xi_neg h9 hf
    refine xj_iload C d_Be_layFrom_139 9 rfl ?_
    refine xj_istore C d_Be_layFrom_141 (by decide) rfl ?_
    exact xj_lv [1, 2, 3, 4, 5, 6, 7, 8, 9, 10, 11, 12, 0] rfl (w_Be_layFrom_143 N C hr hREC hK132 40 x1 x2 x3 x4 x5 x6 x7 x8 x9 x10 x11 x9 st hf)
set_option maxHeartbeats 4000000 in
set_option maxRecDepth 20000 in
theorem w_Be_layFrom_132 {p : Program} {l : Launch} {e : Env} {s : State} {m : MethodId} {args : Array Value} {below : List Frame} {meth : Method} {c : Code} {sz : Nat} {D : va_G} {ad : Nat → Nat} {cI : ClassId} {out : Int32 × St} {dd : Nat} (N : (LC ad).Nodup) (C : xC p s m args meth c (xA (LC ad) sz) D 14 (tyC cI) b_Be_layFrom R_Be) (hr : meth.sig.returnType = (some .boolean)) {REC : Int32 → Int32 → Int32 → Int32 → St → Option (Int32 × St)} (hREC : ∀ (x1 x2 x3 x4 : Int32) (st : St) (o : Int32 × St), REC x1 x2 x3 x4 st = some o → xMi l y_Be_layFrom b_Be_layFrom 14 (some .boolean) (rm_Be_layFrom dd) D (tyC cI) (WC ad cI) (LC ad) [.ref (ad 3), .int x1, .int x2, .int x3, .int x4] st o) (n : Nat) : ∀ (x1 x2 x3 x4 x5 x6 x7 x8 x9 x10 x11 : Int32) (st : St), f_Be_layFrom_132 REC n x1 x2 x3 x4 x5 x6 x7 x8 x9 x10 x11 st = some out → j_i p l e (rm_Be_layFrom (dd + 1)) s m args below meth c sz D (WC ad cI) (LC ad) out 14 (WC ad cI st) [(0, .ref (ad 3)), (1, .int x1), (2, .int x2), (3, .int x3), (4, .int x4), (5, .int x5), (6, .int x6), (7, .int x7), (8, .int x8), (9, .int x9), (10, .int x10), (11, .int x11)] 132 [] := by
  induction n with
  | zero => intro x1 x2 x3 x4 x5 x6 x7 x8 x9 x10 x11 st hf; exact absurd (show (none : Option (Int32 × St)) = some out from hf) (fun h => by cases h)
  | succ n ih => intro x1 x2 x3 x4 x5 x6 x7 x8 x9 x10 x11 st hf; exact wb_Be_layFrom_132 N C hr hREC ih x1 x2 x3 x4 x5 x6 x7 x8 x9 x10 x11 st hf
set_option maxHeartbeats 4000000 in
set_option maxRecDepth 20000 in
theorem w_Be_layFrom_118 {p : Program} {l : Launch} {e : Env} {s : State} {m : MethodId} {args : Array Value} {below : List Frame} {meth : Method} {c : Code} {sz : Nat} {D : va_G} {ad : Nat → Nat} {cI : ClassId} {out : Int32 × St} {dd : Nat} (N : (LC ad).Nodup) (C : xC p s m args meth c (xA (LC ad) sz) D 14 (tyC cI) b_Be_layFrom R_Be) (hr : meth.sig.returnType = (some .boolean)) {REC : Int32 → Int32 → Int32 → Int32 → St → Option (Int32 × St)} (hREC : ∀ (x1 x2 x3 x4 : Int32) (st : St) (o : Int32 × St), REC x1 x2 x3 x4 st = some o → xMi l y_Be_layFrom b_Be_layFrom 14 (some .boolean) (rm_Be_layFrom dd) D (tyC cI) (WC ad cI) (LC ad) [.ref (ad 3), .int x1, .int x2, .int x3, .int x4] st o) (x1 x2 x3 x4 x5 x6 x7 x8 x9 : Int32) (st : St) (hf : f_Be_layFrom_118 REC x1 x2 x3 x4 x5 x6 x7 x8 x9 st = some out) : j_i p l e (rm_Be_layFrom (dd + 1)) s m args below meth c sz D (WC ad cI) (LC ad) out 14 (WC ad cI st) [(0, .ref (ad 3)), (1, .int x1), (2, .int x2), (3, .int x3), (4, .int x4), (5, .int x5), (6, .int x6), (7, .int x7), (8, .int x8), (9, .int x9)] 118 [] := by
  unfold f_Be_layFrom_118 at hf
  refine xj_iconst (v := 0) C d_Be_layFrom_118 rfl ?_
  refine xj_iload C d_Be_layFrom_119 5 rfl ?_
  refine xj_iconst (v := 0) C d_Be_layFrom_121 rfl ?_
  refine xj_iload C d_Be_layFrom_122 6 rfl ?_
  obtain ⟨o10, ho10, hf⟩ := xb_some hf
  refine xj_callSi (rest := []) C (c_Be_cells N ho10) Y_Be_cells i_Be_57 (by simp only [rm_Be_layFrom, rm_Be_cells]; omega) ⟨rfl, rfl⟩ rfl rfl (Nat.le_of_ble_eq_true rfl) d_Be_layFrom_124 (fun q h => Or.inl h) ?_
  refine xj_istore C d_Be_layFrom_127 (by decide) rfl ?_
  refine xj_iconst (v := 0) C d_Be_layFrom_129 rfl ?_
  refine xj_istore C d_Be_layFrom_130 (by decide) rfl ?_
  exact xj_lv [2, 3, 4, 5, 6, 7, 8, 9, 10, 11, 1, 0] rfl (w_Be_layFrom_132 N C hr hREC 40 x1 x2 x3 x4 x5 x6 x7 x8 x9 o10.1 0 o10.2 hf)
set_option maxHeartbeats 4000000 in
set_option maxRecDepth 20000 in
theorem w_Be_layFrom_102 {p : Program} {l : Launch} {e : Env} {s : State} {m : MethodId} {args : Array Value} {below : List Frame} {meth : Method} {c : Code} {sz : Nat} {D : va_G} {ad : Nat → Nat} {cI : ClassId} {out : Int32 × St} {dd : Nat} (N : (LC ad).Nodup) (C : xC p s m args meth c (xA (LC ad) sz) D 14 (tyC cI) b_Be_layFrom R_Be) (hr : meth.sig.returnType = (some .boolean)) {REC : Int32 → Int32 → Int32 → Int32 → St → Option (Int32 × St)} (hREC : ∀ (x1 x2 x3 x4 : Int32) (st : St) (o : Int32 × St), REC x1 x2 x3 x4 st = some o → xMi l y_Be_layFrom b_Be_layFrom 14 (some .boolean) (rm_Be_layFrom dd) D (tyC cI) (WC ad cI) (LC ad) [.ref (ad 3), .int x1, .int x2, .int x3, .int x4] st o) (x1 x2 x3 x4 x5 x6 x7 x8 y0 : Int32) (st : St) (hf : f_Be_layFrom_102 REC x1 x2 x3 x4 x5 x6 x7 x8 y0 st = some out) : j_i p l e (rm_Be_layFrom (dd + 1)) s m args below meth c sz D (WC ad cI) (LC ad) out 14 (WC ad cI st) [(0, .ref (ad 3)), (1, .int x1), (2, .int x2), (3, .int x3), (4, .int x4), (5, .int x5), (6, .int x6), (7, .int x7), (8, .int x8)] 102 [.int y0] := by
  unfold f_Be_layFrom_102 at hf
  refine xj_istore C d_Be_layFrom_102 (by decide) rfl ?_
  refine xj_aload_n C d_Be_layFrom_104 rfl 1 rfl ?_
  refine xj_get C g_Be_25 3 rfl rfl d_Be_layFrom_105 ?_
  refine xj_iload_n C d_Be_layFrom_108 rfl 2 rfl ?_
  obtain ⟨o9, ho9, hf⟩ := xb_some hf
  refine xj_callVi (rest := []) C (c_Fl_side N ho9) Y_Fl_side i_Be_54 2 rfl rfl (by simp only [rm_Be_layFrom, rm_Fl_side]; omega) ⟨rfl, rfl⟩ rfl rfl (Nat.le_of_ble_eq_true rfl) d_Be_layFrom_109 (fun q h => Or.inl h) ?_
  refine xj_if_ne (tgt := 118) C d_Be_layFrom_112 (by decide) (fun h9 => ?_) (fun h9 => ?_)
  · have hf := xi_neg h9 hf
    exact xj_lv [1, 2, 3, 4, 5, 6, 7, 8, 9, 0] rfl (w_Be_layFrom_118 N C hr hREC x1 x2 x3 x4 x5 x6 x7 x8 y0 o9.2 hf)
  · have hf := xi_pos h9 hf
    refine xj_iconst (v := 0) C d_Be_layFrom_115 rfl ?_
    refine xj_istore C d_Be_layFrom_116 (by decide) rfl ?_
    exact xj_lv [2, 3, 4, 5, 6, 7, 8, 9, 0, 1] rfl (w_Be_layFrom_118 N C hr hREC x1 x2 x3 x4 x5 x6 x7 0 y0 o9.2 hf)
set_option maxHeartbeats 4000000 in
set_option maxRecDepth 20000 in
theorem we_Be_layFrom {p : Program} {l : Launch} {e : Env} {s : State} {m : MethodId} {args : Array Value} {below : List Frame} {meth : Method} {c : Code} {sz : Nat} {D : va_G} {ad : Nat → Nat} {cI : ClassId} {out : Int32 × St} {dd : Nat} (N : (LC ad).Nodup) (C : xC p s m args meth c (xA (LC ad) sz) D 14 (tyC cI) b_Be_layFrom R_Be) (hr : meth.sig.returnType = (some .boolean)) {REC : Int32 → Int32 → Int32 → Int32 → St → Option (Int32 × St)} (hREC : ∀ (x1 x2 x3 x4 : Int32) (st : St) (o : Int32 × St), REC x1 x2 x3 x4 st = some o → xMi l y_Be_layFrom b_Be_layFrom 14 (some .boolean) (rm_Be_layFrom dd) D (tyC cI) (WC ad cI) (LC ad) [.ref (ad 3), .int x1, .int x2, .int x3, .int x4] st o) (x1 x2 x3 x4 : Int32) (st : St) (hf : fb_Be_layFrom REC x1 x2 x3 x4 st = some out) : j_i p l e (rm_Be_layFrom (dd + 1)) s m args below meth c sz D (WC ad cI) (LC ad) out 14 (WC ad cI st) [(0, .ref (ad 3)), (1, .int x1), (2, .int x2), (3, .int x3), (4, .int x4)] 0 [] := by
  unfold fb_Be_layFrom at hf
  refine xj_iload_n C d_Be_layFrom_0 rfl 1 rfl ?_
  refine xj_if_lt (tgt := 9) C d_Be_layFrom_1 (by decide) (fun h9 => ?_) (fun h9 => ?_)
  · have hf := xi_pos h9 hf
    refine xj_iconst (v := 1) C d_Be_layFrom_9 rfl ?_
    exact xj_zret C hr rfl hf d_Be_layFrom_10
  · have hf := xi_neg h9 hf
    refine xj_iload_n C d_Be_layFrom_4 rfl 1 rfl ?_
    refine xj_iconst (v := 4) C d_Be_layFrom_5 rfl ?_
    refine xj_icmp_lt (tgt := 11) C d_Be_layFrom_6 (by decide) (fun h9 => ?_) (fun h9 => ?_)
    · have hf := xi_pos h9 hf
      refine xj_iload_n C d_Be_layFrom_11 rfl 3 rfl ?_
      refine xj_iload_n C d_Be_layFrom_12 rfl 1 rfl ?_
      obtain ⟨o1, ho1, hf⟩ := xb_some hf
      refine xj_callSNi (rest := []) C (c_LR_holds N ho1) Y_LR_holds i_Be_37 (by simp only [rm_Be_layFrom, rm_LR_holds]; omega) ⟨rfl, rfl⟩ rfl rfl (Nat.le_of_ble_eq_true rfl) d_Be_layFrom_13 (fun q h => Or.inl h) ?_
      refine xj_if_ne (tgt := 31) C d_Be_layFrom_16 (by decide) (fun h9 => ?_) (fun h9 => ?_)
      · have hf := xi_neg h9 hf
        refine xj_aload_n C d_Be_layFrom_31 rfl 0 rfl ?_
        refine xj_get C g_Be_25 3 rfl rfl d_Be_layFrom_32 ?_
        refine xj_iload_n C d_Be_layFrom_35 rfl 1 rfl ?_
        obtain ⟨o2, ho2, hf⟩ := xb_some hf
        refine xj_callVi (rest := []) C (c_Fl_length N ho2) Y_Fl_length i_Be_41 2 rfl rfl (by simp only [rm_Be_layFrom, rm_Fl_length]; omega) ⟨rfl, rfl⟩ rfl rfl (Nat.le_of_ble_eq_true rfl) d_Be_layFrom_36 (fun q h => Or.inl h) ?_
        refine xj_istore C d_Be_layFrom_39 (by decide) rfl ?_
        refine xj_aload_n C d_Be_layFrom_41 rfl 1 rfl ?_
        refine xj_get C g_Be_25 3 rfl rfl d_Be_layFrom_42 ?_
        refine xj_iload_n C d_Be_layFrom_45 rfl 2 rfl ?_
        obtain ⟨o3, ho3, hf⟩ := xb_some hf
        refine xj_callVi (rest := []) C (c_Fl_width N ho3) Y_Fl_width i_Be_47 2 rfl rfl (by simp only [rm_Be_layFrom, rm_Fl_width]; omega) ⟨rfl, rfl⟩ rfl rfl (Nat.le_of_ble_eq_true rfl) d_Be_layFrom_46 (fun q h => Or.inl h) ?_
        refine xj_istore C d_Be_layFrom_49 (by decide) rfl ?_
        refine xj_aload_n C d_Be_layFrom_51 rfl 2 rfl ?_
        refine xj_get C g_Be_21 3 rfl rfl d_Be_layFrom_52 ?_
        refine xj_iload_n C d_Be_layFrom_55 rfl 4 rfl ?_
        obtain ⟨o4, ho4, hf⟩ := xb_some hf
        refine xj_callVi (rest := []) C (c_Ch_length N ho4) Y_Ch_length i_Be_50 1 rfl rfl (by simp only [rm_Be_layFrom, rm_Ch_length]; omega) ⟨rfl, rfl⟩ rfl rfl (Nat.le_of_ble_eq_true rfl) d_Be_layFrom_56 (fun q h => Or.inl h) ?_
        refine xj_iload C d_Be_layFrom_59 1 rfl ?_
        refine xj_isub C d_Be_layFrom_61 ?_
        refine xj_topi (fun v5 ev5 => ?_)
        have hf := xlet_at ev5 hf
        refine xj_istore C d_Be_layFrom_62 (by decide) rfl ?_
        refine xj_aload_n C d_Be_layFrom_64 rfl 3 rfl ?_
        refine xj_get C g_Be_21 3 rfl rfl d_Be_layFrom_65 ?_
        refine xj_iload_n C d_Be_layFrom_68 rfl 5 rfl ?_
        obtain ⟨o6, ho6, hf⟩ := xb_some hf
        refine xj_callVi (rest := []) C (c_Ch_width N ho6) Y_Ch_width i_Be_53 1 rfl rfl (by simp only [rm_Be_layFrom, rm_Ch_width]; omega) ⟨rfl, rfl⟩ rfl rfl (Nat.le_of_ble_eq_true rfl) d_Be_layFrom_69 (fun q h => Or.inl h) ?_
        refine xj_iload C d_Be_layFrom_72 1 rfl ?_
        refine xj_isub C d_Be_layFrom_74 ?_
        refine xj_topi (fun v7 ev7 => ?_)
        have hf := xlet_at ev7 hf
        refine xj_istore C d_Be_layFrom_75 (by decide) rfl ?_
        refine xj_iload C d_Be_layFrom_77 0 rfl ?_
        refine xj_if_ge (tgt := 84) C d_Be_layFrom_79 (by decide) (fun h9 => ?_) (fun h9 => ?_)
        · have hf := xi_pos h9 hf
          refine xj_aload_n C d_Be_layFrom_84 rfl 4 rfl ?_
          refine xj_get C g_Be_25 3 rfl rfl d_Be_layFrom_85 ?_
          refine xj_iload_n C d_Be_layFrom_88 rfl 5 rfl ?_
          obtain ⟨o8, ho8, hf⟩ := xb_some hf
          refine xj_callVi (rest := []) C (c_Fl_side N ho8) Y_Fl_side i_Be_54 2 rfl rfl (by simp only [rm_Be_layFrom, rm_Fl_side]; omega) ⟨rfl, rfl⟩ rfl rfl (Nat.le_of_ble_eq_true rfl) d_Be_layFrom_89 (fun q h => Or.inl h) ?_
          refine xj_iconst (v := 1) C d_Be_layFrom_92 rfl ?_
          refine xj_icmp_ne (tgt := 101) C d_Be_layFrom_93 (by decide) (fun h9 => ?_) (fun h9 => ?_)
          · have hf := xi_neg h9 hf
            refine xj_iconst (v := 0) C d_Be_layFrom_101 rfl ?_
            exact xj_lv [4, 5, 6, 7, 8, 3, 2, 1, 0] rfl (w_Be_layFrom_102 N C hr hREC x1 x2 x3 x4 o2.1 o3.1 v5 v7 0 o8.2 hf)
          · have hf := xi_pos h9 hf
            refine xj_iload C d_Be_layFrom_96 0 rfl ?_
            refine xj_goto (tgt := 102) C d_Be_layFrom_98 (by decide) ?_
            exact xj_lv [4, 5, 6, 7, 8, 3, 2, 1, 0] rfl (w_Be_layFrom_102 N C hr hREC x1 x2 x3 x4 o2.1 o3.1 v5 v7 v7 o8.2 hf)
        · have hf := xi_neg h9 hf
          refine xj_iconst (v := 0) C d_Be_layFrom_82 rfl ?_
          exact xj_zret C hr rfl hf d_Be_layFrom_83
      · have hf := xi_pos h9 hf
        refine xj_aload_n C d_Be_layFrom_19 rfl 0 rfl ?_
        refine xj_iload_n C d_Be_layFrom_20 rfl 1 rfl ?_
        refine xj_iconst (v := 1) C d_Be_layFrom_21 rfl ?_
        refine xj_iadd C d_Be_layFrom_22 ?_
        refine xj_iload_n C d_Be_layFrom_23 rfl 2 rfl ?_
        refine xj_iload_n C d_Be_layFrom_24 rfl 3 rfl ?_
        refine xj_iload C d_Be_layFrom_25 4 rfl ?_
        obtain ⟨o17, ho17, hf⟩ := xb_some hf
        refine xj_callVi (rest := []) C (hREC (x1 + 1) x2 x3 x4 o1.2 o17 ho17) Y_Be_layFrom i_Be_33 3 rfl rfl (xroom_rec_Be_layFrom dd) ⟨rfl, rfl⟩ rfl rfl (Nat.le_of_ble_eq_true rfl) d_Be_layFrom_27 (fun q h => Or.inl h) ?_
        obtain ⟨g18, hf⟩ := xb_guard hf
        exact xj_zret C hr (xb_narrow g18) hf d_Be_layFrom_30
    · have hf := xi_neg h9 hf
      refine xj_iconst (v := 1) C d_Be_layFrom_9 rfl ?_
      exact xj_zret C hr rfl hf d_Be_layFrom_10
