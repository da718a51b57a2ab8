set_option maxHeartbeats 4000000 in
set_option maxRecDepth 20000 in
theorem c_Be_layFrom {l : Launch} {D : va_G} {ad : Nat → Nat} {cI : ClassId} (N : (LC ad).Nodup) (d : Nat) : ∀ {x1 x2 x3 x4 : Int32} {st : St} {out : Int32 × St}, f_Be_layFrom d x1 x2 x3 x4 st = some out → xMi l y_Be_layFrom b_Be_layFrom 14 (some .boolean) (rm_Be_layFrom d) D (tyC cI) (WC ad cI) (LC ad) [.ref (ad 3), .int x1, .int x2, .int x3, .int x4] st out := by
  induction d with
  | zero => intro x1 x2 x3 x4 st out hf; exact absurd (show (none : Option (Int32 × St)) = some out from hf) (fun h => by cases h)
  | succ dd ih =>
    intro x1 x2 x3 x4 st out hf
    have hREC : ∀ (x1 x2 x3 x4 : Int32) (st : St) (o : Int32 × St), f_Be_layFrom dd x1 x2 x3 x4 st = some o → xMi l y_Be_layFrom b_Be_layFrom 14 (some .boolean) (rm_Be_layFrom dd) D (tyC cI) (WC ad cI) (LC ad) [.ref (ad 3), .int x1, .int x2, .int x3, .int x4] st o := fun x1 x2 x3 x4 st o h => ih h
    exact fun sz => xM_of (L := LC ad) (by decide) (Nat.le_of_ble_eq_true rfl) (fun p e s m below meth c hsz hr C => we_Be_layFrom N C hr hREC x1 x2 x3 x4 st hf)
set_option maxHeartbeats 4000000 in
set_option maxRecDepth 20000 in
theorem w_Be_canLay_59 {p : Program} {l : Launch} {e : Env} {s : State} {m : MethodId} {args : Array Value} {below : List Frame} {meth : Method} {c : Code} {sz : Nat} {D : va_G} {ad : Nat → Nat} {cI : ClassId} {out : Int32 × St} (N : (LC ad).Nodup) (C : xC p s m args meth c (xA (LC ad) sz) D 4 (tyC cI) b_Be_canLay R_Be) (hr : meth.sig.returnType = (some .boolean)) (x3 y0 y1 : Int32) (st : St) (hf : f_Be_canLay_59 x3 y0 y1 st = some out) : j_i p l e rm_Be_canLay s m args below meth c sz D (WC ad cI) (LC ad) out 4 (WC ad cI st) [(0, .ref (ad 3)), (3, .int x3)] 59 [.int y0, .int y1, .ref (ad 21)] := by
  unfold f_Be_canLay_59 at hf
  obtain ⟨g5, hf⟩ := xb_guard hf
  obtain ⟨s6, es6, hf⟩ := xlet_ex hf
  refine xj_iast (ws' := WC ad cI s6) C (WC_D N sz _) 21 0 rfl rfl g5 d_Be_canLay_59 (by rw [es6]; rfl) ?_
  exact xj_lv [0, 1] rfl (w_Be_canLay_60 N C hr x3 s6 hf)
set_option maxHeartbeats 4000000 in
set_option maxRecDepth 20000 in
theorem c_Be_canLay {l : Launch} {D : va_G} {ad : Nat → Nat} {cI : ClassId} (N : (LC ad).Nodup) {x1 x2 : Int32} {st : St} {out : Int32 × St} (hf : f_Be_canLay x1 x2 st = some out) : xMi l y_Be_canLay b_Be_canLay 4 (some .boolean) rm_Be_canLay D (tyC cI) (WC ad cI) (LC ad) [.ref (ad 3), .int x1, .int x2] st out := by
  intro sz
  refine xM_of (L := LC ad) (by decide) (Nat.le_of_ble_eq_true rfl) (fun p e s m below meth c hsz hr C => ?_)
  show j_i p l e rm_Be_canLay s m _ below meth c sz D (WC ad cI) (LC ad) out 4 (WC ad cI st) [(0, .ref (ad 3)), (1, .int x1), (2, .int x2)] 0 []
  unfold f_Be_canLay at hf
  refine xj_aload_n C d_Be_canLay_0 rfl 0 rfl ?_
  refine xj_get C g_Be_29 3 rfl rfl d_Be_canLay_1 ?_
  refine xj_iconst (v := 2) C d_Be_canLay_4 rfl ?_
  refine xj_imul C d_Be_canLay_5 ?_
  refine xj_iload_n C d_Be_canLay_6 rfl 1 rfl ?_
  refine xj_iadd C d_Be_canLay_7 ?_
  refine xj_bipush (v := 16) C d_Be_canLay_8 rfl ?_
  refine xj_imul C d_Be_canLay_10 ?_
  refine xj_iload_n C d_Be_canLay_11 rfl 2 rfl ?_
  refine xj_iadd C d_Be_canLay_12 ?_
  refine xj_topi (fun v1 ev1 => ?_)
  have hf := xlet_at ev1 hf
  refine xj_istore_n C d_Be_canLay_13 rfl (by decide) rfl ?_
  refine xj_iload_n C d_Be_canLay_14 rfl 0 rfl ?_
  refine xj_if_lt (tgt := 27) C d_Be_canLay_15 (by decide) (fun h9 => ?_) (fun h9 => ?_)
  · have hf := xi_pos h9 hf
    refine xj_iconst (v := 0) C d_Be_canLay_27 rfl ?_
    exact xj_zret C hr rfl hf d_Be_canLay_28
  · have hf := xi_neg h9 hf
    refine xj_iload_n C d_Be_canLay_18 rfl 0 rfl ?_
    refine xj_aload_n C d_Be_canLay_19 rfl 1 rfl ?_
    refine xj_get C g_Be_18 3 rfl rfl d_Be_canLay_20 ?_
    refine xj_alen (v := 128) C 21 0 rfl rfl rfl d_Be_canLay_23 ?_
    refine xj_icmp_lt (tgt := 29) C d_Be_canLay_24 (by decide) (fun h9 => ?_) (fun h9 => ?_)
    · have hf := xi_pos h9 hf
      refine xj_aload_n C d_Be_canLay_29 rfl 1 rfl ?_
      refine xj_get C g_Be_18 3 rfl rfl d_Be_canLay_30 ?_
      refine xj_iload_n C d_Be_canLay_33 rfl 0 rfl ?_
      obtain ⟨g2, hf⟩ := xb_guard hf
      refine xj_iald C 21 0 rfl rfl g2 d_Be_canLay_34 ?_
      refine xj_if_ne (tgt := 60) C d_Be_canLay_35 (by decide) (fun h9 => ?_) (fun h9 => ?_)
      · have hf := xi_neg h9 hf
        exact xj_lv [1, 0] rfl (w_Be_canLay_60 N C hr v1 st hf)
      · have hf := xi_pos h9 hf
        refine xj_aload_n C d_Be_canLay_38 rfl 1 rfl ?_
        refine xj_get C g_Be_18 3 rfl rfl d_Be_canLay_39 ?_
        refine xj_iload_n C d_Be_canLay_42 rfl 0 rfl ?_
        refine xj_aload_n C d_Be_canLay_43 rfl 1 rfl ?_
        refine xj_iconst (v := 0) C d_Be_canLay_44 rfl ?_
        refine xj_iload_n C d_Be_canLay_45 rfl 2 rfl ?_
        refine xj_iload_n C d_Be_canLay_46 rfl 3 rfl ?_
        refine xj_iconst (v := 0) C d_Be_canLay_47 rfl ?_
        obtain ⟨o4, ho4, hf⟩ := xb_some hf
        refine xj_callVi (rest := [.int v1, .ref (ad 21)]) C (c_Be_layFrom N 5 ho4) Y_Be_layFrom i_Be_33 3 rfl rfl (by decide) ⟨rfl, rfl⟩ rfl rfl (Nat.le_of_ble_eq_true rfl) d_Be_canLay_48 (fun q h => Or.inl h) ?_
        refine xj_if_eq (tgt := 58) C d_Be_canLay_51 (by decide) (fun h9 => ?_) (fun h9 => ?_)
        · have hf := xi_pos h9 hf
          refine xj_iconst (v := 2) C d_Be_canLay_58 rfl ?_
          exact xj_lv [1, 0] rfl (w_Be_canLay_59 N C hr v1 2 v1 o4.2 hf)
        · have hf := xi_neg h9 hf
          refine xj_iconst (v := 1) C d_Be_canLay_54 rfl ?_
          refine xj_goto (tgt := 59) C d_Be_canLay_55 (by decide) ?_
          exact xj_lv [1, 0] rfl (w_Be_canLay_59 N C hr v1 1 v1 o4.2 hf)
    · have hf := xi_neg h9 hf
      refine xj_iconst (v := 0) C d_Be_canLay_27 rfl ?_
      exact xj_zret C hr rfl hf d_Be_canLay_28
set_option maxHeartbeats 4000000 in
set_option maxRecDepth 20000 in
theorem c_Pl_canRun {l : Launch} {D : va_G} {ad : Nat → Nat} {cI : ClassId} (N : (LC ad).Nodup) {x1 x2 : Int32} {st : St} {out : Int32 × St} (hf : f_Pl_canRun x1 x2 st = some out) : xMi l y_Pl_canRun b_Pl_canRun 3 (some .boolean) rm_Pl_canRun D (tyC cI) (WC ad cI) (LC ad) [.ref (ad 4), .int x1, .int x2] st out := by
  intro sz
  refine xM_of (L := LC ad) (by decide) (Nat.le_of_ble_eq_true rfl) (fun p e s m below meth c hsz hr C => ?_)
  show j_i p l e rm_Pl_canRun s m _ below meth c sz D (WC ad cI) (LC ad) out 3 (WC ad cI st) [(0, .ref (ad 4)), (1, .int x1), (2, .int x2)] 0 []
  unfold f_Pl_canRun at hf
  refine xj_aload_n C d_Pl_canRun_0 rfl 0 rfl ?_
  refine xj_get C g_Pl_32 4 rfl rfl d_Pl_canRun_1 ?_
  refine xj_iload_n C d_Pl_canRun_4 rfl 2 rfl ?_
  obtain ⟨o1, ho1, hf⟩ := xb_some hf
  refine xj_callVi (rest := []) C (c_Fl_commonDirection N ho1) Y_Fl_commonDirection i_Pl_83 2 rfl rfl (by decide) ⟨rfl, rfl⟩ rfl rfl (Nat.le_of_ble_eq_true rfl) d_Pl_canRun_5 (fun q h => Or.inl h) ?_
  refine xj_iconst (v := (-1)) C d_Pl_canRun_8 rfl ?_
  refine xj_icmp_eq (tgt := 28) C d_Pl_canRun_9 (by decide) (fun h9 => ?_) (fun h9 => ?_)
  · have hf := xi_pos h9 hf
    refine xj_iconst (v := 0) C d_Pl_canRun_28 rfl ?_
    exact xj_zret C hr rfl hf d_Pl_canRun_29
  · have hf := xi_neg h9 hf
    refine xj_aload_n C d_Pl_canRun_12 rfl 0 rfl ?_
    refine xj_get C g_Pl_36 4 rfl rfl d_Pl_canRun_13 ?_
    refine xj_iload_n C d_Pl_canRun_16 rfl 1 rfl ?_
    refine xj_iload_n C d_Pl_canRun_17 rfl 2 rfl ?_
    obtain ⟨o2, ho2, hf⟩ := xb_some hf
    refine xj_callVi (rest := []) C (c_Be_canLay N ho2) Y_Be_canLay i_Pl_104 3 rfl rfl (by decide) ⟨rfl, rfl⟩ rfl rfl (Nat.le_of_ble_eq_true rfl) d_Pl_canRun_18 (fun q h => Or.inl h) ?_
    refine xj_if_eq (tgt := 28) C d_Pl_canRun_21 (by decide) (fun h9 => ?_) (fun h9 => ?_)
    · have hf := xi_pos h9 hf
      refine xj_iconst (v := 0) C d_Pl_canRun_28 rfl ?_
      exact xj_zret C hr rfl hf d_Pl_canRun_29
    · have hf := xi_neg h9 hf
      refine xj_iconst (v := 1) C d_Pl_canRun_24 rfl ?_
      refine xj_goto (tgt := 29) C d_Pl_canRun_25 (by decide) ?_
      exact xj_zret C hr rfl hf d_Pl_canRun_29
set_option maxHeartbeats 4000000 in
set_option maxRecDepth 20000 in
theorem w_Fl_lastArrival_28 {p : Program} {l : Launch} {e : Env} {s : State} {m : MethodId} {args : Array Value} {below : List Frame} {meth : Method} {c : Code} {sz : Nat} {D : va_G} {ad : Nat → Nat} {cI : ClassId} {out : Int32 × St} (N : (LC ad).Nodup) (C : xC p s m args meth c (xA (LC ad) sz) D 4 (tyC cI) b_Fl_lastArrival R_Fl) (hr : meth.sig.returnType = (some .int)) {K4 : Int32 → Int32 → Int32 → St → Option (Int32 × St)} (hK4 : ∀ (x1 x2 x3 : Int32) (st : St), K4 x1 x2 x3 st = some out → j_i p l e rm_Fl_lastArrival s m args below meth c sz D (WC ad cI) (LC ad) out 4 (WC ad cI st) [(0, .ref (ad 2)), (1, .int x1), (2, .int x2), (3, .int x3)] 4 []) (x1 x2 x3 : Int32) (st : St) (hf : f_Fl_lastArrival_28 K4 x1 x2 x3 st = some out) : j_i p l e rm_Fl_lastArrival s m args below meth c sz D (WC ad cI) (LC ad) out 4 (WC ad cI st) [(0, .ref (ad 2)), (1, .int x1), (2, .int x2), (3, .int x3)] 28 [] := by
  unfold f_Fl_lastArrival_28 at hf
  refine xj_iinc (v := x3 + 1) (j := 3) C d_Fl_lastArrival_28 rfl rfl (by decide) rfl ?_
  refine xj_goto (tgt := 4) C d_Fl_lastArrival_31 (by decide) ?_
  exact xj_lv [1, 2, 3, 0] rfl (hK4 x1 x2 (x3 + 1) st hf)
set_option maxHeartbeats 4000000 in
set_option maxRecDepth 20000 in
theorem wb_Fl_lastArrival_4 {p : Program} {l : Launch} {e : Env} {s : State} {m : MethodId} {args : Array Value} {below : List Frame} {meth : Method} {c : Code} {sz : Nat} {D : va_G} {ad : Nat → Nat} {cI : ClassId} {out : Int32 × St} (N : (LC ad).Nodup) (C : xC p s m args meth c (xA (LC ad) sz) D 4 (tyC cI) b_Fl_lastArrival R_Fl) (hr : meth.sig.returnType = (some .int)) {K4 : Int32 → Int32 → Int32 → St → Option (Int32 × St)} (hK4 : ∀ (x1 x2 x3 : Int32) (st : St), K4 x1 x2 x3 st = some out → j_i p l e rm_Fl_lastArrival s m args below meth c sz D (WC ad cI) (LC ad) out 4 (WC ad cI st) [(0, .ref (ad 2)), (1, .int x1), (2, .int x2), (3, .int x3)] 4 []) (x1 x2 x3 : Int32) (st : St) (hf : b_Fl_lastArrival_4 K4 x1 x2 x3 st = some out) : j_i p l e rm_Fl_lastArrival s m args below meth c sz D (WC ad cI) (LC ad) out 4 (WC ad cI st) [(0, .ref (ad 2)), (1, .int x1), (2, .int x2), (3, .int x3)] 4 [] := by
  unfold b_Fl_lastArrival_4 at hf
  refine xj_iload_n C d_Fl_lastArrival_4 rfl 3 rfl ?_
  refine xj_iconst (v := 4) C d_Fl_lastArrival_5 rfl ?_
  refine xj_icmp_ge (tgt := 34) C d_Fl_lastArrival_6 (by decide) (fun h9 => ?_) (fun h9 => ?_)
  · have hf := xi_pos h9 hf
    refine xj_iload_n C d_Fl_lastArrival_34 rfl 2 rfl ?_
    exact xj_iret C hr hf d_Fl_lastArrival_35
  · have hf := xi_neg h9 hf
    refine xj_iload_n C d_Fl_lastArrival_9 rfl 1 rfl ?_
    refine xj_iload_n C d_Fl_lastArrival_10 rfl 3 rfl ?_
    obtain ⟨o1, ho1, hf⟩ := xb_some hf
    refine xj_callSNi (rest := []) C (c_LR_holds N ho1) Y_LR_holds i_Fl_35 (by decide) ⟨rfl, rfl⟩ rfl rfl (Nat.le_of_ble_eq_true rfl) d_Fl_lastArrival_11 (fun q h => Or.inl h) ?_
    refine xj_if_eq (tgt := 28) C d_Fl_lastArrival_14 (by decide) (fun h9 => ?_) (fun h9 => ?_)
    · have hf := xi_pos h9 hf
      exact xj_lv [0, 1, 2, 3] rfl (w_Fl_lastArrival_28 N C hr hK4 x1 x2 x3 o1.2 hf)
    · have hf := xi_neg h9 hf
      refine xj_iload_n C d_Fl_lastArrival_17 rfl 2 rfl ?_
      refine xj_aload_n C d_Fl_lastArrival_18 rfl 0 rfl ?_
      refine xj_get C g_Fl_18 2 rfl rfl d_Fl_lastArrival_19 ?_
      refine xj_iload_n C d_Fl_lastArrival_22 rfl 3 rfl ?_
      obtain ⟨g2, hf⟩ := xb_guard hf
      refine xj_iald C 16 0 rfl rfl g2 d_Fl_lastArrival_23 ?_
      refine xj_mmax C mm_Fl_39 (by decide) (Nat.le_of_ble_eq_true rfl) d_Fl_lastArrival_24 ?_
      refine xj_topi (fun v3 ev3 => ?_)
      have hf := xlet_at ev3 hf
      refine xj_istore_n C d_Fl_lastArrival_27 rfl (by decide) rfl ?_
      exact xj_lv [1, 2, 0, 3] rfl (w_Fl_lastArrival_28 N C hr hK4 x1 v3 x3 o1.2 hf)
set_option maxHeartbeats 4000000 in
set_option maxRecDepth 20000 in
theorem w_Fl_lastArrival_4 {p : Program} {l : Launch} {e : Env} {s : State} {m : MethodId} {args : Array Value} {below : List Frame} {meth : Method} {c : Code} {sz : Nat} {D : va_G} {ad : Nat → Nat} {cI : ClassId} {out : Int32 × St} (N : (LC ad).Nodup) (C : xC p s m args meth c (xA (LC ad) sz) D 4 (tyC cI) b_Fl_lastArrival R_Fl) (hr : meth.sig.returnType = (some .int)) (n : Nat) : ∀ (x1 x2 x3 : Int32) (st : St), f_Fl_lastArrival_4 n x1 x2 x3 st = some out → j_i p l e rm_Fl_lastArrival s m args below meth c sz D (WC ad cI) (LC ad) out 4 (WC ad cI st) [(0, .ref (ad 2)), (1, .int x1), (2, .int x2), (3, .int x3)] 4 [] := by
  induction n with
  | zero => intro x1 x2 x3 st hf; exact absurd (show (none : Option (Int32 × St)) = some out from hf) (fun h => by cases h)
  | succ n ih => intro x1 x2 x3 st hf; exact wb_Fl_lastArrival_4 N C hr ih x1 x2 x3 st hf
set_option maxHeartbeats 4000000 in
set_option maxRecDepth 20000 in
theorem c_Fl_lastArrival {l : Launch} {D : va_G} {ad : Nat → Nat} {cI : ClassId} (N : (LC ad).Nodup) {x1 : Int32} {st : St} {out : Int32 × St} (hf : f_Fl_lastArrival x1 st = some out) : xMi l y_Fl_lastArrival b_Fl_lastArrival 4 (some .int) rm_Fl_lastArrival D (tyC cI) (WC ad cI) (LC ad) [.ref (ad 2), .int x1] st out := by
  intro sz
  refine xM_of (L := LC ad) (by decide) (Nat.le_of_ble_eq_true rfl) (fun p e s m below meth c hsz hr C => ?_)
  show j_i p l e rm_Fl_lastArrival s m _ below meth c sz D (WC ad cI) (LC ad) out 4 (WC ad cI st) [(0, .ref (ad 2)), (1, .int x1)] 0 []
  unfold f_Fl_lastArrival at hf
  refine xj_iconst (v := 0) C d_Fl_lastArrival_0 rfl ?_
  refine xj_istore_n C d_Fl_lastArrival_1 rfl (by decide) rfl ?_
  refine xj_iconst (v := 0) C d_Fl_lastArrival_2 rfl ?_
  refine xj_istore_n C d_Fl_lastArrival_3 rfl (by decide) rfl ?_
  exact xj_lv [2, 3, 1, 0] rfl (w_Fl_lastArrival_4 N C hr 40 x1 0 0 st hf)
set_option maxHeartbeats 4000000 in
set_option maxRecDepth 20000 in
theorem w_Ch_pastSpans_74 {p : Program} {l : Launch} {e : Env} {s : State} {m : MethodId} {args : Array Value} {below : List Frame} {meth : Method} {c : Code} {sz : Nat} {D : va_G} {ad : Nat → Nat} {cI : ClassId} {out : Int32 × St} (N : (LC ad).Nodup) (C : xC p s m args meth c (xA (LC ad) sz) D 6 (tyC cI) b_Ch_pastSpans R_Ch) (hr : meth.sig.returnType = (some .int)) {K12 : Int32 → Int32 → Int32 → Int32 → St → Option (Int32 × St)} (hK12 : ∀ (x1 x3 x4 x5 : Int32) (st : St), K12 x1 x3 x4 x5 st = some out → j_i p l e rm_Ch_pastSpans s m args below meth c sz D (WC ad cI) (LC ad) out 6 (WC ad cI st) [(0, .ref (ad 1)), (1, .int x1), (3, .int x3), (4, .int x4), (5, .int x5)] 12 []) (x1 x3 x4 x5 : Int32) (st : St) (hf : f_Ch_pastSpans_74 K12 x1 x3 x4 x5 st = some out) : j_i p l e rm_Ch_pastSpans s m args below meth c sz D (WC ad cI) (LC ad) out 6 (WC ad cI st) [(0, .ref (ad 1)), (1, .int x1), (3, .int x3), (4, .int x4), (5, .int x5)] 74 [] := by
  unfold f_Ch_pastSpans_74 at hf
  refine xj_iinc (v := x5 + 1) (j := 4) C d_Ch_pastSpans_74 rfl rfl (by decide) rfl ?_
  refine xj_goto (tgt := 12) C d_Ch_pastSpans_77 (by decide) ?_
  exact xj_lv [1, 2, 3, 4, 0] rfl (hK12 x1 x3 x4 (x5 + 1) st hf)
set_option maxHeartbeats 4000000 in
set_option maxRecDepth 20000 in
theorem wb_Ch_pastSpans_12 {p : Program} {l : Launch} {e : Env} {s : State} {m : MethodId} {args : Array Value} {below : List Frame} {meth : Method} {c : Code} {sz : Nat} {D : va_G} {ad : Nat → Nat} {cI : ClassId} {out : Int32 × St} (N : (LC ad).Nodup) (C : xC p s m args meth c (xA (LC ad) sz) D 6 (tyC cI) b_Ch_pastSpans R_Ch) (hr : meth.sig.returnType = (some .int)) {K12 : Int32 → Int32 → Int32 → Int32 → St → Option (Int32 × St)} (hK12 : ∀ (x1 x3 x4 x5 : Int32) (st : St), K12 x1 x3 x4 x5 st = some out → j_i p l e rm_Ch_pastSpans s m args below meth c sz D (WC ad cI) (LC ad) out 6 (WC ad cI st) [(0, .ref (ad 1)), (1, .int x1), (3, .int x3), (4, .int x4), (5, .int x5)] 12 []) (x1 x3 x4 x5 : Int32) (st : St) (hf : b_Ch_pastSpans_12 K12 x1 x3 x4 x5 st = some out) : j_i p l e rm_Ch_pastSpans s m args below meth c sz D (WC ad cI) (LC ad) out 6 (WC ad cI st) [(0, .ref (ad 1)), (1, .int x1), (3, .int x3), (4, .int x4), (5, .int x5)] 12 [] := by
  unfold b_Ch_pastSpans_12 at hf
  refine xj_iload C d_Ch_pastSpans_12 4 rfl ?_
  refine xj_bipush (v := 8) C d_Ch_pastSpans_14 rfl ?_
  refine xj_icmp_ge (tgt := 80) C d_Ch_pastSpans_16 (by decide) (fun h9 => ?_) (fun h9 => ?_)
  · have hf := xi_pos h9 hf
    refine xj_iload C d_Ch_pastSpans_80 3 rfl ?_
    exact xj_iret C hr hf d_Ch_pastSpans_82
  · have hf := xi_neg h9 hf
    refine xj_iload C d_Ch_pastSpans_19 4 rfl ?_
    refine xj_aload_n C d_Ch_pastSpans_21 rfl 0 rfl ?_
    refine xj_get C g_Ch_34 1 rfl rfl d_Ch_pastSpans_22 ?_
    refine xj_icmp_ge (tgt := 80) C d_Ch_pastSpans_25 (by decide) (fun h9 => ?_) (fun h9 => ?_)
    · have hf := xi_pos h9 hf
      refine xj_iload C d_Ch_pastSpans_80 3 rfl ?_
      exact xj_iret C hr hf d_Ch_pastSpans_82
    · have hf := xi_neg h9 hf
      refine xj_aload_n C d_Ch_pastSpans_28 rfl 0 rfl ?_
      refine xj_get C g_Ch_21 1 rfl rfl d_Ch_pastSpans_29 ?_
      refine xj_iload C d_Ch_pastSpans_32 4 rfl ?_
      obtain ⟨g2, hf⟩ := xb_guard hf
      refine xj_iald C 11 0 rfl rfl g2 d_Ch_pastSpans_34 ?_
      refine xj_iload_n C d_Ch_pastSpans_35 rfl 1 rfl ?_
      refine xj_icmp_ne (tgt := 74) C d_Ch_pastSpans_36 (by decide) (fun h9 => ?_) (fun h9 => ?_)
      · have hf := xi_neg h9 hf
        exact xj_lv [0, 1, 2, 3, 4] rfl (w_Ch_pastSpans_74 N C hr hK12 x1 x3 x4 x5 st hf)
      · have hf := xi_pos h9 hf
        refine xj_iload C d_Ch_pastSpans_39 3 rfl ?_
        refine xj_aload_n C d_Ch_pastSpans_41 rfl 0 rfl ?_
        refine xj_get C g_Ch_27 1 rfl rfl d_Ch_pastSpans_42 ?_
        refine xj_iload C d_Ch_pastSpans_45 4 rfl ?_
        obtain ⟨g3, hf⟩ := xb_guard hf
        refine xj_iald C 13 0 rfl rfl g3 d_Ch_pastSpans_47 ?_
        refine xj_icmp_ge (tgt := 74) C d_Ch_pastSpans_48 (by decide) (fun h9 => ?_) (fun h9 => ?_)
        · have hf := xi_pos h9 hf
          exact xj_lv [0, 1, 2, 3, 4] rfl (w_Ch_pastSpans_74 N C hr hK12 x1 x3 x4 x5 st hf)
        · have hf := xi_neg h9 hf
          refine xj_iload C d_Ch_pastSpans_51 3 rfl ?_
          refine xj_iload_n C d_Ch_pastSpans_53 rfl 2 rfl ?_
          refine xj_iadd C d_Ch_pastSpans_54 ?_
          refine xj_aload_n C d_Ch_pastSpans_55 rfl 0 rfl ?_
          refine xj_get C g_Ch_24 1 rfl rfl d_Ch_pastSpans_56 ?_
          refine xj_iload C d_Ch_pastSpans_59 4 rfl ?_
          obtain ⟨g4, hf⟩ := xb_guard hf
          refine xj_iald C 12 0 rfl rfl g4 d_Ch_pastSpans_61 ?_
          refine xj_icmp_le (tgt := 74) C d_Ch_pastSpans_62 (by decide) (fun h9 => ?_) (fun h9 => ?_)
          · have hf := xi_pos h9 hf
            exact xj_lv [0, 1, 2, 3, 4] rfl (w_Ch_pastSpans_74 N C hr hK12 x1 x3 x4 x5 st hf)
          · have hf := xi_neg h9 hf
            refine xj_aload_n C d_Ch_pastSpans_65 rfl 0 rfl ?_
            refine xj_get C g_Ch_27 1 rfl rfl d_Ch_pastSpans_66 ?_
            refine xj_iload C d_Ch_pastSpans_69 4 rfl ?_
            obtain ⟨g5, hf⟩ := xb_guard hf
            refine xj_iald C 13 0 rfl rfl g5 d_Ch_pastSpans_71 ?_
            refine xj_topi (fun v6 ev6 => ?_)
            have hf := xlet_at ev6 hf
            refine xj_istore C d_Ch_pastSpans_72 (by decide) rfl ?_
            exact xj_lv [1, 2, 3, 0, 4] rfl (w_Ch_pastSpans_74 N C hr hK12 x1 x3 v6 x5 st hf)
set_option maxHeartbeats 4000000 in
set_option maxRecDepth 20000 in
theorem w_Ch_pastSpans_12 {p : Program} {l : Launch} {e : Env} {s : State} {m : MethodId} {args : Array Value} {below : List Frame} {meth : Method} {c : Code} {sz : Nat} {D : va_G} {ad : Nat → Nat} {cI : ClassId} {out : Int32 × St} (N : (LC ad).Nodup) (C : xC p s m args meth c (xA (LC ad) sz) D 6 (tyC cI) b_Ch_pastSpans R_Ch) (hr : meth.sig.returnType = (some .int)) (n : Nat) : ∀ (x1 x3 x4 x5 : Int32) (st : St), f_Ch_pastSpans_12 n x1 x3 x4 x5 st = some out → j_i p l e rm_Ch_pastSpans s m args below meth c sz D (WC ad cI) (LC ad) out 6 (WC ad cI st) [(0, .ref (ad 1)), (1, .int x1), (3, .int x3), (4, .int x4), (5, .int x5)] 12 [] := by
  induction n with
  | zero => intro x1 x3 x4 x5 st hf; exact absurd (show (none : Option (Int32 × St)) = some out from hf) (fun h => by cases h)
  | succ n ih => intro x1 x3 x4 x5 st hf; exact wb_Ch_pastSpans_12 N C hr ih x1 x3 x4 x5 st hf
set_option maxHeartbeats 4000000 in
set_option maxRecDepth 20000 in
theorem c_Ch_pastSpans {l : Launch} {D : va_G} {ad : Nat → Nat} {cI : ClassId} (N : (LC ad).Nodup) {x1 x2 : Int32} {st : St} {out : Int32 × St} (hf : f_Ch_pastSpans x1 x2 st = some out) : xMi l y_Ch_pastSpans b_Ch_pastSpans 6 (some .int) rm_Ch_pastSpans D (tyC cI) (WC ad cI) (LC ad) [.ref (ad 1), .int x1, .int x2] st out := by
  intro sz
  refine xM_of (L := LC ad) (by decide) (Nat.le_of_ble_eq_true rfl) (fun p e s m below meth c hsz hr C => ?_)
  show j_i p l e rm_Ch_pastSpans s m _ below meth c sz D (WC ad cI) (LC ad) out 6 (WC ad cI st) [(0, .ref (ad 1)), (1, .int x1), (2, .int x2)] 0 []
  unfold f_Ch_pastSpans at hf
  refine xj_aload_n C d_Ch_pastSpans_0 rfl 0 rfl ?_
  refine xj_iload_n C d_Ch_pastSpans_1 rfl 1 rfl ?_
  obtain ⟨o1, ho1, hf⟩ := xb_some hf
  refine xj_callVi (rest := []) C (c_Ch_fill N ho1) Y_Ch_fill i_Ch_45 1 rfl rfl (by decide) ⟨rfl, rfl⟩ rfl rfl (Nat.le_of_ble_eq_true rfl) d_Ch_pastSpans_2 (fun q h => Or.inl h) ?_
  refine xj_istore_n C d_Ch_pastSpans_5 rfl (by decide) rfl ?_
  refine xj_iload_n C d_Ch_pastSpans_6 rfl 3 rfl ?_
  refine xj_istore C d_Ch_pastSpans_7 (by decide) rfl ?_
  refine xj_iconst (v := 0) C d_Ch_pastSpans_9 rfl ?_
  refine xj_istore C d_Ch_pastSpans_10 (by decide) rfl ?_
  exact xj_lv [3, 4, 2, 1, 0] rfl (w_Ch_pastSpans_12 N C hr 40 x1 o1.1 x2 0 o1.2 hf)
set_option maxHeartbeats 4000000 in
set_option maxRecDepth 20000 in
theorem wb_Ch_firstOpen_5 {p : Program} {l : Launch} {e : Env} {s : State} {m : MethodId} {args : Array Value} {below : List Frame} {meth : Method} {c : Code} {sz : Nat} {D : va_G} {ad : Nat → Nat} {cI : ClassId} {out : Int32 × St} (N : (LC ad).Nodup) (C : xC p s m args meth c (xA (LC ad) sz) D 6 (tyC cI) b_Ch_firstOpen R_Ch) (hr : meth.sig.returnType = (some .int)) {K5 : Int32 → Int32 → Int32 → St → Option (Int32 × St)} (hK5 : ∀ (x1 x3 x4 : Int32) (st : St), K5 x1 x3 x4 st = some out → j_i p l e rm_Ch_firstOpen s m args below meth c sz D (WC ad cI) (LC ad) out 6 (WC ad cI st) [(0, .ref (ad 1)), (1, .int x1), (3, .int x3), (4, .int x4)] 5 []) (x1 x3 x4 : Int32) (st : St) (hf : b_Ch_firstOpen_5 K5 x1 x3 x4 st = some out) : j_i p l e rm_Ch_firstOpen s m args below meth c sz D (WC ad cI) (LC ad) out 6 (WC ad cI st) [(0, .ref (ad 1)), (1, .int x1), (3, .int x3), (4, .int x4)] 5 [] := by
  unfold b_Ch_firstOpen_5 at hf
  refine xj_iload C d_Ch_firstOpen_5 3 rfl ?_
  refine xj_bipush (v := 8) C d_Ch_firstOpen_7 rfl ?_
  refine xj_icmp_ge (tgt := 38) C d_Ch_firstOpen_9 (by decide) (fun h9 => ?_) (fun h9 => ?_)
  · have hf := xi_pos h9 hf
    refine xj_iload_n C d_Ch_firstOpen_38 rfl 2 rfl ?_
    exact xj_iret C hr hf d_Ch_firstOpen_39
  · have hf := xi_neg h9 hf
    refine xj_aload_n C d_Ch_firstOpen_12 rfl 0 rfl ?_
    refine xj_iload_n C d_Ch_firstOpen_13 rfl 1 rfl ?_
    refine xj_iload_n C d_Ch_firstOpen_14 rfl 2 rfl ?_
    obtain ⟨o1, ho1, hf⟩ := xb_some hf
    refine xj_callVi (rest := []) C (c_Ch_pastSpans N ho1) Y_Ch_pastSpans i_Ch_41 1 rfl rfl (by decide) ⟨rfl, rfl⟩ rfl rfl (Nat.le_of_ble_eq_true rfl) d_Ch_firstOpen_15 (fun q h => Or.inl h) ?_
    refine xj_istore C d_Ch_firstOpen_18 (by decide) rfl ?_
    refine xj_iload C d_Ch_firstOpen_20 0 rfl ?_
    refine xj_iload_n C d_Ch_firstOpen_22 rfl 3 rfl ?_
    refine xj_icmp_ne (tgt := 29) C d_Ch_firstOpen_23 (by decide) (fun h9 => ?_) (fun h9 => ?_)
    · have hf := xi_neg h9 hf
      refine xj_iload C d_Ch_firstOpen_29 0 rfl ?_
      refine xj_istore_n C d_Ch_firstOpen_31 rfl (by decide) rfl ?_
      refine xj_iinc (v := x4 + 1) (j := 4) C d_Ch_firstOpen_32 rfl rfl (by decide) rfl ?_
      refine xj_goto (tgt := 5) C d_Ch_firstOpen_35 (by decide) ?_
      exact xj_lv [3, 4, 1, 0] rfl (hK5 x1 o1.1 (x4 + 1) o1.2 hf)
    · have hf := xi_pos h9 hf
      refine xj_goto (tgt := 38) C d_Ch_firstOpen_26 (by decide) ?_
      refine xj_iload_n C d_Ch_firstOpen_38 rfl 3 rfl ?_
      exact xj_iret C hr hf d_Ch_firstOpen_39
set_option maxHeartbeats 4000000 in
set_option maxRecDepth 20000 in
theorem w_Ch_firstOpen_5 {p : Program} {l : Launch} {e : Env} {s : State} {m : MethodId} {args : Array Value} {below : List Frame} {meth : Method} {c : Code} {sz : Nat} {D : va_G} {ad : Nat → Nat} {cI : ClassId} {out : Int32 × St} (N : (LC ad).Nodup) (C : xC p s m args meth c (xA (LC ad) sz) D 6 (tyC cI) b_Ch_firstOpen R_Ch) (hr : meth.sig.returnType = (some .int)) (n : Nat) : ∀ (x1 x3 x4 : Int32) (st : St), f_Ch_firstOpen_5 n x1 x3 x4 st = some out → j_i p l e rm_Ch_firstOpen s m args below meth c sz D (WC ad cI) (LC ad) out 6 (WC ad cI st) [(0, .ref (ad 1)), (1, .int x1), (3, .int x3), (4, .int x4)] 5 [] := by
  induction n with
  | zero => intro x1 x3 x4 st hf; exact absurd (show (none : Option (Int32 × St)) = some out from hf) (fun h => by cases h)
  | succ n ih => intro x1 x3 x4 st hf; exact wb_Ch_firstOpen_5 N C hr ih x1 x3 x4 st hf
set_option maxHeartbeats 4000000 in
set_option maxRecDepth 20000 in
theorem c_Ch_firstOpen {l : Launch} {D : va_G} {ad : Nat → Nat} {cI : ClassId} (N : (LC ad).Nodup) {x1 x2 : Int32} {st : St} {out : Int32 × St} (hf : f_Ch_firstOpen x1 x2 st = some out) : xMi l y_Ch_firstOpen b_Ch_firstOpen 6 (some .int) rm_Ch_firstOpen D (tyC cI) (WC ad cI) (LC ad) [.ref (ad 1), .int x1, .int x2] st out := by
  intro sz
  refine xM_of (L := LC ad) (by decide) (Nat.le_of_ble_eq_true rfl) (fun p e s m below meth c hsz hr C => ?_)
  show j_i p l e rm_Ch_firstOpen s m _ below meth c sz D (WC ad cI) (LC ad) out 6 (WC ad cI st) [(0, .ref (ad 1)), (1, .int x1), (2, .int x2)] 0 []
  unfold f_Ch_firstOpen at hf
  refine xj_iload_n C d_Ch_firstOpen_0 rfl 2 rfl ?_
  refine xj_istore_n C d_Ch_firstOpen_1 rfl (by decide) rfl ?_
  refine xj_iconst (v := 0) C d_Ch_firstOpen_2 rfl ?_
  refine xj_istore C d_Ch_firstOpen_3 (by decide) rfl ?_
  exact xj_lv [2, 3, 1, 0] rfl (w_Ch_firstOpen_5 N C hr 40 x1 x2 0 st hf)
set_option maxHeartbeats 4000000 in
set_option maxRecDepth 20000 in
theorem w_Tt_put_tr_43 {p : Program} {l : Launch} {e : Env} {s : State} {m : MethodId} {args : Array Value} {below : List Frame} {meth : Method} {c : Code} {sz : Nat} {D : va_G} {ad : Nat → Nat} {cI : ClassId} {out : St} (N : (LC ad).Nodup) (C : xC p s m args meth c (xA (LC ad) sz) D 6 (tyC cI) b_Tt_put R_Tt) (hr : meth.sig.returnType = none) {K3 : Int32 → Int32 → Int32 → Int32 → Int32 → St → Option (St)} (hK3 : ∀ (x1 x2 x3 x4 x5 : Int32) (st : St), K3 x1 x2 x3 x4 x5 st = some out → j_v p l e rm_Tt_put_tr s m args below meth c sz D (WC ad cI) (LC ad) out 6 (WC ad cI st) [(0, .ref (ad 5)), (1, .int x1), (2, .int x2), (3, .int x3), (4, .int x4), (5, .int x5)] 3 []) (x1 x2 x3 x4 x5 : Int32) (st : St) (hf : f_Tt_put_tr_43 K3 x1 x2 x3 x4 x5 st = some out) : j_v p l e rm_Tt_put_tr s m args below meth c sz D (WC ad cI) (LC ad) out 6 (WC ad cI st) [(0, .ref (ad 5)), (1, .int x1), (2, .int x2), (3, .int x3), (4, .int x4), (5, .int x5)] 43 [] := by
  unfold f_Tt_put_tr_43 at hf
  refine xj_iinc (v := x5 + 1) (j := 5) C d_Tt_put_43 rfl rfl (by decide) rfl ?_
  refine xj_goto (tgt := 3) C d_Tt_put_46 (by decide) ?_
  exact xj_lv [1, 2, 3, 4, 5, 0] rfl (hK3 x1 x2 x3 x4 (x5 + 1) st hf)
set_option maxHeartbeats 4000000 in
set_option maxRecDepth 20000 in
theorem wb_Tt_put_tr_3 {p : Program} {l : Launch} {e : Env} {s : State} {m : MethodId} {args : Array Value} {below : List Frame} {meth : Method} {c : Code} {sz : Nat} {D : va_G} {ad : Nat → Nat} {cI : ClassId} {out : St} (N : (LC ad).Nodup) (C : xC p s m args meth c (xA (LC ad) sz) D 6 (tyC cI) b_Tt_put R_Tt) (hr : meth.sig.returnType = none) {K3 : Int32 → Int32 → Int32 → Int32 → Int32 → St → Option (St)} (hK3 : ∀ (x1 x2 x3 x4 x5 : Int32) (st : St), K3 x1 x2 x3 x4 x5 st = some out → j_v p l e rm_Tt_put_tr s m args below meth c sz D (WC ad cI) (LC ad) out 6 (WC ad cI st) [(0, .ref (ad 5)), (1, .int x1), (2, .int x2), (3, .int x3), (4, .int x4), (5, .int x5)] 3 []) (x1 x2 x3 x4 x5 : Int32) (st : St) (hf : b_Tt_put_tr_3 K3 x1 x2 x3 x4 x5 st = some out) : j_v p l e rm_Tt_put_tr s m args below meth c sz D (WC ad cI) (LC ad) out 6 (WC ad cI st) [(0, .ref (ad 5)), (1, .int x1), (2, .int x2), (3, .int x3), (4, .int x4), (5, .int x5)] 3 [] := by
  unfold b_Tt_put_tr_3 at hf
  refine xj_iload C d_Tt_put_3 5 rfl ?_
  refine xj_iconst (v := 4) C d_Tt_put_5 rfl ?_
  refine xj_icmp_ge (tgt := 49) C d_Tt_put_6 (by decide) (fun h9 => ?_) (fun h9 => ?_)
  · have hf := xi_pos h9 hf
    exact xj_vret C hr hf d_Tt_put_49
  · have hf := xi_neg h9 hf
    refine xj_iload_n C d_Tt_put_9 rfl 1 rfl ?_
    refine xj_iload C d_Tt_put_10 5 rfl ?_
    obtain ⟨o1, ho1, hf⟩ := xb_some hf
    refine xj_callSNi (rest := []) C (c_LR_holds N ho1) Y_LR_holds i_Tt_25 (by decide) ⟨rfl, rfl⟩ rfl rfl (Nat.le_of_ble_eq_true rfl) d_Tt_put_12 (fun q h => Or.inl h) ?_
    refine xj_if_eq (tgt := 43) C d_Tt_put_15 (by decide) (fun h9 => ?_) (fun h9 => ?_)
    · have hf := xi_pos h9 hf
      exact xj_lv [0, 1, 2, 3, 4, 5] rfl (w_Tt_put_tr_43 N C hr hK3 x1 x2 x3 x4 x5 o1.2 hf)
    · have hf := xi_neg h9 hf
      refine xj_aload_n C d_Tt_put_18 rfl 0 rfl ?_
      refine xj_get C g_Tt_9 5 rfl rfl d_Tt_put_19 ?_
      refine xj_iload C d_Tt_put_22 5 rfl ?_
      refine xj_iload C d_Tt_put_24 4 rfl ?_
      obtain ⟨g2, hf⟩ := xb_guard hf
      obtain ⟨s3, es3, hf⟩ := xlet_ex hf
      refine xj_iast (ws' := WC ad cI s3) C (WC_D N sz _) 22 0 rfl rfl g2 d_Tt_put_26 (by rw [es3]; rfl) ?_
      refine xj_aload_n C d_Tt_put_27 rfl 0 rfl ?_
      refine xj_get C g_Tt_15 5 rfl rfl d_Tt_put_28 ?_
      refine xj_iload C d_Tt_put_31 5 rfl ?_
      refine xj_iload_n C d_Tt_put_33 rfl 2 rfl ?_
      obtain ⟨g4, hf⟩ := xb_guard hf
      obtain ⟨s5, es5, hf⟩ := xlet_ex hf
      refine xj_iast (ws' := WC ad cI s5) C (WC_D N sz _) 23 0 rfl rfl g4 d_Tt_put_34 (by rw [es5]; rfl) ?_
      refine xj_aload_n C d_Tt_put_35 rfl 0 rfl ?_
      refine xj_get C g_Tt_18 5 rfl rfl d_Tt_put_36 ?_
      refine xj_iload C d_Tt_put_39 5 rfl ?_
      refine xj_iload_n C d_Tt_put_41 rfl 3 rfl ?_
      obtain ⟨g6, hf⟩ := xb_guard hf
      obtain ⟨s7, es7, hf⟩ := xlet_ex hf
      refine xj_iast (ws' := WC ad cI s7) C (WC_D N sz _) 24 0 rfl rfl g6 d_Tt_put_42 (by rw [es7]; rfl) ?_
      exact xj_lv [0, 1, 2, 3, 4, 5] rfl (w_Tt_put_tr_43 N C hr hK3 x1 x2 x3 x4 x5 s7 hf)
set_option maxHeartbeats 4000000 in
set_option maxRecDepth 20000 in
theorem w_Tt_put_tr_3 {p : Program} {l : Launch} {e : Env} {s : State} {m : MethodId} {args : Array Value} {below : List Frame} {meth : Method} {c : Code} {sz : Nat} {D : va_G} {ad : Nat → Nat} {cI : ClassId} {out : St} (N : (LC ad).Nodup) (C : xC p s m args meth c (xA (LC ad) sz) D 6 (tyC cI) b_Tt_put R_Tt) (hr : meth.sig.returnType = none) (n : Nat) : ∀ (x1 x2 x3 x4 x5 : Int32) (st : St), f_Tt_put_tr_3 n x1 x2 x3 x4 x5 st = some out → j_v p l e rm_Tt_put_tr s m args below meth c sz D (WC ad cI) (LC ad) out 6 (WC ad cI st) [(0, .ref (ad 5)), (1, .int x1), (2, .int x2), (3, .int x3), (4, .int x4), (5, .int x5)] 3 [] := by
  induction n with
  | zero => intro x1 x2 x3 x4 x5 st hf; exact absurd (show (none : Option (St)) = some out from hf) (fun h => by cases h)
  | succ n ih => intro x1 x2 x3 x4 x5 st hf; exact wb_Tt_put_tr_3 N C hr ih x1 x2 x3 x4 x5 st hf
set_option maxHeartbeats 4000000 in
set_option maxRecDepth 20000 in
theorem c_Tt_put_tr {l : Launch} {D : va_G} {ad : Nat → Nat} {cI : ClassId} (N : (LC ad).Nodup) {x1 x2 x3 x4 : Int32} {st : St} {out : St} (hf : f_Tt_put_tr x1 x2 x3 x4 st = some out) : xMv l y_Tt_put b_Tt_put 6 none rm_Tt_put_tr D (tyC cI) (WC ad cI) (LC ad) [.ref (ad 5), .int x1, .int x2, .int x3, .int x4] st out := by
  intro sz
  refine xM_of (L := LC ad) (by decide) (Nat.le_of_ble_eq_true rfl) (fun p e s m below meth c hsz hr C => ?_)
  show j_v p l e rm_Tt_put_tr s m _ below meth c sz D (WC ad cI) (LC ad) out 6 (WC ad cI st) [(0, .ref (ad 5)), (1, .int x1), (2, .int x2), (3, .int x3), (4, .int x4)] 0 []
  unfold f_Tt_put_tr at hf
  refine xj_iconst (v := 0) C d_Tt_put_0 rfl ?_
  refine xj_istore C d_Tt_put_1 (by decide) rfl ?_
  exact xj_lv [1, 2, 3, 4, 5, 0] rfl (w_Tt_put_tr_3 N C hr 40 x1 x2 x3 x4 0 st hf)
set_option maxHeartbeats 4000000 in
set_option maxRecDepth 20000 in
theorem w_Fl_waiting_32 {p : Program} {l : Launch} {e : Env} {s : State} {m : MethodId} {args : Array Value} {below : List Frame} {meth : Method} {c : Code} {sz : Nat} {D : va_G} {ad : Nat → Nat} {cI : ClassId} {out : Int32 × St} (N : (LC ad).Nodup) (C : xC p s m args meth c (xA (LC ad) sz) D 5 (tyC cI) b_Fl_waiting R_Fl) (hr : meth.sig.returnType = (some .int)) {K5 : Int32 → Int32 → Int32 → Int32 → St → Option (Int32 × St)} (hK5 : ∀ (x1 x2 x3 x4 : Int32) (st : St), K5 x1 x2 x3 x4 st = some out → j_i p l e rm_Fl_waiting s m args below meth c sz D (WC ad cI) (LC ad) out 5 (WC ad cI st) [(0, .ref (ad 2)), (1, .int x1), (2, .int x2), (3, .int x3), (4, .int x4)] 5 []) (x1 x2 x3 x4 : Int32) (st : St) (hf : f_Fl_waiting_32 K5 x1 x2 x3 x4 st = some out) : j_i p l e rm_Fl_waiting s m args below meth c sz D (WC ad cI) (LC ad) out 5 (WC ad cI st) [(0, .ref (ad 2)), (1, .int x1), (2, .int x2), (3, .int x3), (4, .int x4)] 32 [] := by
  unfold f_Fl_waiting_32 at hf
  refine xj_iinc (v := x4 + 1) (j := 4) C d_Fl_waiting_32 rfl rfl (by decide) rfl ?_
  refine xj_goto (tgt := 5) C d_Fl_waiting_35 (by decide) ?_
  exact xj_lv [1, 2, 3, 4, 0] rfl (hK5 x1 x2 x3 (x4 + 1) st hf)
set_option maxHeartbeats 4000000 in
set_option maxRecDepth 20000 in
theorem wb_Fl_waiting_5 {p : Program} {l : Launch} {e : Env} {s : State} {m : MethodId} {args : Array Value} {below : List Frame} {meth : Method} {c : Code} {sz : Nat} {D : va_G} {ad : Nat → Nat} {cI : ClassId} {out : Int32 × St} (N : (LC ad).Nodup) (C : xC p s m args meth c (xA (LC ad) sz) D 5 (tyC cI) b_Fl_waiting R_Fl) (hr : meth.sig.returnType = (some .int)) {K5 : Int32 → Int32 → Int32 → Int32 → St → Option (Int32 × St)} (hK5 : ∀ (x1 x2 x3 x4 : Int32) (st : St), K5 x1 x2 x3 x4 st = some out → j_i p l e rm_Fl_waiting s m args below meth c sz D (WC ad cI) (LC ad) out 5 (WC ad cI st) [(0, .ref (ad 2)), (1, .int x1), (2, .int x2), (3, .int x3), (4, .int x4)] 5 []) (x1 x2 x3 x4 : Int32) (st : St) (hf : b_Fl_waiting_5 K5 x1 x2 x3 x4 st = some out) : j_i p l e rm_Fl_waiting s m args below meth c sz D (WC ad cI) (LC ad) out 5 (WC ad cI st) [(0, .ref (ad 2)), (1, .int x1), (2, .int x2), (3, .int x3), (4, .int x4)] 5 [] := by
  unfold b_Fl_waiting_5 at hf
  refine xj_iload C d_Fl_waiting_5 4 rfl ?_
  refine xj_iconst (v := 4) C d_Fl_waiting_7 rfl ?_
  refine xj_icmp_ge (tgt := 38) C d_Fl_waiting_8 (by decide) (fun h9 => ?_) (fun h9 => ?_)
  · have hf := xi_pos h9 hf
    refine xj_iload_n C d_Fl_waiting_38 rfl 3 rfl ?_
    exact xj_iret C hr hf d_Fl_waiting_39
  · have hf := xi_neg h9 hf
    refine xj_iload_n C d_Fl_waiting_11 rfl 1 rfl ?_
    refine xj_iload C d_Fl_waiting_12 4 rfl ?_
    obtain ⟨o1, ho1, hf⟩ := xb_some hf
    refine xj_callSNi (rest := []) C (c_LR_holds N ho1) Y_LR_holds i_Fl_35 (by decide) ⟨rfl, rfl⟩ rfl rfl (Nat.le_of_ble_eq_true rfl) d_Fl_waiting_14 (fun q h => Or.inl h) ?_
    refine xj_if_eq (tgt := 32) C d_Fl_waiting_17 (by decide) (fun h9 => ?_) (fun h9 => ?_)
    · have hf := xi_pos h9 hf
      exact xj_lv [0, 1, 2, 3, 4] rfl (w_Fl_waiting_32 N C hr hK5 x1 x2 x3 x4 o1.2 hf)
    · have hf := xi_neg h9 hf
      refine xj_iload_n C d_Fl_waiting_20 rfl 3 rfl ?_
      refine xj_iload_n C d_Fl_waiting_21 rfl 2 rfl ?_
      refine xj_aload_n C d_Fl_waiting_22 rfl 0 rfl ?_
      refine xj_get C g_Fl_18 2 rfl rfl d_Fl_waiting_23 ?_
      refine xj_iload C d_Fl_waiting_26 4 rfl ?_
      obtain ⟨g2, hf⟩ := xb_guard hf
      refine xj_iald C 16 0 rfl rfl g2 d_Fl_waiting_28 ?_
      refine xj_isub C d_Fl_waiting_29 ?_
      refine xj_iadd C d_Fl_waiting_30 ?_
      refine xj_topi (fun v3 ev3 => ?_)
      have hf := xlet_at ev3 hf
      refine xj_istore_n C d_Fl_waiting_31 rfl (by decide) rfl ?_
      exact xj_lv [1, 2, 3, 0, 4] rfl (w_Fl_waiting_32 N C hr hK5 x1 x2 v3 x4 o1.2 hf)
set_option maxHeartbeats 4000000 in
set_option maxRecDepth 20000 in
theorem w_Fl_waiting_5 {p : Program} {l : Launch} {e : Env} {s : State} {m : MethodId} {args : Array Value} {below : List Frame} {meth : Method} {c : Code} {sz : Nat} {D : va_G} {ad : Nat → Nat} {cI : ClassId} {out : Int32 × St} (N : (LC ad).Nodup) (C : xC p s m args meth c (xA (LC ad) sz) D 5 (tyC cI) b_Fl_waiting R_Fl) (hr : meth.sig.returnType = (some .int)) (n : Nat) : ∀ (x1 x2 x3 x4 : Int32) (st : St), f_Fl_waiting_5 n x1 x2 x3 x4 st = some out → j_i p l e rm_Fl_waiting s m args below meth c sz D (WC ad cI) (LC ad) out 5 (WC ad cI st) [(0, .ref (ad 2)), (1, .int x1), (2, .int x2), (3, .int x3), (4, .int x4)] 5 [] := by
  induction n with
  | zero => intro x1 x2 x3 x4 st hf; exact absurd (show (none : Option (Int32 × St)) = some out from hf) (fun h => by cases h)
  | succ n ih => intro x1 x2 x3 x4 st hf; exact wb_Fl_waiting_5 N C hr ih x1 x2 x3 x4 st hf
set_option maxHeartbeats 4000000 in
set_option maxRecDepth 20000 in
theorem c_Fl_waiting {l : Launch} {D : va_G} {ad : Nat → Nat} {cI : ClassId} (N : (LC ad).Nodup) {x1 x2 : Int32} {st : St} {out : Int32 × St} (hf : f_Fl_waiting x1 x2 st = some out) : xMi l y_Fl_waiting b_Fl_waiting 5 (some .int) rm_Fl_waiting D (tyC cI) (WC ad cI) (LC ad) [.ref (ad 2), .int x1, .int x2] st out := by
  intro sz
  refine xM_of (L := LC ad) (by decide) (Nat.le_of_ble_eq_true rfl) (fun p e s m below meth c hsz hr C => ?_)
  show j_i p l e rm_Fl_waiting s m _ below meth c sz D (WC ad cI) (LC ad) out 5 (WC ad cI st) [(0, .ref (ad 2)), (1, .int x1), (2, .int x2)] 0 []
  unfold f_Fl_waiting at hf
  refine xj_iconst (v := 0) C d_Fl_waiting_0 rfl ?_
  refine xj_istore_n C d_Fl_waiting_1 rfl (by decide) rfl ?_
  refine xj_iconst (v := 0) C d_Fl_waiting_2 rfl ?_
  refine xj_istore C d_Fl_waiting_3 (by decide) rfl ?_
  exact xj_lv [2, 3, 4, 1, 0] rfl (w_Fl_waiting_5 N C hr 40 x1 x2 0 0 st hf)
set_option maxHeartbeats 4000000 in
set_option maxRecDepth 20000 in
theorem w_Pl_tryRuns_110 {p : Program} {l : Launch} {e : Env} {s : State} {m : MethodId} {args : Array Value} {below : List Frame} {meth : Method} {c : Code} {sz : Nat} {D : va_G} {ad : Nat → Nat} {cI : ClassId} {out : St} {dd : Nat} (N : (LC ad).Nodup) (C : xC p s m args meth c (xA (LC ad) sz) D 12 (tyC cI) b_Pl_tryRuns R_Pl) (hr : meth.sig.returnType = none) {REC : Int32 → Int32 → Int32 → Int32 → Int32 → Int32 → St → Option (St)} (hREC : ∀ (x1 x2 x3 x4 x5 x6 : Int32) (st : St) (o : St), REC x1 x2 x3 x4 x5 x6 st = some o → xMv l y_Pl_tryRuns b_Pl_tryRuns 12 none (rm_Pl_tryRuns dd) D (tyC cI) (WC ad cI) (LC ad) [.ref (ad 4), .int x1, .int x2, .int x3, .int x4, .int x5, .int x6] st o) {K56 : Int32 → Int32 → Int32 → Int32 → Int32 → Int32 → Int32 → Int32 → St → Option (St)} (hK56 : ∀ (x1 x2 x3 x4 x5 x6 x7 x8 : Int32) (st : St), K56 x1 x2 x3 x4 x5 x6 x7 x8 st = some out → j_v p l e (rm_Pl_tryRuns (dd + 1)) s m args below meth c sz D (WC ad cI) (LC ad) out 12 (WC ad cI st) [(0, .ref (ad 4)), (1, .int x1), (2, .int x2), (3, .int x3), (4, .int x4), (5, .int x5), (6, .int x6), (7, .int x7), (8, .int x8)] 56 []) (x1 x2 x3 x4 x5 x6 x7 x8 x9 y0 : Int32) (st : St) (hf : f_Pl_tryRuns_110 REC K56 x1 x2 x3 x4 x5 x6 x7 x8 x9 y0 st = some out) : j_v p l e (rm_Pl_tryRuns (dd + 1)) s m args below meth c sz D (WC ad cI) (LC ad) out 12 (WC ad cI st) [(0, .ref (ad 4)), (1, .int x1), (2, .int x2), (3, .int x3), (4, .int x4), (5, .int x5), (6, .int x6), (7, .int x7), (8, .int x8), (9, .int x9)] 110 [.int y0] := by
  unfold f_Pl_tryRuns_110 at hf
  refine xj_istore C d_Pl_tryRuns_110 (by decide) rfl ?_
  refine xj_aload_n C d_Pl_tryRuns_112 rfl 1 rfl ?_
  refine xj_get C g_Pl_28 4 rfl rfl d_Pl_tryRuns_113 ?_
  refine xj_iload_n C d_Pl_tryRuns_116 rfl 2 rfl ?_
  refine xj_iload C d_Pl_tryRuns_117 0 rfl ?_
  refine xj_aload_n C d_Pl_tryRuns_119 rfl 1 rfl ?_
  refine xj_get C g_Pl_32 4 rfl rfl d_Pl_tryRuns_120 ?_
  refine xj_iload C d_Pl_tryRuns_123 9 rfl ?_
  obtain ⟨o6, ho6, hf⟩ := xb_some hf
  refine xj_callVi (rest := [.int y0, .int x1, .ref (ad 1)]) C (c_Fl_lastArrival N ho6) Y_Fl_lastArrival i_Pl_86 2 rfl rfl (by simp only [rm_Pl_tryRuns, rm_Fl_lastArrival]; omega) ⟨rfl, rfl⟩ rfl rfl (Nat.le_of_ble_eq_true rfl) d_Pl_tryRuns_125 (fun q h => Or.inl h) ?_
  refine xj_mmax C mm_Pl_89 (by simp only [rm_Pl_tryRuns]; omega) (by show 2 + 13 ≤ _; simp only [rm_Pl_tryRuns]; omega) d_Pl_tryRuns_128 ?_
  obtain ⟨o7, ho7, hf⟩ := xb_some hf
  refine xj_callVi (rest := []) C (c_Ch_firstOpen N ho7) Y_Ch_firstOpen i_Pl_95 1 rfl rfl (by simp only [rm_Pl_tryRuns, rm_Ch_firstOpen]; omega) ⟨rfl, rfl⟩ rfl rfl (Nat.le_of_ble_eq_true rfl) d_Pl_tryRuns_131 (fun q h => Or.inl h) ?_
  refine xj_istore C d_Pl_tryRuns_134 (by decide) rfl ?_
  refine xj_aload_n C d_Pl_tryRuns_136 rfl 2 rfl ?_
  refine xj_get C g_Pl_12 4 rfl rfl d_Pl_tryRuns_137 ?_
  refine xj_iload C d_Pl_tryRuns_140 10 rfl ?_
  refine xj_iload_n C d_Pl_tryRuns_142 rfl 3 rfl ?_
  refine xj_iload_n C d_Pl_tryRuns_143 rfl 4 rfl ?_
  refine xj_iload C d_Pl_tryRuns_144 0 rfl ?_
  obtain ⟨o8, ho8, hf⟩ := xb_some hf
  refine xj_callVv (rest := []) C (c_Tt_put_tr N ho8) Y_Tt_put i_Pl_98 5 rfl rfl (by simp only [rm_Pl_tryRuns, rm_Tt_put_tr]; omega) ⟨rfl, rfl⟩ rfl rfl (Nat.le_of_ble_eq_true rfl) d_Pl_tryRuns_146 (fun q h => Or.inl h) ?_
  refine xj_aload_n C d_Pl_tryRuns_149 rfl 2 rfl ?_
  refine xj_iload_n C d_Pl_tryRuns_150 rfl 3 rfl ?_
  refine xj_iload_n C d_Pl_tryRuns_151 rfl 4 rfl ?_
  refine xj_iconst (v := 1) C d_Pl_tryRuns_152 rfl ?_
  refine xj_iadd C d_Pl_tryRuns_153 ?_
  refine xj_iload_n C d_Pl_tryRuns_154 rfl 5 rfl ?_
  refine xj_iload C d_Pl_tryRuns_155 10 rfl ?_
  refine xj_iconst (v := (-1)) C d_Pl_tryRuns_157 rfl ?_
  refine xj_ixor C d_Pl_tryRuns_158 ?_
  refine xj_iand C d_Pl_tryRuns_159 ?_
  refine xj_iload C d_Pl_tryRuns_160 0 rfl ?_
  refine xj_iload C d_Pl_tryRuns_162 9 rfl ?_
  refine xj_iadd C d_Pl_tryRuns_164 ?_
  refine xj_iconst (v := 1) C d_Pl_tryRuns_165 rfl ?_
  refine xj_iload C d_Pl_tryRuns_166 11 rfl ?_
  refine xj_isub C d_Pl_tryRuns_168 ?_
  refine xj_iload C d_Pl_tryRuns_169 8 rfl ?_
  refine xj_aload_n C d_Pl_tryRuns_171 rfl 2 rfl ?_
  refine xj_get C g_Pl_32 4 rfl rfl d_Pl_tryRuns_172 ?_
  refine xj_iload C d_Pl_tryRuns_175 10 rfl ?_
  refine xj_iload C d_Pl_tryRuns_177 0 rfl ?_
  obtain ⟨o9, ho9, hf⟩ := xb_some hf
  refine xj_callVi (rest := [.int x6, .int (1 - x9), .int (o7.1 + x7), .int (x3 &&& (x8 ^^^ (-1))), .int (x2 + 1), .int x1, .ref (ad 4)]) C (c_Fl_waiting N ho9) Y_Fl_waiting i_Pl_102 2 rfl rfl (by simp only [rm_Pl_tryRuns, rm_Fl_waiting]; omega) ⟨rfl, rfl⟩ rfl rfl (Nat.le_of_ble_eq_true rfl) d_Pl_tryRuns_179 (fun q h => Or.inl h) ?_
  refine xj_iadd C d_Pl_tryRuns_182 ?_
  obtain ⟨o10, ho10, hf⟩ := xb_some hf
  refine xj_callVv (rest := []) C (hREC x1 (x2 + 1) (x3 &&& (x8 ^^^ (-1))) (o7.1 + x7) (1 - x9) (x6 + o9.1) o9.2 o10 ho10) Y_Pl_tryRuns i_Pl_53 4 rfl rfl (xroom_rec_Pl_tryRuns dd) ⟨rfl, rfl⟩ rfl rfl (Nat.le_of_ble_eq_true rfl) d_Pl_tryRuns_183 (fun q h => Or.inl h) ?_
  exact xj_lv [2, 3, 4, 5, 6, 7, 8, 9, 10] rfl (w_Pl_tryRuns_186 N C hr hREC hK56 x1 x2 x3 x4 x5 x6 x7 x8 o10 hf)
set_option maxHeartbeats 4000000 in
set_option maxRecDepth 20000 in
theorem wb_Pl_tryRuns_56 {p : Program} {l : Launch} {e : Env} {s : State} {m : MethodId} {args : Array Value} {below : List Frame} {meth : Method} {c : Code} {sz : Nat} {D : va_G} {ad : Nat → Nat} {cI : ClassId} {out : St} {dd : Nat} (N : (LC ad).Nodup) (C : xC p s m args meth c (xA (LC ad) sz) D 12 (tyC cI) b_Pl_tryRuns R_Pl) (hr : meth.sig.returnType = none) {REC : Int32 → Int32 → Int32 → Int32 → Int32 → Int32 → St → Option (St)} (hREC : ∀ (x1 x2 x3 x4 x5 x6 : Int32) (st : St) (o : St), REC x1 x2 x3 x4 x5 x6 st = some o → xMv l y_Pl_tryRuns b_Pl_tryRuns 12 none (rm_Pl_tryRuns dd) D (tyC cI) (WC ad cI) (LC ad) [.ref (ad 4), .int x1, .int x2, .int x3, .int x4, .int x5, .int x6] st o) {K56 : Int32 → Int32 → Int32 → Int32 → Int32 → Int32 → Int32 → Int32 → St → Option (St)} (hK56 : ∀ (x1 x2 x3 x4 x5 x6 x7 x8 : Int32) (st : St), K56 x1 x2 x3 x4 x5 x6 x7 x8 st = some out → j_v p l e (rm_Pl_tryRuns (dd + 1)) s m args below meth c sz D (WC ad cI) (LC ad) out 12 (WC ad cI st) [(0, .ref (ad 4)), (1, .int x1), (2, .int x2), (3, .int x3), (4, .int x4), (5, .int x5), (6, .int x6), (7, .int x7), (8, .int x8)] 56 []) (x1 x2 x3 x4 x5 x6 x7 x8 : Int32) (st : St) (hf : b_Pl_tryRuns_56 REC K56 x1 x2 x3 x4 x5 x6 x7 x8 st = some out) : j_v p l e (rm_Pl_tryRuns (dd + 1)) s m args below meth c sz D (WC ad cI) (LC ad) out 12 (WC ad cI st) [(0, .ref (ad 4)), (1, .int x1), (2, .int x2), (3, .int x3), (4, .int x4), (5, .int x5), (6, .int x6), (7, .int x7), (8, .int x8)] 56 [] := by
  unfold b_Pl_tryRuns_56 at hf
  refine xj_iload C d_Pl_tryRuns_56 8 rfl ?_
  refine xj_bipush (v := 16) C d_Pl_tryRuns_58 rfl ?_
  refine xj_icmp_ge (tgt := 192) C d_Pl_tryRuns_60 (by decide) (fun h9 => ?_) (fun h9 => ?_)
  · have hf := xi_pos h9 hf
    refine xj_aload_n C d_Pl_tryRuns_192 rfl 0 rfl ?_
    refine xj_iload_n C d_Pl_tryRuns_193 rfl 1 rfl ?_
    refine xj_iconst (v := 1) C d_Pl_tryRuns_194 rfl ?_
    refine xj_iadd C d_Pl_tryRuns_195 ?_
    refine xj_iconst (v := 0) C d_Pl_tryRuns_196 rfl ?_
    refine xj_iload_n C d_Pl_tryRuns_197 rfl 3 rfl ?_
    refine xj_iconst (v := 0) C d_Pl_tryRuns_198 rfl ?_
    refine xj_iconst (v := 0) C d_Pl_tryRuns_199 rfl ?_
    refine xj_iload C d_Pl_tryRuns_200 6 rfl ?_
    obtain ⟨o3, ho3, hf⟩ := xb_some hf
    refine xj_callVv (rest := []) C (hREC (x1 + 1) 0 x3 0 0 x6 st o3 ho3) Y_Pl_tryRuns i_Pl_53 4 rfl rfl (xroom_rec_Pl_tryRuns dd) ⟨rfl, rfl⟩ rfl rfl (Nat.le_of_ble_eq_true rfl) d_Pl_tryRuns_202 (fun q h => Or.inl h) ?_
    exact xj_vret C hr hf d_Pl_tryRuns_205
  · have hf := xi_neg h9 hf
    refine xj_iload C d_Pl_tryRuns_63 8 rfl ?_
    refine xj_iload_n C d_Pl_tryRuns_65 rfl 3 rfl ?_
    refine xj_iconst (v := (-1)) C d_Pl_tryRuns_66 rfl ?_
    refine xj_ixor C d_Pl_tryRuns_67 ?_
    refine xj_iand C d_Pl_tryRuns_68 ?_
    refine xj_if_ne (tgt := 186) C d_Pl_tryRuns_69 (by decide) (fun h9 => ?_) (fun h9 => ?_)
    · have hf := xi_neg h9 hf
      exact xj_lv [0, 1, 2, 3, 4, 5, 6, 7, 8] rfl (w_Pl_tryRuns_186 N C hr hREC hK56 x1 x2 x3 x4 x5 x6 x7 x8 st hf)
    · have hf := xi_pos h9 hf
      refine xj_aload_n C d_Pl_tryRuns_72 rfl 0 rfl ?_
      refine xj_iload_n C d_Pl_tryRuns_73 rfl 1 rfl ?_
      refine xj_iload C d_Pl_tryRuns_74 8 rfl ?_
      obtain ⟨o4, ho4, hf⟩ := xb_some hf
      refine xj_callVi (rest := []) C (c_Pl_canRun N ho4) Y_Pl_canRun i_Pl_79 4 rfl rfl (by simp only [rm_Pl_tryRuns, rm_Pl_canRun]; omega) ⟨rfl, rfl⟩ rfl rfl (Nat.le_of_ble_eq_true rfl) d_Pl_tryRuns_76 (fun q h => Or.inl h) ?_
      refine xj_if_eq (tgt := 186) C d_Pl_tryRuns_79 (by decide) (fun h9 => ?_) (fun h9 => ?_)
      · have hf := xi_pos h9 hf
        exact xj_lv [0, 1, 2, 3, 4, 5, 6, 7, 8] rfl (w_Pl_tryRuns_186 N C hr hREC hK56 x1 x2 x3 x4 x5 x6 x7 x8 o4.2 hf)
      · have hf := xi_neg h9 hf
        refine xj_aload_n C d_Pl_tryRuns_82 rfl 0 rfl ?_
        refine xj_get C g_Pl_32 4 rfl rfl d_Pl_tryRuns_83 ?_
        refine xj_iload C d_Pl_tryRuns_86 8 rfl ?_
        obtain ⟨o5, ho5, hf⟩ := xb_some hf
        refine xj_callVi (rest := []) C (c_Fl_commonDirection N ho5) Y_Fl_commonDirection i_Pl_83 2 rfl rfl (by simp only [rm_Pl_tryRuns, rm_Fl_commonDirection]; omega) ⟨rfl, rfl⟩ rfl rfl (Nat.le_of_ble_eq_true rfl) d_Pl_tryRuns_88 (fun q h => Or.inl h) ?_
        refine xj_istore C d_Pl_tryRuns_91 (by decide) rfl ?_
        refine xj_iload C d_Pl_tryRuns_93 6 rfl ?_
        refine xj_iload C d_Pl_tryRuns_95 0 rfl ?_
        refine xj_icmp_ne (tgt := 105) C d_Pl_tryRuns_97 (by decide) (fun h9 => ?_) (fun h9 => ?_)
        · have hf := xi_neg h9 hf
          refine xj_iload C d_Pl_tryRuns_105 5 rfl ?_
          refine xj_iload C d_Pl_tryRuns_107 8 rfl ?_
          refine xj_iadd C d_Pl_tryRuns_109 ?_
          exact xj_lv [1, 2, 3, 4, 5, 6, 7, 8, 9, 0] rfl (w_Pl_tryRuns_110 N C hr hREC hK56 x1 x2 x3 x4 x5 x6 x7 x8 o5.1 (x4 + x7) o5.2 hf)
        · have hf := xi_pos h9 hf
          refine xj_iload C d_Pl_tryRuns_100 5 rfl ?_
          refine xj_goto (tgt := 110) C d_Pl_tryRuns_102 (by decide) ?_
          exact xj_lv [1, 2, 3, 4, 5, 6, 7, 8, 9, 0] rfl (w_Pl_tryRuns_110 N C hr hREC hK56 x1 x2 x3 x4 x5 x6 x7 x8 o5.1 x4 o5.2 hf)
set_option maxHeartbeats 4000000 in
set_option maxRecDepth 20000 in
theorem w_Pl_tryRuns_56 {p : Program} {l : Launch} {e : Env} {s : State} {m : MethodId} {args : Array Value} {below : List Frame} {meth : Method} {c : Code} {sz : Nat} {D : va_G} {ad : Nat → Nat} {cI : ClassId} {out : St} {dd : Nat} (N : (LC ad).Nodup) (C : xC p s m args meth c (xA (LC ad) sz) D 12 (tyC cI) b_Pl_tryRuns R_Pl) (hr : meth.sig.returnType = none) {REC : Int32 → Int32 → Int32 → Int32 → Int32 → Int32 → St → Option (St)} (hREC : ∀ (x1 x2 x3 x4 x5 x6 : Int32) (st : St) (o : St), REC x1 x2 x3 x4 x5 x6 st = some o → xMv l y_Pl_tryRuns b_Pl_tryRuns 12 none (rm_Pl_tryRuns dd) D (tyC cI) (WC ad cI) (LC ad) [.ref (ad 4), .int x1, .int x2, .int x3, .int x4, .int x5, .int x6] st o) (n : Nat) : ∀ (x1 x2 x3 x4 x5 x6 x7 x8 : Int32) (st : St), f_Pl_tryRuns_56 REC n x1 x2 x3 x4 x5 x6 x7 x8 st = some out → j_v p l e (rm_Pl_tryRuns (dd + 1)) s m args below meth c sz D (WC ad cI) (LC ad) out 12 (WC ad cI st) [(0, .ref (ad 4)), (1, .int x1), (2, .int x2), (3, .int x3), (4, .int x4), (5, .int x5), (6, .int x6), (7, .int x7), (8, .int x8)] 56 [] := by
  induction n with
  | zero => intro x1 x2 x3 x4 x5 x6 x7 x8 st hf; exact absurd (show (none : Option (St)) = some out from hf) (fun h => by cases h)
  | succ n ih => intro x1 x2 x3 x4 x5 x6 x7 x8 st hf; exact wb_Pl_tryRuns_56 N C hr hREC ih x1 x2 x3 x4 x5 x6 x7 x8 st hf
set_option maxHeartbeats 4000000 in
set_option maxRecDepth 20000 in
theorem c_Fl_size {l : Launch} {D : va_G} {ad : Nat → Nat} {cI : ClassId} (N : (LC ad).Nodup) {st : St} {out : Int32 × St} (hf : f_Fl_size  st = some out) : xMi l y_Fl_size b_Fl_size 1 (some .int) rm_Fl_size D (tyC cI) (WC ad cI) (LC ad) [.ref (ad 2)] st out := by
  intro sz
  refine xM_of (L := LC ad) (by decide) (Nat.le_of_ble_eq_true rfl) (fun p e s m below meth c hsz hr C => ?_)
  show j_i p l e rm_Fl_size s m _ below meth c sz D (WC ad cI) (LC ad) out 1 (WC ad cI st) [(0, .ref (ad 2))] 0 []
  unfold f_Fl_size at hf
  refine xj_aload_n C d_Fl_size_0 rfl 0 rfl ?_
  refine xj_get C g_Fl_27 2 rfl rfl d_Fl_size_1 ?_
  exact xj_iret C hr hf d_Fl_size_4
set_option maxHeartbeats 4000000 in
set_option maxRecDepth 20000 in
theorem c_Tt_setWaiting_tr {l : Launch} {D : va_G} {ad : Nat → Nat} {cI : ClassId} (N : (LC ad).Nodup) {x1 : Int32} {st : St} {out : St} (hf : f_Tt_setWaiting_tr x1 st = some out) : xMv l y_Tt_setWaiting b_Tt_setWaiting 2 none rm_Tt_setWaiting_tr D (tyC cI) (WC ad cI) (LC ad) [.ref (ad 5), .int x1] st out := by
  intro sz
  refine xM_of (L := LC ad) (by decide) (Nat.le_of_ble_eq_true rfl) (fun p e s m below meth c hsz hr C => ?_)
  show j_v p l e rm_Tt_setWaiting_tr s m _ below meth c sz D (WC ad cI) (LC ad) out 2 (WC ad cI st) [(0, .ref (ad 5)), (1, .int x1)] 0 []
  unfold f_Tt_setWaiting_tr at hf
  refine xj_aload_n C d_Tt_setWaiting_0 rfl 0 rfl ?_
  refine xj_iload_n C d_Tt_setWaiting_1 rfl 1 rfl ?_
  obtain ⟨s1, es1, hf⟩ := xlet_ex hf
  refine xj_put (ws' := WC ad cI s1) C g_Tt_21 gw_Tt_waiting (WC_D N sz _) 5 rfl rfl rfl (Nat.le_of_ble_eq_true rfl) d_Tt_setWaiting_2 (by rw [es1]; rfl) ?_
  exact xj_vret C hr hf d_Tt_setWaiting_5
set_option maxHeartbeats 4000000 in
set_option maxRecDepth 20000 in
theorem wb_Tt_copyFrom_bs_tr_2 {p : Program} {l : Launch} {e : Env} {s : State} {m : MethodId} {args : Array Value} {below : List Frame} {meth : Method} {c : Code} {sz : Nat} {D : va_G} {ad : Nat → Nat} {cI : ClassId} {out : St} (N : (LC ad).Nodup) (C : xC p s m args meth c (xA (LC ad) sz) D 3 (tyC cI) b_Tt_copyFrom R_Tt) (hr : meth.sig.returnType = none) {K2 : Int32 → St → Option (St)} (hK2 : ∀ (x2 : Int32) (st : St), K2 x2 st = some out → j_v p l e rm_Tt_copyFrom_bs_tr s m args below meth c sz D (WC ad cI) (LC ad) out 3 (WC ad cI st) [(0, .ref (ad 6)), (1, .ref (ad 5)), (2, .int x2)] 2 []) (x2 : Int32) (st : St) (hf : b_Tt_copyFrom_bs_tr_2 K2 x2 st = some out) : j_v p l e rm_Tt_copyFrom_bs_tr s m args below meth c sz D (WC ad cI) (LC ad) out 3 (WC ad cI st) [(0, .ref (ad 6)), (1, .ref (ad 5)), (2, .int x2)] 2 [] := by
  unfold b_Tt_copyFrom_bs_tr_2 at hf
  refine xj_iload_n C d_Tt_copyFrom_2 rfl 2 rfl ?_
  refine xj_iconst (v := 4) C d_Tt_copyFrom_3 rfl ?_
  refine xj_icmp_ge (tgt := 49) C d_Tt_copyFrom_4 (by decide) (fun h9 => ?_) (fun h9 => ?_)
  · have hf := xi_pos h9 hf
    refine xj_aload_n C d_Tt_copyFrom_49 rfl 0 rfl ?_
    refine xj_aload_n C d_Tt_copyFrom_50 rfl 1 rfl ?_
    refine xj_get C g_Tt_21 5 rfl rfl d_Tt_copyFrom_51 ?_
    obtain ⟨s1, es1, hf⟩ := xlet_ex hf
    refine xj_put (ws' := WC ad cI s1) C g_Tt_21 gw_Tt_waiting (WC_D N sz _) 6 rfl rfl rfl (Nat.le_of_ble_eq_true rfl) d_Tt_copyFrom_54 (by rw [es1]; rfl) ?_
    exact xj_vret C hr hf d_Tt_copyFrom_57
  · have hf := xi_neg h9 hf
    refine xj_aload_n C d_Tt_copyFrom_7 rfl 0 rfl ?_
    refine xj_get C g_Tt_9 6 rfl rfl d_Tt_copyFrom_8 ?_
    refine xj_iload_n C d_Tt_copyFrom_11 rfl 2 rfl ?_
    refine xj_aload_n C d_Tt_copyFrom_12 rfl 1 rfl ?_
    refine xj_get C g_Tt_9 5 rfl rfl d_Tt_copyFrom_13 ?_
    refine xj_iload_n C d_Tt_copyFrom_16 rfl 2 rfl ?_
    obtain ⟨g2, hf⟩ := xb_guard hf
    refine xj_iald C 22 0 rfl rfl g2 d_Tt_copyFrom_17 ?_
    obtain ⟨g3, hf⟩ := xb_guard hf
    obtain ⟨s4, es4, hf⟩ := xlet_ex hf
    refine xj_iast (ws' := WC ad cI s4) C (WC_D N sz _) 25 0 rfl rfl g3 d_Tt_copyFrom_18 (by rw [es4]; rfl) ?_
    refine xj_aload_n C d_Tt_copyFrom_19 rfl 0 rfl ?_
    refine xj_get C g_Tt_15 6 rfl rfl d_Tt_copyFrom_20 ?_
    refine xj_iload_n C d_Tt_copyFrom_23 rfl 2 rfl ?_
    refine xj_aload_n C d_Tt_copyFrom_24 rfl 1 rfl ?_
    refine xj_get C g_Tt_15 5 rfl rfl d_Tt_copyFrom_25 ?_
    refine xj_iload_n C d_Tt_copyFrom_28 rfl 2 rfl ?_
    obtain ⟨g5, hf⟩ := xb_guard hf
    refine xj_iald C 23 0 rfl rfl g5 d_Tt_copyFrom_29 ?_
    obtain ⟨g6, hf⟩ := xb_guard hf
    obtain ⟨s7, es7, hf⟩ := xlet_ex hf
    refine xj_iast (ws' := WC ad cI s7) C (WC_D N sz _) 26 0 rfl rfl g6 d_Tt_copyFrom_30 (by rw [es7]; rfl) ?_
    refine xj_aload_n C d_Tt_copyFrom_31 rfl 0 rfl ?_
    refine xj_get C g_Tt_18 6 rfl rfl d_Tt_copyFrom_32 ?_
    refine xj_iload_n C d_Tt_copyFrom_35 rfl 2 rfl ?_
    refine xj_aload_n C d_Tt_copyFrom_36 rfl 1 rfl ?_
    refine xj_get C g_Tt_18 5 rfl rfl d_Tt_copyFrom_37 ?_
    refine xj_iload_n C d_Tt_copyFrom_40 rfl 2 rfl ?_
    obtain ⟨g8, hf⟩ := xb_guard hf
    refine xj_iald C 24 0 rfl rfl g8 d_Tt_copyFrom_41 ?_
    obtain ⟨g9, hf⟩ := xb_guard hf
    obtain ⟨s10, es10, hf⟩ := xlet_ex hf
    refine xj_iast (ws' := WC ad cI s10) C (WC_D N sz _) 27 0 rfl rfl g9 d_Tt_copyFrom_42 (by rw [es10]; rfl) ?_
    refine xj_iinc (v := x2 + 1) (j := 2) C d_Tt_copyFrom_43 rfl rfl (by decide) rfl ?_
    refine xj_goto (tgt := 2) C d_Tt_copyFrom_46 (by decide) ?_
    exact xj_lv [1, 2, 0] rfl (hK2 (x2 + 1) s10 hf)
set_option maxHeartbeats 4000000 in
set_option maxRecDepth 20000 in
theorem w_Tt_copyFrom_bs_tr_2 {p : Program} {l : Launch} {e : Env} {s : State} {m : MethodId} {args : Array Value} {below : List Frame} {meth : Method} {c : Code} {sz : Nat} {D : va_G} {ad : Nat → Nat} {cI : ClassId} {out : St} (N : (LC ad).Nodup) (C : xC p s m args meth c (xA (LC ad) sz) D 3 (tyC cI) b_Tt_copyFrom R_Tt) (hr : meth.sig.returnType = none) (n : Nat) : ∀ (x2 : Int32) (st : St), f_Tt_copyFrom_bs_tr_2 n x2 st = some out → j_v p l e rm_Tt_copyFrom_bs_tr s m args below meth c sz D (WC ad cI) (LC ad) out 3 (WC ad cI st) [(0, .ref (ad 6)), (1, .ref (ad 5)), (2, .int x2)] 2 [] := by
  induction n with
  | zero => intro x2 st hf; exact absurd (show (none : Option (St)) = some out from hf) (fun h => by cases h)
  | succ n ih => intro x2 st hf; exact wb_Tt_copyFrom_bs_tr_2 N C hr ih x2 st hf
set_option maxHeartbeats 4000000 in
set_option maxRecDepth 20000 in
theorem c_Tt_copyFrom_bs_tr {l : Launch} {D : va_G} {ad : Nat → Nat} {cI : ClassId} (N : (LC ad).Nodup) {st : St} {out : St} (hf : f_Tt_copyFrom_bs_tr  st = some out) : xMv l y_Tt_copyFrom b_Tt_copyFrom 3 none rm_Tt_copyFrom_bs_tr D (tyC cI) (WC ad cI) (LC ad) [.ref (ad 6), .ref (ad 5)] st out := by
  intro sz
  refine xM_of (L := LC ad) (by decide) (Nat.le_of_ble_eq_true rfl) (fun p e s m below meth c hsz hr C => ?_)
  show j_v p l e rm_Tt_copyFrom_bs_tr s m _ below meth c sz D (WC ad cI) (LC ad) out 3 (WC ad cI st) [(0, .ref (ad 6)), (1, .ref (ad 5))] 0 []
  unfold f_Tt_copyFrom_bs_tr at hf
  refine xj_iconst (v := 0) C d_Tt_copyFrom_0 rfl ?_
  refine xj_istore_n C d_Tt_copyFrom_1 rfl (by decide) rfl ?_
  exact xj_lv [1, 2, 0] rfl (w_Tt_copyFrom_bs_tr_2 N C hr 40 0 st hf)
set_option maxHeartbeats 4000000 in
set_option maxRecDepth 20000 in
theorem w_Pl_offerTrial_72 {p : Program} {l : Launch} {e : Env} {s : State} {m : MethodId} {args : Array Value} {below : List Frame} {meth : Method} {c : Code} {sz : Nat} {D : va_G} {ad : Nat → Nat} {cI : ClassId} {out : St} (N : (LC ad).Nodup) (C : xC p s m args meth c (xA (LC ad) sz) D 3 (tyC cI) b_Pl_offerTrial R_Pl) (hr : meth.sig.returnType = none) (st : St) (hf : f_Pl_offerTrial_72  st = some out) : j_v p l e rm_Pl_offerTrial s m args below meth c sz D (WC ad cI) (LC ad) out 3 (WC ad cI st) [(0, .ref (ad 4))] 72 [] := by
  unfold f_Pl_offerTrial_72 at hf
  refine xj_aload_n C d_Pl_offerTrial_72 rfl 0 rfl ?_
  refine xj_get C g_Pl_18 4 rfl rfl d_Pl_offerTrial_73 ?_
  refine xj_aload_n C d_Pl_offerTrial_76 rfl 0 rfl ?_
  refine xj_get C g_Pl_12 4 rfl rfl d_Pl_offerTrial_77 ?_
  obtain ⟨o3, ho3, hf⟩ := xb_some hf
  refine xj_callVv (rest := []) C (c_Tt_copyFrom_bs_tr N ho3) Y_Tt_copyFrom i_Pl_57 6 rfl rfl (by decide) ⟨rfl, rfl⟩ rfl rfl (Nat.le_of_ble_eq_true rfl) d_Pl_offerTrial_80 (fun q h => Or.inl h) ?_
  refine xj_aload_n C d_Pl_offerTrial_83 rfl 0 rfl ?_
  refine xj_iconst (v := 1) C d_Pl_offerTrial_84 rfl ?_
  obtain ⟨s4, es4, hf⟩ := xlet_ex hf
  refine xj_put (ws' := WC ad cI s4) C g_Pl_40 gw_Pl_planned (WC_D N sz _) 4 rfl rfl rfl (Nat.le_of_ble_eq_true rfl) d_Pl_offerTrial_85 (by rw [es4]; rfl) ?_
  exact xj_vret C hr hf d_Pl_offerTrial_88
set_option maxHeartbeats 4000000 in
set_option maxRecDepth 20000 in
theorem w_Tt_isAheadOf_tr_bs_103 {p : Program} {l : Launch} {e : Env} {s : State} {m : MethodId} {args : Array Value} {below : List Frame} {meth : Method} {c : Code} {sz : Nat} {D : va_G} {ad : Nat → Nat} {cI : ClassId} {out : Int32 × St} (N : (LC ad).Nodup) (C : xC p s m args meth c (xA (LC ad) sz) D 4 (tyC cI) b_Tt_isAheadOf R_Tt) (hr : meth.sig.returnType = (some .boolean)) {K30 : Int32 → Int32 → St → Option (Int32 × St)} (hK30 : ∀ (x2 x3 : Int32) (st : St), K30 x2 x3 st = some out → j_i p l e rm_Tt_isAheadOf_tr_bs s m args below meth c sz D (WC ad cI) (LC ad) out 4 (WC ad cI st) [(0, .ref (ad 5)), (1, .ref (ad 6)), (2, .int x2), (3, .int x3)] 30 []) (x2 x3 : Int32) (st : St) (hf : f_Tt_isAheadOf_tr_bs_103 K30 x2 x3 st = some out) : j_i p l e rm_Tt_isAheadOf_tr_bs s m args below meth c sz D (WC ad cI) (LC ad) out 4 (WC ad cI st) [(0, .ref (ad 5)), (1, .ref (ad 6)), (2, .int x2), (3, .int x3)] 103 [] := by
  unfold f_Tt_isAheadOf_tr_bs_103 at hf
  refine xj_iinc (v := x3 + 1) (j := 3) C d_Tt_isAheadOf_103 rfl rfl (by decide) rfl ?_
  refine xj_goto (tgt := 30) C d_Tt_isAheadOf_106 (by decide) ?_
  exact xj_lv [1, 2, 3, 0] rfl (hK30 x2 (x3 + 1) st hf)
set_option maxHeartbeats 4000000 in
set_option maxRecDepth 20000 in
theorem c_Tt_begin_tr {l : Launch} {D : va_G} {ad : Nat → Nat} {cI : ClassId} (N : (LC ad).Nodup) {x1 : Int32} {st : St} {out : Int32 × St} (hf : f_Tt_begin_tr x1 st = some out) : xMi l y_Tt_begin b_Tt_begin 2 (some .int) rm_Tt_begin_tr D (tyC cI) (WC ad cI) (LC ad) [.ref (ad 5), .int x1] st out := by
  intro sz
  refine xM_of (L := LC ad) (by decide) (Nat.le_of_ble_eq_true rfl) (fun p e s m below meth c hsz hr C => ?_)
  show j_i p l e rm_Tt_begin_tr s m _ below meth c sz D (WC ad cI) (LC ad) out 2 (WC ad cI st) [(0, .ref (ad 5)), (1, .int x1)] 0 []
  unfold f_Tt_begin_tr at hf
  refine xj_iload_n C d_Tt_begin_0 rfl 1 rfl ?_
  refine xj_if_lt (tgt := 18) C d_Tt_begin_1 (by decide) (fun h9 => ?_) (fun h9 => ?_)
  · have hf := xi_pos h9 hf
    refine xj_iconst (v := (-1)) C d_Tt_begin_18 rfl ?_
    exact xj_iret C hr hf d_Tt_begin_19
  · have hf := xi_neg h9 hf
    refine xj_iload_n C d_Tt_begin_4 rfl 1 rfl ?_
    refine xj_iconst (v := 4) C d_Tt_begin_5 rfl ?_
    refine xj_icmp_ge (tgt := 18) C d_Tt_begin_6 (by decide) (fun h9 => ?_) (fun h9 => ?_)
    · have hf := xi_pos h9 hf
      refine xj_iconst (v := (-1)) C d_Tt_begin_18 rfl ?_
      exact xj_iret C hr hf d_Tt_begin_19
    · have hf := xi_neg h9 hf
      refine xj_aload_n C d_Tt_begin_9 rfl 0 rfl ?_
      refine xj_get C g_Tt_9 5 rfl rfl d_Tt_begin_10 ?_
      refine xj_iload_n C d_Tt_begin_13 rfl 1 rfl ?_
      obtain ⟨g1, hf⟩ := xb_guard hf
      refine xj_iald C 22 0 rfl rfl g1 d_Tt_begin_14 ?_
      refine xj_goto (tgt := 19) C d_Tt_begin_15 (by decide) ?_
      exact xj_iret C hr hf d_Tt_begin_19
