set_option maxHeartbeats 4000000 in
set_option maxRecDepth 20000 in
theorem c_Ch_size {l : Launch} {D : va_G} {ad : Nat → Nat} {cI : ClassId} (N : (LC ad).Nodup) {st : St} {out : Int32 × St} (hf : f_Ch_size  st = some out) : xMi l y_Ch_size b_Ch_size 1 (some .int) rm_Ch_size D (tyC cI) (WC ad cI) (LC ad) [.ref (ad 1)] st out := by
  intro sz
  refine xM_of (L := LC ad) (by decide) (Nat.le_of_ble_eq_true rfl) (fun p e s m below meth c hsz hr C => ?_)
  show j_i p l e rm_Ch_size s m _ below meth c sz D (WC ad cI) (LC ad) out 1 (WC ad cI st) [(0, .ref (ad 1))] 0 []
  unfold f_Ch_size at hf
  refine xj_aload_n C d_Ch_size_0 rfl 0 rfl ?_
  refine xj_get C g_Ch_30 1 rfl rfl d_Ch_size_1 ?_
  exact xj_iret C hr hf d_Ch_size_4
set_option maxHeartbeats 4000000 in
set_option maxRecDepth 20000 in
theorem c_Ch_spans {l : Launch} {D : va_G} {ad : Nat → Nat} {cI : ClassId} (N : (LC ad).Nodup) {st : St} {out : Int32 × St} (hf : f_Ch_spans  st = some out) : xMi l y_Ch_spans b_Ch_spans 1 (some .int) rm_Ch_spans D (tyC cI) (WC ad cI) (LC ad) [.ref (ad 1)] st out := by
  intro sz
  refine xM_of (L := LC ad) (by decide) (Nat.le_of_ble_eq_true rfl) (fun p e s m below meth c hsz hr C => ?_)
  show j_i p l e rm_Ch_spans s m _ below meth c sz D (WC ad cI) (LC ad) out 1 (WC ad cI st) [(0, .ref (ad 1))] 0 []
  unfold f_Ch_spans at hf
  refine xj_aload_n C d_Ch_spans_0 rfl 0 rfl ?_
  refine xj_get C g_Ch_34 1 rfl rfl d_Ch_spans_1 ?_
  exact xj_iret C hr hf d_Ch_spans_4
set_option maxHeartbeats 4000000 in
set_option maxRecDepth 20000 in
theorem c_Fl_add {l : Launch} {D : va_G} {ad : Nat → Nat} {cI : ClassId} (N : (LC ad).Nodup) {x1 x2 x3 x4 x5 : Int32} {st : St} {out : Int32 × St} (hf : f_Fl_add x1 x2 x3 x4 x5 st = some out) : xMi l y_Fl_add b_Fl_add 7 (some .int) rm_Fl_add D (tyC cI) (WC ad cI) (LC ad) [.ref (ad 2), .int x1, .int x2, .int x3, .int x4, .int x5] st out := by
  intro sz
  refine xM_of (L := LC ad) (by decide) (Nat.le_of_ble_eq_true rfl) (fun p e s m below meth c hsz hr C => ?_)
  show j_i p l e rm_Fl_add s m _ below meth c sz D (WC ad cI) (LC ad) out 7 (WC ad cI st) [(0, .ref (ad 2)), (1, .int x1), (2, .int x2), (3, .int x3), (4, .int x4), (5, .int x5)] 0 []
  unfold f_Fl_add at hf
  refine xj_aload_n C d_Fl_add_0 rfl 0 rfl ?_
  refine xj_get C g_Fl_27 2 rfl rfl d_Fl_add_1 ?_
  refine xj_topi (fun v1 ev1 => ?_)
  have hf := xlet_at ev1 hf
  refine xj_istore C d_Fl_add_4 (by decide) rfl ?_
  refine xj_iload C d_Fl_add_6 0 rfl ?_
  refine xj_if_lt (tgt := 17) C d_Fl_add_8 (by decide) (fun h9 => ?_) (fun h9 => ?_)
  · have hf := xi_pos h9 hf
    refine xj_iconst (v := (-1)) C d_Fl_add_17 rfl ?_
    exact xj_iret C hr hf d_Fl_add_18
  · have hf := xi_neg h9 hf
    refine xj_iload C d_Fl_add_11 0 rfl ?_
    refine xj_iconst (v := 4) C d_Fl_add_13 rfl ?_
    refine xj_icmp_lt (tgt := 19) C d_Fl_add_14 (by decide) (fun h9 => ?_) (fun h9 => ?_)
    · have hf := xi_pos h9 hf
      refine xj_aload_n C d_Fl_add_19 rfl 1 rfl ?_
      refine xj_get C g_Fl_9 2 rfl rfl d_Fl_add_20 ?_
      refine xj_iload C d_Fl_add_23 0 rfl ?_
      refine xj_iload_n C d_Fl_add_25 rfl 2 rfl ?_
      obtain ⟨g2, hf⟩ := xb_guard hf
      obtain ⟨s3, es3, hf⟩ := xlet_ex hf
      refine xj_iast (ws' := WC ad cI s3) C (WC_D N sz _) 14 0 rfl rfl g2 d_Fl_add_26 (by rw [es3]; rfl) ?_
      refine xj_aload_n C d_Fl_add_27 rfl 1 rfl ?_
      refine xj_get C g_Fl_15 2 rfl rfl d_Fl_add_28 ?_
      refine xj_iload C d_Fl_add_31 0 rfl ?_
      refine xj_iload_n C d_Fl_add_33 rfl 3 rfl ?_
      obtain ⟨g4, hf⟩ := xb_guard hf
      obtain ⟨s5, es5, hf⟩ := xlet_ex hf
      refine xj_iast (ws' := WC ad cI s5) C (WC_D N sz _) 15 0 rfl rfl g4 d_Fl_add_34 (by rw [es5]; rfl) ?_
      refine xj_aload_n C d_Fl_add_35 rfl 1 rfl ?_
      refine xj_get C g_Fl_18 2 rfl rfl d_Fl_add_36 ?_
      refine xj_iload C d_Fl_add_39 0 rfl ?_
      refine xj_iload_n C d_Fl_add_41 rfl 4 rfl ?_
      obtain ⟨g6, hf⟩ := xb_guard hf
      obtain ⟨s7, es7, hf⟩ := xlet_ex hf
      refine xj_iast (ws' := WC ad cI s7) C (WC_D N sz _) 16 0 rfl rfl g6 d_Fl_add_42 (by rw [es7]; rfl) ?_
      refine xj_aload_n C d_Fl_add_43 rfl 1 rfl ?_
      refine xj_get C g_Fl_21 2 rfl rfl d_Fl_add_44 ?_
      refine xj_iload C d_Fl_add_47 0 rfl ?_
      refine xj_iload C d_Fl_add_49 5 rfl ?_
      obtain ⟨g8, hf⟩ := xb_guard hf
      obtain ⟨s9, es9, hf⟩ := xlet_ex hf
      refine xj_iast (ws' := WC ad cI s9) C (WC_D N sz _) 17 0 rfl rfl g8 d_Fl_add_51 (by rw [es9]; rfl) ?_
      refine xj_aload_n C d_Fl_add_52 rfl 1 rfl ?_
      refine xj_get C g_Fl_24 2 rfl rfl d_Fl_add_53 ?_
      refine xj_iload C d_Fl_add_56 0 rfl ?_
      refine xj_iload C d_Fl_add_58 6 rfl ?_
      obtain ⟨g10, hf⟩ := xb_guard hf
      obtain ⟨s11, es11, hf⟩ := xlet_ex hf
      refine xj_iast (ws' := WC ad cI s11) C (WC_D N sz _) 18 0 rfl rfl g10 d_Fl_add_60 (by rw [es11]; rfl) ?_
      refine xj_aload_n C d_Fl_add_61 rfl 1 rfl ?_
      refine xj_iload C d_Fl_add_62 0 rfl ?_
      refine xj_iconst (v := 1) C d_Fl_add_64 rfl ?_
      refine xj_iadd C d_Fl_add_65 ?_
      obtain ⟨s12, es12, hf⟩ := xlet_ex hf
      refine xj_put (ws' := WC ad cI s12) C g_Fl_27 gw_Fl_size (WC_D N sz _) 2 rfl rfl rfl (Nat.le_of_ble_eq_true rfl) d_Fl_add_66 (by rw [es12]; rfl) ?_
      refine xj_iload C d_Fl_add_69 0 rfl ?_
      exact xj_iret C hr hf d_Fl_add_71
    · have hf := xi_neg h9 hf
      refine xj_iconst (v := (-1)) C d_Fl_add_17 rfl ?_
      exact xj_iret C hr hf d_Fl_add_18
set_option maxHeartbeats 4000000 in
set_option maxRecDepth 20000 in
theorem c_Fl_setArrival {l : Launch} {D : va_G} {ad : Nat → Nat} {cI : ClassId} (N : (LC ad).Nodup) {x1 x2 : Int32} {st : St} {out : St} (hf : f_Fl_setArrival x1 x2 st = some out) : xMv l y_Fl_setArrival b_Fl_setArrival 3 none rm_Fl_setArrival D (tyC cI) (WC ad cI) (LC ad) [.ref (ad 2), .int x1, .int x2] st out := by
  intro sz
  refine xM_of (L := LC ad) (by decide) (Nat.le_of_ble_eq_true rfl) (fun p e s m below meth c hsz hr C => ?_)
  show j_v p l e rm_Fl_setArrival s m _ below meth c sz D (WC ad cI) (LC ad) out 3 (WC ad cI st) [(0, .ref (ad 2)), (1, .int x1), (2, .int x2)] 0 []
  unfold f_Fl_setArrival at hf
  refine xj_aload_n C d_Fl_setArrival_0 rfl 0 rfl ?_
  refine xj_iload_n C d_Fl_setArrival_1 rfl 1 rfl ?_
  obtain ⟨o1, ho1, hf⟩ := xb_some hf
  refine xj_callVi (rest := []) C (c_Fl_has N ho1) Y_Fl_has i_Fl_31 2 rfl rfl (by decide) ⟨rfl, rfl⟩ rfl rfl (Nat.le_of_ble_eq_true rfl) d_Fl_setArrival_2 (fun q h => Or.inl h) ?_
  refine xj_if_eq (tgt := 15) C d_Fl_setArrival_5 (by decide) (fun h9 => ?_) (fun h9 => ?_)
  · have hf := xi_pos h9 hf
    exact xj_vret C hr hf d_Fl_setArrival_15
  · have hf := xi_neg h9 hf
    refine xj_aload_n C d_Fl_setArrival_8 rfl 0 rfl ?_
    refine xj_get C g_Fl_18 2 rfl rfl d_Fl_setArrival_9 ?_
    refine xj_iload_n C d_Fl_setArrival_12 rfl 1 rfl ?_
    refine xj_iload_n C d_Fl_setArrival_13 rfl 2 rfl ?_
    obtain ⟨g2, hf⟩ := xb_guard hf
    obtain ⟨s3, es3, hf⟩ := xlet_ex hf
    refine xj_iast (ws' := WC ad cI s3) C (WC_D N sz _) 16 0 rfl rfl g2 d_Fl_setArrival_14 (by rw [es3]; rfl) ?_
    exact xj_vret C hr hf d_Fl_setArrival_15
set_option maxHeartbeats 4000000 in
set_option maxRecDepth 20000 in
theorem c_LR_within {l : Launch} {D : va_G} {ad : Nat → Nat} {cI : ClassId} (N : (LC ad).Nodup) {x0 x1 x2 : Int32} {st : St} {out : Int32 × St} (hf : f_LR_within x0 x1 x2 st = some out) : xMi l y_LR_within b_LR_within 3 (some .boolean) rm_LR_within D (tyC cI) (WC ad cI) (LC ad) [.int x0, .int x1, .int x2] st out := by
  intro sz
  refine xM_of (L := LC ad) (by decide) (Nat.le_of_ble_eq_true rfl) (fun p e s m below meth c hsz hr C => ?_)
  show j_i p l e rm_LR_within s m _ below meth c sz D (WC ad cI) (LC ad) out 3 (WC ad cI st) [(0, .int x0), (1, .int x1), (2, .int x2)] 0 []
  unfold f_LR_within at hf
  refine xj_iload_n C d_LR_within_0 rfl 0 rfl ?_
  refine xj_iload_n C d_LR_within_1 rfl 1 rfl ?_
  refine xj_icmp_lt (tgt := 14) C d_LR_within_2 (by decide) (fun h9 => ?_) (fun h9 => ?_)
  · have hf := xi_pos h9 hf
    refine xj_iconst (v := 0) C d_LR_within_14 rfl ?_
    exact xj_zret C hr rfl hf d_LR_within_15
  · have hf := xi_neg h9 hf
    refine xj_iload_n C d_LR_within_5 rfl 0 rfl ?_
    refine xj_iload_n C d_LR_within_6 rfl 2 rfl ?_
    refine xj_icmp_gt (tgt := 14) C d_LR_within_7 (by decide) (fun h9 => ?_) (fun h9 => ?_)
    · have hf := xi_pos h9 hf
      refine xj_iconst (v := 0) C d_LR_within_14 rfl ?_
      exact xj_zret C hr rfl hf d_LR_within_15
    · have hf := xi_neg h9 hf
      refine xj_iconst (v := 1) C d_LR_within_10 rfl ?_
      refine xj_goto (tgt := 15) C d_LR_within_11 (by decide) ?_
      exact xj_zret C hr rfl hf d_LR_within_15
set_option maxHeartbeats 4000000 in
set_option maxRecDepth 20000 in
theorem c_LR_canMeasure {l : Launch} {D : va_G} {ad : Nat → Nat} {cI : ClassId} (N : (LC ad).Nodup) {x0 x1 : Int32} {st : St} {out : Int32 × St} (hf : f_LR_canMeasure x0 x1 st = some out) : xMi l y_LR_canMeasure b_LR_canMeasure 2 (some .boolean) rm_LR_canMeasure D (tyC cI) (WC ad cI) (LC ad) [.int x0, .int x1] st out := by
  intro sz
  refine xM_of (L := LC ad) (by decide) (Nat.le_of_ble_eq_true rfl) (fun p e s m below meth c hsz hr C => ?_)
  show j_i p l e rm_LR_canMeasure s m _ below meth c sz D (WC ad cI) (LC ad) out 2 (WC ad cI st) [(0, .int x0), (1, .int x1)] 0 []
  unfold f_LR_canMeasure at hf
  refine xj_iload_n C d_LR_canMeasure_0 rfl 0 rfl ?_
  refine xj_iconst (v := 1) C d_LR_canMeasure_1 rfl ?_
  refine xj_bipush (v := 8) C d_LR_canMeasure_2 rfl ?_
  obtain ⟨o1, ho1, hf⟩ := xb_some hf
  refine xj_callSi (rest := []) C (c_LR_within N ho1) Y_LR_within i_LR_45 (by decide) ⟨rfl, rfl⟩ rfl rfl (Nat.le_of_ble_eq_true rfl) d_LR_canMeasure_4 (fun q h => Or.inl h) ?_
  refine xj_if_eq (tgt := 23) C d_LR_canMeasure_7 (by decide) (fun h9 => ?_) (fun h9 => ?_)
  · have hf := xi_pos h9 hf
    refine xj_iconst (v := 0) C d_LR_canMeasure_23 rfl ?_
    exact xj_zret C hr rfl hf d_LR_canMeasure_24
  · have hf := xi_neg h9 hf
    refine xj_iload_n C d_LR_canMeasure_10 rfl 1 rfl ?_
    refine xj_iconst (v := 1) C d_LR_canMeasure_11 rfl ?_
    refine xj_iconst (v := 3) C d_LR_canMeasure_12 rfl ?_
    obtain ⟨o2, ho2, hf⟩ := xb_some hf
    refine xj_callSi (rest := []) C (c_LR_within N ho2) Y_LR_within i_LR_45 (by decide) ⟨rfl, rfl⟩ rfl rfl (Nat.le_of_ble_eq_true rfl) d_LR_canMeasure_13 (fun q h => Or.inl h) ?_
    refine xj_if_eq (tgt := 23) C d_LR_canMeasure_16 (by decide) (fun h9 => ?_) (fun h9 => ?_)
    · have hf := xi_pos h9 hf
      refine xj_iconst (v := 0) C d_LR_canMeasure_23 rfl ?_
      exact xj_zret C hr rfl hf d_LR_canMeasure_24
    · have hf := xi_neg h9 hf
      refine xj_iconst (v := 1) C d_LR_canMeasure_19 rfl ?_
      refine xj_goto (tgt := 24) C d_LR_canMeasure_20 (by decide) ?_
      exact xj_zret C hr rfl hf d_LR_canMeasure_24
set_option maxHeartbeats 4000000 in
set_option maxRecDepth 20000 in
theorem c_LR_runsOf {l : Launch} {D : va_G} {ad : Nat → Nat} {cI : ClassId} (N : (LC ad).Nodup) {x1 : Int32} {st : St} {out : Int32 × St} (hf : f_LR_runsOf x1 st = some out) : xMi l y_LR_runsOf b_LR_runsOf 2 (some .int) rm_LR_runsOf D (tyC cI) (WC ad cI) (LC ad) [.ref (ad 0), .int x1] st out := by
  intro sz
  refine xM_of (L := LC ad) (by decide) (Nat.le_of_ble_eq_true rfl) (fun p e s m below meth c hsz hr C => ?_)
  show j_i p l e rm_LR_runsOf s m _ below meth c sz D (WC ad cI) (LC ad) out 2 (WC ad cI st) [(0, .ref (ad 0)), (1, .int x1)] 0 []
  unfold f_LR_runsOf at hf
  refine xj_aload_n C d_LR_runsOf_0 rfl 0 rfl ?_
  refine xj_get C g_LR_12 0 rfl rfl d_LR_runsOf_1 ?_
  refine xj_iload_n C d_LR_runsOf_4 rfl 1 rfl ?_
  obtain ⟨o1, ho1, hf⟩ := xb_some hf
  refine xj_callVi (rest := []) C (c_Ch_has N ho1) Y_Ch_has i_LR_75 1 rfl rfl (by decide) ⟨rfl, rfl⟩ rfl rfl (Nat.le_of_ble_eq_true rfl) d_LR_runsOf_5 (fun q h => Or.inl h) ?_
  refine xj_if_eq (tgt := 32) C d_LR_runsOf_8 (by decide) (fun h9 => ?_) (fun h9 => ?_)
  · have hf := xi_pos h9 hf
    refine xj_iconst (v := (-1)) C d_LR_runsOf_32 rfl ?_
    exact xj_iret C hr hf d_LR_runsOf_33
  · have hf := xi_neg h9 hf
    refine xj_aload_n C d_LR_runsOf_11 rfl 0 rfl ?_
    refine xj_get C g_LR_37 0 rfl rfl d_LR_runsOf_12 ?_
    obtain ⟨o2, ho2, hf⟩ := xb_some hf
    refine xj_callVi (rest := []) C (c_Pl_hasPlan N ho2) Y_Pl_hasPlan i_LR_113 4 rfl rfl (by decide) ⟨rfl, rfl⟩ rfl rfl (Nat.le_of_ble_eq_true rfl) d_LR_runsOf_15 (fun q h => Or.inl h) ?_
    refine xj_if_eq (tgt := 32) C d_LR_runsOf_18 (by decide) (fun h9 => ?_) (fun h9 => ?_)
    · have hf := xi_pos h9 hf
      refine xj_iconst (v := (-1)) C d_LR_runsOf_32 rfl ?_
      exact xj_iret C hr hf d_LR_runsOf_33
    · have hf := xi_neg h9 hf
      refine xj_aload_n C d_LR_runsOf_21 rfl 0 rfl ?_
      refine xj_get C g_LR_37 0 rfl rfl d_LR_runsOf_22 ?_
      refine xj_iload_n C d_LR_runsOf_25 rfl 1 rfl ?_
      obtain ⟨o3, ho3, hf⟩ := xb_some hf
      refine xj_callVi (rest := []) C (c_Pl_runs N ho3) Y_Pl_runs i_LR_165 4 rfl rfl (by decide) ⟨rfl, rfl⟩ rfl rfl (Nat.le_of_ble_eq_true rfl) d_LR_runsOf_26 (fun q h => Or.inl h) ?_
      refine xj_goto (tgt := 33) C d_LR_runsOf_29 (by decide) ?_
      exact xj_iret C hr hf d_LR_runsOf_33
set_option maxHeartbeats 4000000 in
set_option maxRecDepth 20000 in
theorem c_LR_closed {l : Launch} {D : va_G} {ad : Nat → Nat} {cI : ClassId} (N : (LC ad).Nodup) {x1 x2 x3 : Int32} {st : St} {out : Int32 × St} (hf : f_LR_closed x1 x2 x3 st = some out) : xMi l y_LR_closed b_LR_closed 4 (some .boolean) rm_LR_closed D (tyC cI) (WC ad cI) (LC ad) [.ref (ad 0), .int x1, .int x2, .int x3] st out := by
  intro sz
  refine xM_of (L := LC ad) (by decide) (Nat.le_of_ble_eq_true rfl) (fun p e s m below meth c hsz hr C => ?_)
  show j_i p l e rm_LR_closed s m _ below meth c sz D (WC ad cI) (LC ad) out 4 (WC ad cI st) [(0, .ref (ad 0)), (1, .int x1), (2, .int x2), (3, .int x3)] 0 []
  unfold f_LR_closed at hf
  refine xj_aload_n C d_LR_closed_0 rfl 0 rfl ?_
  refine xj_get C g_LR_12 0 rfl rfl d_LR_closed_1 ?_
  refine xj_iload_n C d_LR_closed_4 rfl 1 rfl ?_
  obtain ⟨o1, ho1, hf⟩ := xb_some hf
  refine xj_callVi (rest := []) C (c_Ch_has N ho1) Y_Ch_has i_LR_75 1 rfl rfl (by decide) ⟨rfl, rfl⟩ rfl rfl (Nat.le_of_ble_eq_true rfl) d_LR_closed_5 (fun q h => Or.inl h) ?_
  refine xj_if_eq (tgt := 27) C d_LR_closed_8 (by decide) (fun h9 => ?_) (fun h9 => ?_)
  · have hf := xi_pos h9 hf
    refine xj_iconst (v := 0) C d_LR_closed_27 rfl ?_
    exact xj_zret C hr rfl hf d_LR_closed_28
  · have hf := xi_neg h9 hf
    refine xj_iload_n C d_LR_closed_11 rfl 2 rfl ?_
    refine xj_if_lt (tgt := 27) C d_LR_closed_12 (by decide) (fun h9 => ?_) (fun h9 => ?_)
    · have hf := xi_pos h9 hf
      refine xj_iconst (v := 0) C d_LR_closed_27 rfl ?_
      exact xj_zret C hr rfl hf d_LR_closed_28
    · have hf := xi_neg h9 hf
      refine xj_iload_n C d_LR_closed_15 rfl 2 rfl ?_
      refine xj_iload_n C d_LR_closed_16 rfl 3 rfl ?_
      refine xj_icmp_ge (tgt := 27) C d_LR_closed_17 (by decide) (fun h9 => ?_) (fun h9 => ?_)
      · have hf := xi_pos h9 hf
        refine xj_iconst (v := 0) C d_LR_closed_27 rfl ?_
        exact xj_zret C hr rfl hf d_LR_closed_28
      · have hf := xi_neg h9 hf
        refine xj_iload_n C d_LR_closed_20 rfl 3 rfl ?_
        refine xj_sipush (v := 10000) C d_LR_closed_21 rfl ?_
        refine xj_icmp_le (tgt := 29) C d_LR_closed_24 (by decide) (fun h9 => ?_) (fun h9 => ?_)
        · have hf := xi_pos h9 hf
          refine xj_aload_n C d_LR_closed_29 rfl 0 rfl ?_
          refine xj_get C g_LR_12 0 rfl rfl d_LR_closed_30 ?_
          refine xj_iload_n C d_LR_closed_33 rfl 1 rfl ?_
          refine xj_iload_n C d_LR_closed_34 rfl 2 rfl ?_
          refine xj_iload_n C d_LR_closed_35 rfl 3 rfl ?_
          obtain ⟨o2, ho2, hf⟩ := xb_some hf
          refine xj_callVi (rest := []) C (c_Ch_addSpan N ho2) Y_Ch_addSpan i_LR_79 1 rfl rfl (by decide) ⟨rfl, rfl⟩ rfl rfl (Nat.le_of_ble_eq_true rfl) d_LR_closed_36 (fun q h => Or.inl h) ?_
          refine xj_if_ne (tgt := 44) C d_LR_closed_39 (by decide) (fun h9 => ?_) (fun h9 => ?_)
          · have hf := xi_neg h9 hf
            refine xj_aload_n C d_LR_closed_44 rfl 0 rfl ?_
            refine xj_get C g_LR_37 0 rfl rfl d_LR_closed_45 ?_
            obtain ⟨o3, ho3, hf⟩ := xb_some hf
            refine xj_callVv (rest := []) C (c_Pl_forget N ho3) Y_Pl_forget i_LR_65 4 rfl rfl (by decide) ⟨rfl, rfl⟩ rfl rfl (Nat.le_of_ble_eq_true rfl) d_LR_closed_48 (fun q h => Or.inl h) ?_
            refine xj_iconst (v := 1) C d_LR_closed_51 rfl ?_
            exact xj_zret C hr rfl hf d_LR_closed_52
          · have hf := xi_pos h9 hf
            refine xj_iconst (v := 0) C d_LR_closed_42 rfl ?_
            exact xj_zret C hr rfl hf d_LR_closed_43
        · have hf := xi_neg h9 hf
          refine xj_iconst (v := 0) C d_LR_closed_27 rfl ?_
          exact xj_zret C hr rfl hf d_LR_closed_28
set_option maxHeartbeats 4000000 in
set_option maxRecDepth 20000 in
theorem c_LR_rule {l : Launch} {D : va_G} {ad : Nat → Nat} {cI : ClassId} (N : (LC ad).Nodup) {x1 x2 : Int32} {st : St} {out : Int32 × St} (hf : f_LR_rule x1 x2 st = some out) : xMi l y_LR_rule b_LR_rule 3 (some .boolean) rm_LR_rule D (tyC cI) (WC ad cI) (LC ad) [.ref (ad 0), .int x1, .int x2] st out := by
  intro sz
  refine xM_of (L := LC ad) (by decide) (Nat.le_of_ble_eq_true rfl) (fun p e s m below meth c hsz hr C => ?_)
  show j_i p l e rm_LR_rule s m _ below meth c sz D (WC ad cI) (LC ad) out 3 (WC ad cI st) [(0, .ref (ad 0)), (1, .int x1), (2, .int x2)] 0 []
  unfold f_LR_rule at hf
  refine xj_iload_n C d_LR_rule_0 rfl 1 rfl ?_
  refine xj_iconst (v := 0) C d_LR_rule_1 rfl ?_
  refine xj_iconst (v := 3) C d_LR_rule_2 rfl ?_
  obtain ⟨o1, ho1, hf⟩ := xb_some hf
  refine xj_callSi (rest := []) C (c_LR_within N ho1) Y_LR_within i_LR_45 (by decide) ⟨rfl, rfl⟩ rfl rfl (Nat.le_of_ble_eq_true rfl) d_LR_rule_3 (fun q h => Or.inl h) ?_
  refine xj_if_eq (tgt := 18) C d_LR_rule_6 (by decide) (fun h9 => ?_) (fun h9 => ?_)
  · have hf := xi_pos h9 hf
    refine xj_iconst (v := 0) C d_LR_rule_18 rfl ?_
    exact xj_zret C hr rfl hf d_LR_rule_19
  · have hf := xi_neg h9 hf
    refine xj_iload_n C d_LR_rule_9 rfl 2 rfl ?_
    refine xj_iconst (v := 0) C d_LR_rule_10 rfl ?_
    refine xj_iconst (v := 3) C d_LR_rule_11 rfl ?_
    obtain ⟨o2, ho2, hf⟩ := xb_some hf
    refine xj_callSi (rest := []) C (c_LR_within N ho2) Y_LR_within i_LR_45 (by decide) ⟨rfl, rfl⟩ rfl rfl (Nat.le_of_ble_eq_true rfl) d_LR_rule_12 (fun q h => Or.inl h) ?_
    refine xj_if_ne (tgt := 20) C d_LR_rule_15 (by decide) (fun h9 => ?_) (fun h9 => ?_)
    · have hf := xi_neg h9 hf
      refine xj_aload_n C d_LR_rule_20 rfl 0 rfl ?_
      refine xj_get C g_LR_28 0 rfl rfl d_LR_rule_21 ?_
      refine xj_iload_n C d_LR_rule_24 rfl 1 rfl ?_
      obtain ⟨o3, ho3, hf⟩ := xb_some hf
      refine xj_callVv (rest := []) C (c_Be_setGap N ho3) Y_Be_setGap i_LR_82 3 rfl rfl (by decide) ⟨rfl, rfl⟩ rfl rfl (Nat.le_of_ble_eq_true rfl) d_LR_rule_25 (fun q h => Or.inl h) ?_
      refine xj_aload_n C d_LR_rule_28 rfl 0 rfl ?_
      refine xj_get C g_LR_37 0 rfl rfl d_LR_rule_29 ?_
      refine xj_iload_n C d_LR_rule_32 rfl 2 rfl ?_
      obtain ⟨o4, ho4, hf⟩ := xb_some hf
      refine xj_callVv (rest := []) C (c_Pl_setOver N ho4) Y_Pl_setOver i_LR_86 4 rfl rfl (by decide) ⟨rfl, rfl⟩ rfl rfl (Nat.le_of_ble_eq_true rfl) d_LR_rule_33 (fun q h => Or.inl h) ?_
      refine xj_aload_n C d_LR_rule_36 rfl 0 rfl ?_
      refine xj_get C g_LR_37 0 rfl rfl d_LR_rule_37 ?_
      obtain ⟨o5, ho5, hf⟩ := xb_some hf
      refine xj_callVv (rest := []) C (c_Pl_forget N ho5) Y_Pl_forget i_LR_65 4 rfl rfl (by decide) ⟨rfl, rfl⟩ rfl rfl (Nat.le_of_ble_eq_true rfl) d_LR_rule_40 (fun q h => Or.inl h) ?_
      refine xj_iconst (v := 1) C d_LR_rule_43 rfl ?_
      exact xj_zret C hr rfl hf d_LR_rule_44
    · have hf := xi_pos h9 hf
      refine xj_iconst (v := 0) C d_LR_rule_18 rfl ?_
      exact xj_zret C hr rfl hf d_LR_rule_19
set_option maxHeartbeats 4000000 in
set_option maxRecDepth 20000 in
theorem c_LR_plan {l : Launch} {D : va_G} {ad : Nat → Nat} {cI : ClassId} (N : (LC ad).Nodup) {st : St} {out : Int32 × St} (hf : f_LR_plan  st = some out) : xMi l y_LR_plan b_LR_plan 1 (some .int) rm_LR_plan D (tyC cI) (WC ad cI) (LC ad) [.ref (ad 0)] st out := by
  intro sz
  refine xM_of (L := LC ad) (by decide) (Nat.le_of_ble_eq_true rfl) (fun p e s m below meth c hsz hr C => ?_)
  show j_i p l e rm_LR_plan s m _ below meth c sz D (WC ad cI) (LC ad) out 1 (WC ad cI st) [(0, .ref (ad 0))] 0 []
  unfold f_LR_plan at hf
  refine xj_aload_n C d_LR_plan_0 rfl 0 rfl ?_
  refine xj_get C g_LR_37 0 rfl rfl d_LR_plan_1 ?_
  obtain ⟨o1, ho1, hf⟩ := xb_some hf
  refine xj_callVi (rest := []) C (c_Pl_search N ho1) Y_Pl_search i_LR_89 4 rfl rfl (by decide) ⟨rfl, rfl⟩ rfl rfl (Nat.le_of_ble_eq_true rfl) d_LR_plan_4 (fun q h => Or.inl h) ?_
  refine xj_if_eq (tgt := 20) C d_LR_plan_7 (by decide) (fun h9 => ?_) (fun h9 => ?_)
  · have hf := xi_pos h9 hf
    refine xj_iconst (v := (-1)) C d_LR_plan_20 rfl ?_
    exact xj_iret C hr hf d_LR_plan_21
  · have hf := xi_neg h9 hf
    refine xj_aload_n C d_LR_plan_10 rfl 0 rfl ?_
    refine xj_get C g_LR_37 0 rfl rfl d_LR_plan_11 ?_
    obtain ⟨o2, ho2, hf⟩ := xb_some hf
    refine xj_callVi (rest := []) C (c_Pl_waiting N ho2) Y_Pl_waiting i_LR_93 4 rfl rfl (by decide) ⟨rfl, rfl⟩ rfl rfl (Nat.le_of_ble_eq_true rfl) d_LR_plan_14 (fun q h => Or.inl h) ?_
    refine xj_goto (tgt := 21) C d_LR_plan_17 (by decide) ?_
    exact xj_iret C hr hf d_LR_plan_21
set_option maxHeartbeats 4000000 in
set_option maxRecDepth 20000 in
theorem c_LR_count {l : Launch} {D : va_G} {ad : Nat → Nat} {cI : ClassId} (N : (LC ad).Nodup) {x1 : Int32} {st : St} {out : Int32 × St} (hf : f_LR_count x1 st = some out) : xMi l y_LR_count b_LR_count 2 (some .int) rm_LR_count D (tyC cI) (WC ad cI) (LC ad) [.ref (ad 0), .int x1] st out := by
  intro sz
  refine xM_of (L := LC ad) (by decide) (Nat.le_of_ble_eq_true rfl) (fun p e s m below meth c hsz hr C => ?_)
  show j_i p l e rm_LR_count s m _ below meth c sz D (WC ad cI) (LC ad) out 2 (WC ad cI st) [(0, .ref (ad 0)), (1, .int x1)] 0 []
  unfold f_LR_count at hf
  refine xj_iload_n C d_LR_count_0 rfl 1 rfl ?_
  by_cases h09 : x1 = 0
  · have hf := xi_pos h09 hf
    refine xj_tableIn (tgt := 48) C d_LR_count_1 (by rw [h09]; decide) (by rw [h09]; decide) (by rw [h09]; rfl) (by decide) ?_
    refine xj_aload_n C d_LR_count_48 rfl 0 rfl ?_
    refine xj_get C g_LR_12 0 rfl rfl d_LR_count_49 ?_
    obtain ⟨o1, ho1, hf⟩ := xb_some hf
    refine xj_callVi (rest := []) C (c_Ch_size N ho1) Y_Ch_size i_LR_141 1 rfl rfl (by decide) ⟨rfl, rfl⟩ rfl rfl (Nat.le_of_ble_eq_true rfl) d_LR_count_52 (fun q h => Or.inl h) ?_
    exact xj_iret C hr hf d_LR_count_55
  have hf := xi_neg h09 hf
  by_cases h19 : x1 = 1
  · have hf := xi_pos h19 hf
    refine xj_tableIn (tgt := 56) C d_LR_count_1 (by rw [h19]; decide) (by rw [h19]; decide) (by rw [h19]; rfl) (by decide) ?_
    refine xj_aload_n C d_LR_count_56 rfl 0 rfl ?_
    refine xj_get C g_LR_19 0 rfl rfl d_LR_count_57 ?_
    obtain ⟨o2, ho2, hf⟩ := xb_some hf
    refine xj_callVi (rest := []) C (c_Fl_size N ho2) Y_Fl_size i_LR_151 2 rfl rfl (by decide) ⟨rfl, rfl⟩ rfl rfl (Nat.le_of_ble_eq_true rfl) d_LR_count_60 (fun q h => Or.inl h) ?_
    exact xj_iret C hr hf d_LR_count_63
  have hf := xi_neg h19 hf
  by_cases h29 : x1 = 2
  · have hf := xi_pos h29 hf
    refine xj_tableIn (tgt := 64) C d_LR_count_1 (by rw [h29]; decide) (by rw [h29]; decide) (by rw [h29]; rfl) (by decide) ?_
    refine xj_aload_n C d_LR_count_64 rfl 0 rfl ?_
    refine xj_get C g_LR_12 0 rfl rfl d_LR_count_65 ?_
    obtain ⟨o3, ho3, hf⟩ := xb_some hf
    refine xj_callVi (rest := []) C (c_Ch_spans N ho3) Y_Ch_spans i_LR_152 1 rfl rfl (by decide) ⟨rfl, rfl⟩ rfl rfl (Nat.le_of_ble_eq_true rfl) d_LR_count_68 (fun q h => Or.inl h) ?_
    exact xj_iret C hr hf d_LR_count_71
  have hf := xi_neg h29 hf
  by_cases h39 : x1 = 3
  · have hf := xi_pos h39 hf
    refine xj_tableIn (tgt := 72) C d_LR_count_1 (by rw [h39]; decide) (by rw [h39]; decide) (by rw [h39]; rfl) (by decide) ?_
    refine xj_aload_n C d_LR_count_72 rfl 0 rfl ?_
    refine xj_get C g_LR_37 0 rfl rfl d_LR_count_73 ?_
    obtain ⟨o4, ho4, hf⟩ := xb_some hf
    refine xj_callVi (rest := []) C (c_Pl_hasPlan N ho4) Y_Pl_hasPlan i_LR_113 4 rfl rfl (by decide) ⟨rfl, rfl⟩ rfl rfl (Nat.le_of_ble_eq_true rfl) d_LR_count_76 (fun q h => Or.inl h) ?_
    refine xj_if_eq (tgt := 86) C d_LR_count_79 (by decide) (fun h9 => ?_) (fun h9 => ?_)
    · have hf := xi_pos h9 hf
      refine xj_iconst (v := 0) C d_LR_count_86 rfl ?_
      exact xj_iret C hr hf d_LR_count_87
    · have hf := xi_neg h9 hf
      refine xj_iconst (v := 1) C d_LR_count_82 rfl ?_
      refine xj_goto (tgt := 87) C d_LR_count_83 (by decide) ?_
      exact xj_iret C hr hf d_LR_count_87
  have hf := xi_neg h39 hf
  by_cases h49 : x1 = 4
  · have hf := xi_pos h49 hf
    refine xj_tableIn (tgt := 88) C d_LR_count_1 (by rw [h49]; decide) (by rw [h49]; decide) (by rw [h49]; rfl) (by decide) ?_
    refine xj_aload_n C d_LR_count_88 rfl 0 rfl ?_
    refine xj_get C g_LR_28 0 rfl rfl d_LR_count_89 ?_
    obtain ⟨o5, ho5, hf⟩ := xb_some hf
    refine xj_callVi (rest := []) C (c_Be_gap N ho5) Y_Be_gap i_LR_155 3 rfl rfl (by decide) ⟨rfl, rfl⟩ rfl rfl (Nat.le_of_ble_eq_true rfl) d_LR_count_92 (fun q h => Or.inl h) ?_
    exact xj_iret C hr hf d_LR_count_95
  have hf := xi_neg h49 hf
  by_cases h59 : x1 = 5
  · have hf := xi_pos h59 hf
    refine xj_tableIn (tgt := 96) C d_LR_count_1 (by rw [h59]; decide) (by rw [h59]; decide) (by rw [h59]; rfl) (by decide) ?_
    refine xj_aload_n C d_LR_count_96 rfl 0 rfl ?_
    refine xj_get C g_LR_37 0 rfl rfl d_LR_count_97 ?_
    obtain ⟨o6, ho6, hf⟩ := xb_some hf
    refine xj_callVi (rest := []) C (c_Pl_over N ho6) Y_Pl_over i_LR_158 4 rfl rfl (by decide) ⟨rfl, rfl⟩ rfl rfl (Nat.le_of_ble_eq_true rfl) d_LR_count_100 (fun q h => Or.inl h) ?_
    exact xj_iret C hr hf d_LR_count_103
  have hf := xi_neg h59 hf
  by_cases h69 : x1 = 6
  · have hf := xi_pos h69 hf
    refine xj_tableIn (tgt := 104) C d_LR_count_1 (by rw [h69]; decide) (by rw [h69]; decide) (by rw [h69]; rfl) (by decide) ?_
    refine xj_aload_n C d_LR_count_104 rfl 0 rfl ?_
    refine xj_iconst (v := 0) C d_LR_count_105 rfl ?_
    obtain ⟨o7, ho7, hf⟩ := xb_some hf
    refine xj_callVi (rest := []) C (c_LR_runsOf N ho7) Y_LR_runsOf i_LR_161 0 rfl rfl (by decide) ⟨rfl, rfl⟩ rfl rfl (Nat.le_of_ble_eq_true rfl) d_LR_count_106 (fun q h => Or.inl h) ?_
    exact xj_iret C hr hf d_LR_count_109
  have hf := xi_neg h69 hf
  by_cases h79 : x1 = 7
  · have hf := xi_pos h79 hf
    refine xj_tableIn (tgt := 110) C d_LR_count_1 (by rw [h79]; decide) (by rw [h79]; decide) (by rw [h79]; rfl) (by decide) ?_
    refine xj_aload_n C d_LR_count_110 rfl 0 rfl ?_
    refine xj_iconst (v := 1) C d_LR_count_111 rfl ?_
    obtain ⟨o8, ho8, hf⟩ := xb_some hf
    refine xj_callVi (rest := []) C (c_LR_runsOf N ho8) Y_LR_runsOf i_LR_161 0 rfl rfl (by decide) ⟨rfl, rfl⟩ rfl rfl (Nat.le_of_ble_eq_true rfl) d_LR_count_112 (fun q h => Or.inl h) ?_
    exact xj_iret C hr hf d_LR_count_115
  have hf := xi_neg h79 hf
  refine xj_tableOut (tgt := 116) C d_LR_count_1 (xsw_out 8 (by decide) (fun k hk => by rcases xlt_8 hk with rfl | rfl | rfl | rfl | rfl | rfl | rfl | rfl <;> assumption)) (by decide) ?_
  refine xj_iconst (v := (-1)) C d_LR_count_116 rfl ?_
  exact xj_iret C hr hf d_LR_count_117
