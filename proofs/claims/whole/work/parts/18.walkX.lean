set_option maxHeartbeats 4000000 in
set_option maxRecDepth 20000 in
theorem c_LR_chamber {l : Launch} {D : va_G} {ad : Nat → Nat} {cI : ClassId} {s0 : State} (N : (LC ad).Nodup) (hlt : l.stackTraces = false) (hL0 : ∀ q ∈ LC ad, s0.heap.size ≤ q) {x1 x2 x3 : Int32} {st : St} {out : (Nat × Int32) × St} (hf : f_LR_chamber x1 x2 x3 st = some out) : xMx s0 l y_LR_chamber b_LR_chamber 5 (some .int) rm_LR_chamber D (tyC cI) (WC ad cI) (LC ad) [.ref (ad 0), .int x1, .int x2, .int x3] st out := by
  intro sz
  refine xMx_of (L := LC ad) (by decide) (Nat.le_of_ble_eq_true rfl) (fun p e s m below meth c hsz hr hex Z C => ?_)
  show j_x p l e rm_LR_chamber s m _ below meth c sz D (WC ad cI) (LC ad) out 5 (WC ad cI st) [(0, .ref (ad 0)), (1, .int x1), (2, .int x2), (3, .int x3)] 0 []
  unfold f_LR_chamber at hf
  refine xj_iload_n C d_LR_chamber_0 rfl 1 rfl ?_
  refine xj_iload_n C d_LR_chamber_1 rfl 2 rfl ?_
  obtain ⟨o1, ho1, hf⟩ := xb_some hf
  refine xj_callSi (rest := []) C (c_LR_canMeasure N ho1) Y_LR_canMeasure i_LR_41 (by decide) ⟨rfl, rfl⟩ rfl rfl (Nat.le_of_ble_eq_true rfl) d_LR_chamber_2 (fun q h => Or.inl h) ?_
  refine xj_if_eq (tgt := 18) C d_LR_chamber_5 (by decide) (fun h9 => ?_) (fun h9 => ?_)
  · have hf := xi_pos h9 hf
    exact xj_throw C hlt hex Z hL0 hsz e_LR_51 hf (by decide) (Nat.le_of_ble_eq_true rfl) (by decide) (by decide) d_LR_chamber_18 d_LR_chamber_21 d_LR_chamber_22 d_LR_chamber_24 d_LR_chamber_27
  · have hf := xi_neg h9 hf
    refine xj_iload_n C d_LR_chamber_8 rfl 3 rfl ?_
    refine xj_iconst (v := 1) C d_LR_chamber_9 rfl ?_
    refine xj_bipush (v := 60) C d_LR_chamber_10 rfl ?_
    obtain ⟨o2, ho2, hf⟩ := xb_some hf
    refine xj_callSi (rest := []) C (c_LR_within N ho2) Y_LR_within i_LR_45 (by decide) ⟨rfl, rfl⟩ rfl rfl (Nat.le_of_ble_eq_true rfl) d_LR_chamber_12 (fun q h => Or.inl h) ?_
    refine xj_if_ne (tgt := 28) C d_LR_chamber_15 (by decide) (fun h9 => ?_) (fun h9 => ?_)
    · have hf := xi_neg h9 hf
      refine xj_aload_n C d_LR_chamber_28 rfl 0 rfl ?_
      refine xj_get C g_LR_12 0 rfl rfl d_LR_chamber_29 ?_
      refine xj_iload_n C d_LR_chamber_32 rfl 1 rfl ?_
      refine xj_iload_n C d_LR_chamber_33 rfl 2 rfl ?_
      refine xj_iload_n C d_LR_chamber_34 rfl 3 rfl ?_
      obtain ⟨o3, ho3, hf⟩ := xb_some hf
      refine xj_callVi (rest := []) C (c_Ch_add N ho3) Y_Ch_add i_LR_56 1 rfl rfl (by decide) ⟨rfl, rfl⟩ rfl rfl (Nat.le_of_ble_eq_true rfl) d_LR_chamber_35 (fun q h => Or.inl h) ?_
      refine xj_istore C d_LR_chamber_38 (by decide) rfl ?_
      refine xj_iload C d_LR_chamber_40 0 rfl ?_
      refine xj_iconst (v := (-1)) C d_LR_chamber_42 rfl ?_
      refine xj_icmp_ne (tgt := 56) C d_LR_chamber_43 (by decide) (fun h9 => ?_) (fun h9 => ?_)
      · have hf := xi_neg h9 hf
        refine xj_aload_n C d_LR_chamber_56 rfl 1 rfl ?_
        refine xj_get C g_LR_37 0 rfl rfl d_LR_chamber_57 ?_
        obtain ⟨o4, ho4, hf⟩ := xb_some hf
        refine xj_callVv (rest := []) C (c_Pl_forget N ho4) Y_Pl_forget i_LR_65 4 rfl rfl (by decide) ⟨rfl, rfl⟩ rfl rfl (Nat.le_of_ble_eq_true rfl) d_LR_chamber_60 (fun q h => Or.inl h) ?_
        refine xj_iload C d_LR_chamber_63 0 rfl ?_
        exact xj_xret C hr rfl hf d_LR_chamber_65
      · have hf := xi_pos h9 hf
        exact xj_throw C hlt hex Z hL0 hsz e_LR_62 hf (by decide) (Nat.le_of_ble_eq_true rfl) (by decide) (by decide) d_LR_chamber_46 d_LR_chamber_49 d_LR_chamber_50 d_LR_chamber_52 d_LR_chamber_55
    · have hf := xi_pos h9 hf
      exact xj_throw C hlt hex Z hL0 hsz e_LR_51 hf (by decide) (Nat.le_of_ble_eq_true rfl) (by decide) (by decide) d_LR_chamber_18 d_LR_chamber_21 d_LR_chamber_22 d_LR_chamber_24 d_LR_chamber_27
set_option maxHeartbeats 4000000 in
set_option maxRecDepth 20000 in
theorem c_LR_ship {l : Launch} {D : va_G} {ad : Nat → Nat} {cI : ClassId} {s0 : State} (N : (LC ad).Nodup) (hlt : l.stackTraces = false) (hL0 : ∀ q ∈ LC ad, s0.heap.size ≤ q) {x1 x2 x3 x4 x5 : Int32} {st : St} {out : (Nat × Int32) × St} (hf : f_LR_ship x1 x2 x3 x4 x5 st = some out) : xMx s0 l y_LR_ship b_LR_ship 7 (some .int) rm_LR_ship D (tyC cI) (WC ad cI) (LC ad) [.ref (ad 0), .int x1, .int x2, .int x3, .int x4, .int x5] st out := by
  intro sz
  refine xMx_of (L := LC ad) (by decide) (Nat.le_of_ble_eq_true rfl) (fun p e s m below meth c hsz hr hex Z C => ?_)
  show j_x p l e rm_LR_ship s m _ below meth c sz D (WC ad cI) (LC ad) out 7 (WC ad cI st) [(0, .ref (ad 0)), (1, .int x1), (2, .int x2), (3, .int x3), (4, .int x4), (5, .int x5)] 0 []
  unfold f_LR_ship at hf
  refine xj_iload_n C d_LR_ship_0 rfl 1 rfl ?_
  refine xj_iload_n C d_LR_ship_1 rfl 2 rfl ?_
  obtain ⟨o1, ho1, hf⟩ := xb_some hf
  refine xj_callSi (rest := []) C (c_LR_canMeasure N ho1) Y_LR_canMeasure i_LR_41 (by decide) ⟨rfl, rfl⟩ rfl rfl (Nat.le_of_ble_eq_true rfl) d_LR_ship_2 (fun q h => Or.inl h) ?_
  refine xj_if_eq (tgt := 39) C d_LR_ship_5 (by decide) (fun h9 => ?_) (fun h9 => ?_)
  · have hf := xi_pos h9 hf
    exact xj_throw C hlt hex Z hL0 hsz e_LR_68 hf (by decide) (Nat.le_of_ble_eq_true rfl) (by decide) (by decide) d_LR_ship_39 d_LR_ship_42 d_LR_ship_43 d_LR_ship_45 d_LR_ship_48
  · have hf := xi_neg h9 hf
    refine xj_iload_n C d_LR_ship_8 rfl 3 rfl ?_
    refine xj_iconst (v := 0) C d_LR_ship_9 rfl ?_
    refine xj_sipush (v := 1000) C d_LR_ship_10 rfl ?_
    obtain ⟨o2, ho2, hf⟩ := xb_some hf
    refine xj_callSi (rest := []) C (c_LR_within N ho2) Y_LR_within i_LR_45 (by decide) ⟨rfl, rfl⟩ rfl rfl (Nat.le_of_ble_eq_true rfl) d_LR_ship_13 (fun q h => Or.inl h) ?_
    refine xj_if_eq (tgt := 39) C d_LR_ship_16 (by decide) (fun h9 => ?_) (fun h9 => ?_)
    · have hf := xi_pos h9 hf
      exact xj_throw C hlt hex Z hL0 hsz e_LR_68 hf (by decide) (Nat.le_of_ble_eq_true rfl) (by decide) (by decide) d_LR_ship_39 d_LR_ship_42 d_LR_ship_43 d_LR_ship_45 d_LR_ship_48
    · have hf := xi_neg h9 hf
      refine xj_iload C d_LR_ship_19 4 rfl ?_
      refine xj_iconst (v := 0) C d_LR_ship_21 rfl ?_
      refine xj_iconst (v := 1) C d_LR_ship_22 rfl ?_
      obtain ⟨o3, ho3, hf⟩ := xb_some hf
      refine xj_callSi (rest := []) C (c_LR_within N ho3) Y_LR_within i_LR_45 (by decide) ⟨rfl, rfl⟩ rfl rfl (Nat.le_of_ble_eq_true rfl) d_LR_ship_23 (fun q h => Or.inl h) ?_
      refine xj_if_eq (tgt := 39) C d_LR_ship_26 (by decide) (fun h9 => ?_) (fun h9 => ?_)
      · have hf := xi_pos h9 hf
        exact xj_throw C hlt hex Z hL0 hsz e_LR_68 hf (by decide) (Nat.le_of_ble_eq_true rfl) (by decide) (by decide) d_LR_ship_39 d_LR_ship_42 d_LR_ship_43 d_LR_ship_45 d_LR_ship_48
      · have hf := xi_neg h9 hf
        refine xj_iload C d_LR_ship_29 5 rfl ?_
        refine xj_iconst (v := 0) C d_LR_ship_31 rfl ?_
        refine xj_iconst (v := 2) C d_LR_ship_32 rfl ?_
        obtain ⟨o4, ho4, hf⟩ := xb_some hf
        refine xj_callSi (rest := []) C (c_LR_within N ho4) Y_LR_within i_LR_45 (by decide) ⟨rfl, rfl⟩ rfl rfl (Nat.le_of_ble_eq_true rfl) d_LR_ship_33 (fun q h => Or.inl h) ?_
        refine xj_if_ne (tgt := 49) C d_LR_ship_36 (by decide) (fun h9 => ?_) (fun h9 => ?_)
        · have hf := xi_neg h9 hf
          refine xj_aload_n C d_LR_ship_49 rfl 0 rfl ?_
          refine xj_get C g_LR_19 0 rfl rfl d_LR_ship_50 ?_
          refine xj_iload_n C d_LR_ship_53 rfl 1 rfl ?_
          refine xj_iload_n C d_LR_ship_54 rfl 2 rfl ?_
          refine xj_iload_n C d_LR_ship_55 rfl 3 rfl ?_
          refine xj_iload C d_LR_ship_56 4 rfl ?_
          refine xj_iload C d_LR_ship_58 5 rfl ?_
          obtain ⟨o5, ho5, hf⟩ := xb_some hf
          refine xj_callVi (rest := []) C (c_Fl_add N ho5) Y_Fl_add i_LR_70 2 rfl rfl (by decide) ⟨rfl, rfl⟩ rfl rfl (Nat.le_of_ble_eq_true rfl) d_LR_ship_60 (fun q h => Or.inl h) ?_
          refine xj_istore C d_LR_ship_63 (by decide) rfl ?_
          refine xj_iload C d_LR_ship_65 0 rfl ?_
          refine xj_iconst (v := (-1)) C d_LR_ship_67 rfl ?_
          refine xj_icmp_ne (tgt := 81) C d_LR_ship_68 (by decide) (fun h9 => ?_) (fun h9 => ?_)
          · have hf := xi_neg h9 hf
            refine xj_aload_n C d_LR_ship_81 rfl 1 rfl ?_
            refine xj_get C g_LR_37 0 rfl rfl d_LR_ship_82 ?_
            obtain ⟨o6, ho6, hf⟩ := xb_some hf
            refine xj_callVv (rest := []) C (c_Pl_forget N ho6) Y_Pl_forget i_LR_65 4 rfl rfl (by decide) ⟨rfl, rfl⟩ rfl rfl (Nat.le_of_ble_eq_true rfl) d_LR_ship_85 (fun q h => Or.inl h) ?_
            refine xj_iload C d_LR_ship_88 0 rfl ?_
            exact xj_xret C hr rfl hf d_LR_ship_90
          · have hf := xi_pos h9 hf
            exact xj_throw C hlt hex Z hL0 hsz e_LR_73 hf (by decide) (Nat.le_of_ble_eq_true rfl) (by decide) (by decide) d_LR_ship_71 d_LR_ship_74 d_LR_ship_75 d_LR_ship_77 d_LR_ship_80
        · have hf := xi_pos h9 hf
          exact xj_throw C hlt hex Z hL0 hsz e_LR_68 hf (by decide) (Nat.le_of_ble_eq_true rfl) (by decide) (by decide) d_LR_ship_39 d_LR_ship_42 d_LR_ship_43 d_LR_ship_45 d_LR_ship_48
set_option maxHeartbeats 4000000 in
set_option maxRecDepth 20000 in
theorem c_LR_fits {l : Launch} {D : va_G} {ad : Nat → Nat} {cI : ClassId} {s0 : State} (N : (LC ad).Nodup) (hlt : l.stackTraces = false) (hL0 : ∀ q ∈ LC ad, s0.heap.size ≤ q) {x1 x2 : Int32} {st : St} {out : (Nat × Int32) × St} (hf : f_LR_fits x1 x2 st = some out) : xMx s0 l y_LR_fits b_LR_fits 3 (some .boolean) rm_LR_fits D (tyC cI) (WC ad cI) (LC ad) [.ref (ad 0), .int x1, .int x2] st out := by
  intro sz
  refine xMx_of (L := LC ad) (by decide) (Nat.le_of_ble_eq_true rfl) (fun p e s m below meth c hsz hr hex Z C => ?_)
  show j_x p l e rm_LR_fits s m _ below meth c sz D (WC ad cI) (LC ad) out 3 (WC ad cI st) [(0, .ref (ad 0)), (1, .int x1), (2, .int x2)] 0 []
  unfold f_LR_fits at hf
  refine xj_aload_n C d_LR_fits_0 rfl 0 rfl ?_
  refine xj_get C g_LR_12 0 rfl rfl d_LR_fits_1 ?_
  refine xj_iload_n C d_LR_fits_4 rfl 1 rfl ?_
  obtain ⟨o1, ho1, hf⟩ := xb_some hf
  refine xj_callVi (rest := []) C (c_Ch_has N ho1) Y_Ch_has i_LR_75 1 rfl rfl (by decide) ⟨rfl, rfl⟩ rfl rfl (Nat.le_of_ble_eq_true rfl) d_LR_fits_5 (fun q h => Or.inl h) ?_
  refine xj_if_ne (tgt := 21) C d_LR_fits_8 (by decide) (fun h9 => ?_) (fun h9 => ?_)
  · have hf := xi_neg h9 hf
    refine xj_iload_n C d_LR_fits_21 rfl 2 rfl ?_
    refine xj_aload_n C d_LR_fits_22 rfl 0 rfl ?_
    refine xj_get C g_LR_19 0 rfl rfl d_LR_fits_23 ?_
    obtain ⟨o2, ho2, hf⟩ := xb_some hf
    refine xj_callVi (rest := [.int x2]) C (c_Fl_all N ho2) Y_Fl_all i_LR_99 2 rfl rfl (by decide) ⟨rfl, rfl⟩ rfl rfl (Nat.le_of_ble_eq_true rfl) d_LR_fits_26 (fun q h => Or.inl h) ?_
    refine xj_iconst (v := (-1)) C d_LR_fits_29 rfl ?_
    refine xj_ixor C d_LR_fits_30 ?_
    refine xj_iand C d_LR_fits_31 ?_
    refine xj_if_eq (tgt := 45) C d_LR_fits_32 (by decide) (fun h9 => ?_) (fun h9 => ?_)
    · have hf := xi_pos h9 hf
      refine xj_aload_n C d_LR_fits_45 rfl 0 rfl ?_
      refine xj_get C g_LR_28 0 rfl rfl d_LR_fits_46 ?_
      refine xj_iload_n C d_LR_fits_49 rfl 1 rfl ?_
      refine xj_iload_n C d_LR_fits_50 rfl 2 rfl ?_
      obtain ⟨o3, ho3, hf⟩ := xb_some hf
      refine xj_callVi (rest := []) C (c_Be_canLay N ho3) Y_Be_canLay i_LR_104 3 rfl rfl (by decide) ⟨rfl, rfl⟩ rfl rfl (Nat.le_of_ble_eq_true rfl) d_LR_fits_51 (fun q h => Or.inl h) ?_
      obtain ⟨g4, hf⟩ := xb_guard hf
      exact xj_xret C hr (xb_narrow g4) hf d_LR_fits_54
    · have hf := xi_neg h9 hf
      exact xj_throw C hlt hex Z hL0 hsz e_LR_102 hf (by decide) (Nat.le_of_ble_eq_true rfl) (by decide) (by decide) d_LR_fits_35 d_LR_fits_38 d_LR_fits_39 d_LR_fits_41 d_LR_fits_44
  · have hf := xi_pos h9 hf
    exact xj_throw C hlt hex Z hL0 hsz e_LR_97 hf (by decide) (Nat.le_of_ble_eq_true rfl) (by decide) (by decide) d_LR_fits_11 d_LR_fits_14 d_LR_fits_15 d_LR_fits_17 d_LR_fits_20
set_option maxHeartbeats 4000000 in
set_option maxRecDepth 20000 in
theorem c_LR_of {l : Launch} {D : va_G} {ad : Nat → Nat} {cI : ClassId} {s0 : State} (N : (LC ad).Nodup) (hlt : l.stackTraces = false) (hL0 : ∀ q ∈ LC ad, s0.heap.size ≤ q) {x1 x2 : Int32} {st : St} {out : (Nat × Int32) × St} (hf : f_LR_of x1 x2 st = some out) : xMx s0 l y_LR_of b_LR_of 3 (some .int) rm_LR_of D (tyC cI) (WC ad cI) (LC ad) [.ref (ad 0), .int x1, .int x2] st out := by
  intro sz
  refine xMx_of (L := LC ad) (by decide) (Nat.le_of_ble_eq_true rfl) (fun p e s m below meth c hsz hr hex Z C => ?_)
  show j_x p l e rm_LR_of s m _ below meth c sz D (WC ad cI) (LC ad) out 3 (WC ad cI st) [(0, .ref (ad 0)), (1, .int x1), (2, .int x2)] 0 []
  unfold f_LR_of at hf
  refine xj_aload_n C d_LR_of_0 rfl 0 rfl ?_
  refine xj_get C g_LR_19 0 rfl rfl d_LR_of_1 ?_
  refine xj_iload_n C d_LR_of_4 rfl 1 rfl ?_
  obtain ⟨o1, ho1, hf⟩ := xb_some hf
  refine xj_callVi (rest := []) C (c_Fl_has N ho1) Y_Fl_has i_LR_107 2 rfl rfl (by decide) ⟨rfl, rfl⟩ rfl rfl (Nat.le_of_ble_eq_true rfl) d_LR_of_5 (fun q h => Or.inl h) ?_
  refine xj_if_eq (tgt := 21) C d_LR_of_8 (by decide) (fun h9 => ?_) (fun h9 => ?_)
  · have hf := xi_pos h9 hf
    exact xj_throw C hlt hex Z hL0 hsz e_LR_110 hf (by decide) (Nat.le_of_ble_eq_true rfl) (by decide) (by decide) d_LR_of_21 d_LR_of_24 d_LR_of_25 d_LR_of_27 d_LR_of_30
  · have hf := xi_neg h9 hf
    refine xj_iload_n C d_LR_of_11 rfl 2 rfl ?_
    refine xj_iconst (v := 0) C d_LR_of_12 rfl ?_
    refine xj_bipush (v := 6) C d_LR_of_13 rfl ?_
    obtain ⟨o2, ho2, hf⟩ := xb_some hf
    refine xj_callSi (rest := []) C (c_LR_within N ho2) Y_LR_within i_LR_45 (by decide) ⟨rfl, rfl⟩ rfl rfl (Nat.le_of_ble_eq_true rfl) d_LR_of_15 (fun q h => Or.inl h) ?_
    refine xj_if_ne (tgt := 31) C d_LR_of_18 (by decide) (fun h9 => ?_) (fun h9 => ?_)
    · have hf := xi_neg h9 hf
      refine xj_aload_n C d_LR_of_31 rfl 0 rfl ?_
      refine xj_get C g_LR_37 0 rfl rfl d_LR_of_32 ?_
      obtain ⟨o3, ho3, hf⟩ := xb_some hf
      refine xj_callVi (rest := []) C (c_Pl_hasPlan N ho3) Y_Pl_hasPlan i_LR_113 4 rfl rfl (by decide) ⟨rfl, rfl⟩ rfl rfl (Nat.le_of_ble_eq_true rfl) d_LR_of_35 (fun q h => Or.inl h) ?_
      refine xj_if_ne (tgt := 51) C d_LR_of_38 (by decide) (fun h9 => ?_) (fun h9 => ?_)
      · have hf := xi_neg h9 hf
        refine xj_aload_n C d_LR_of_51 rfl 0 rfl ?_
        refine xj_get C g_LR_37 0 rfl rfl d_LR_of_52 ?_
        refine xj_iload_n C d_LR_of_55 rfl 1 rfl ?_
        refine xj_iload_n C d_LR_of_56 rfl 2 rfl ?_
        obtain ⟨o4, ho4, hf⟩ := xb_some hf
        refine xj_callVi (rest := []) C (c_Pl_tellShip N ho4) Y_Pl_tellShip i_LR_118 4 rfl rfl (by decide) ⟨rfl, rfl⟩ rfl rfl (Nat.le_of_ble_eq_true rfl) d_LR_of_57 (fun q h => Or.inl h) ?_
        exact xj_xret C hr rfl hf d_LR_of_60
      · have hf := xi_pos h9 hf
        exact xj_throw C hlt hex Z hL0 hsz e_LR_116 hf (by decide) (Nat.le_of_ble_eq_true rfl) (by decide) (by decide) d_LR_of_41 d_LR_of_44 d_LR_of_45 d_LR_of_47 d_LR_of_50
    · have hf := xi_pos h9 hf
      exact xj_throw C hlt hex Z hL0 hsz e_LR_110 hf (by decide) (Nat.le_of_ble_eq_true rfl) (by decide) (by decide) d_LR_of_21 d_LR_of_24 d_LR_of_25 d_LR_of_27 d_LR_of_30
set_option maxHeartbeats 4000000 in
set_option maxRecDepth 20000 in
theorem c_LR_run {l : Launch} {D : va_G} {ad : Nat → Nat} {cI : ClassId} {s0 : State} (N : (LC ad).Nodup) (hlt : l.stackTraces = false) (hL0 : ∀ q ∈ LC ad, s0.heap.size ≤ q) {x1 x2 x3 : Int32} {st : St} {out : (Nat × Int32) × St} (hf : f_LR_run x1 x2 x3 st = some out) : xMx s0 l y_LR_run b_LR_run 4 (some .int) rm_LR_run D (tyC cI) (WC ad cI) (LC ad) [.ref (ad 0), .int x1, .int x2, .int x3] st out := by
  intro sz
  refine xMx_of (L := LC ad) (by decide) (Nat.le_of_ble_eq_true rfl) (fun p e s m below meth c hsz hr hex Z C => ?_)
  show j_x p l e rm_LR_run s m _ below meth c sz D (WC ad cI) (LC ad) out 4 (WC ad cI st) [(0, .ref (ad 0)), (1, .int x1), (2, .int x2), (3, .int x3)] 0 []
  unfold f_LR_run at hf
  refine xj_aload_n C d_LR_run_0 rfl 0 rfl ?_
  refine xj_get C g_LR_12 0 rfl rfl d_LR_run_1 ?_
  refine xj_iload_n C d_LR_run_4 rfl 1 rfl ?_
  obtain ⟨o1, ho1, hf⟩ := xb_some hf
  refine xj_callVi (rest := []) C (c_Ch_has N ho1) Y_Ch_has i_LR_75 1 rfl rfl (by decide) ⟨rfl, rfl⟩ rfl rfl (Nat.le_of_ble_eq_true rfl) d_LR_run_5 (fun q h => Or.inl h) ?_
  refine xj_if_eq (tgt := 20) C d_LR_run_8 (by decide) (fun h9 => ?_) (fun h9 => ?_)
  · have hf := xi_pos h9 hf
    exact xj_throw C hlt hex Z hL0 hsz e_LR_122 hf (by decide) (Nat.le_of_ble_eq_true rfl) (by decide) (by decide) d_LR_run_20 d_LR_run_23 d_LR_run_24 d_LR_run_26 d_LR_run_29
  · have hf := xi_neg h9 hf
    refine xj_iload_n C d_LR_run_11 rfl 3 rfl ?_
    refine xj_iconst (v := 0) C d_LR_run_12 rfl ?_
    refine xj_iconst (v := 2) C d_LR_run_13 rfl ?_
    obtain ⟨o2, ho2, hf⟩ := xb_some hf
    refine xj_callSi (rest := []) C (c_LR_within N ho2) Y_LR_within i_LR_45 (by decide) ⟨rfl, rfl⟩ rfl rfl (Nat.le_of_ble_eq_true rfl) d_LR_run_14 (fun q h => Or.inl h) ?_
    refine xj_if_ne (tgt := 30) C d_LR_run_17 (by decide) (fun h9 => ?_) (fun h9 => ?_)
    · have hf := xi_neg h9 hf
      refine xj_aload_n C d_LR_run_30 rfl 0 rfl ?_
      refine xj_get C g_LR_37 0 rfl rfl d_LR_run_31 ?_
      obtain ⟨o3, ho3, hf⟩ := xb_some hf
      refine xj_callVi (rest := []) C (c_Pl_hasPlan N ho3) Y_Pl_hasPlan i_LR_113 4 rfl rfl (by decide) ⟨rfl, rfl⟩ rfl rfl (Nat.le_of_ble_eq_true rfl) d_LR_run_34 (fun q h => Or.inl h) ?_
      refine xj_if_ne (tgt := 50) C d_LR_run_37 (by decide) (fun h9 => ?_) (fun h9 => ?_)
      · have hf := xi_neg h9 hf
        refine xj_aload_n C d_LR_run_50 rfl 0 rfl ?_
        refine xj_get C g_LR_37 0 rfl rfl d_LR_run_51 ?_
        refine xj_iload_n C d_LR_run_54 rfl 1 rfl ?_
        refine xj_iload_n C d_LR_run_55 rfl 2 rfl ?_
        refine xj_iload_n C d_LR_run_56 rfl 3 rfl ?_
        obtain ⟨o4, ho4, hf⟩ := xb_some hf
        refine xj_callVi (rest := []) C (c_Pl_tellRun N ho4) Y_Pl_tellRun i_LR_124 4 rfl rfl (by decide) ⟨rfl, rfl⟩ rfl rfl (Nat.le_of_ble_eq_true rfl) d_LR_run_57 (fun q h => Or.inl h) ?_
        exact xj_xret C hr rfl hf d_LR_run_60
      · have hf := xi_pos h9 hf
        exact xj_throw C hlt hex Z hL0 hsz e_LR_116 hf (by decide) (Nat.le_of_ble_eq_true rfl) (by decide) (by decide) d_LR_run_40 d_LR_run_43 d_LR_run_44 d_LR_run_46 d_LR_run_49
    · have hf := xi_pos h9 hf
      exact xj_throw C hlt hex Z hL0 hsz e_LR_122 hf (by decide) (Nat.le_of_ble_eq_true rfl) (by decide) (by decide) d_LR_run_20 d_LR_run_23 d_LR_run_24 d_LR_run_26 d_LR_run_29
set_option maxHeartbeats 4000000 in
set_option maxRecDepth 20000 in
theorem c_LR_late {l : Launch} {D : va_G} {ad : Nat → Nat} {cI : ClassId} {s0 : State} (N : (LC ad).Nodup) (hlt : l.stackTraces = false) (hL0 : ∀ q ∈ LC ad, s0.heap.size ≤ q) {x1 x2 : Int32} {st : St} {out : (Nat × Int32) × St} (hf : f_LR_late x1 x2 st = some out) : xMx s0 l y_LR_late b_LR_late 3 (some .int) rm_LR_late D (tyC cI) (WC ad cI) (LC ad) [.ref (ad 0), .int x1, .int x2] st out := by
  intro sz
  refine xMx_of (L := LC ad) (by decide) (Nat.le_of_ble_eq_true rfl) (fun p e s m below meth c hsz hr hex Z C => ?_)
  show j_x p l e rm_LR_late s m _ below meth c sz D (WC ad cI) (LC ad) out 3 (WC ad cI st) [(0, .ref (ad 0)), (1, .int x1), (2, .int x2)] 0 []
  unfold f_LR_late at hf
  refine xj_aload_n C d_LR_late_0 rfl 0 rfl ?_
  refine xj_get C g_LR_19 0 rfl rfl d_LR_late_1 ?_
  refine xj_iload_n C d_LR_late_4 rfl 1 rfl ?_
  obtain ⟨o1, ho1, hf⟩ := xb_some hf
  refine xj_callVi (rest := []) C (c_Fl_has N ho1) Y_Fl_has i_LR_107 2 rfl rfl (by decide) ⟨rfl, rfl⟩ rfl rfl (Nat.le_of_ble_eq_true rfl) d_LR_late_5 (fun q h => Or.inl h) ?_
  refine xj_if_ne (tgt := 21) C d_LR_late_8 (by decide) (fun h9 => ?_) (fun h9 => ?_)
  · have hf := xi_neg h9 hf
    refine xj_iload_n C d_LR_late_21 rfl 2 rfl ?_
    refine xj_iconst (v := 0) C d_LR_late_22 rfl ?_
    refine xj_sipush (v := 1000) C d_LR_late_23 rfl ?_
    obtain ⟨o2, ho2, hf⟩ := xb_some hf
    refine xj_callSi (rest := []) C (c_LR_within N ho2) Y_LR_within i_LR_45 (by decide) ⟨rfl, rfl⟩ rfl rfl (Nat.le_of_ble_eq_true rfl) d_LR_late_26 (fun q h => Or.inl h) ?_
    refine xj_if_ne (tgt := 42) C d_LR_late_29 (by decide) (fun h9 => ?_) (fun h9 => ?_)
    · have hf := xi_neg h9 hf
      refine xj_aload_n C d_LR_late_42 rfl 0 rfl ?_
      refine xj_get C g_LR_37 0 rfl rfl d_LR_late_43 ?_
      obtain ⟨o3, ho3, hf⟩ := xb_some hf
      refine xj_callVi (rest := []) C (c_Pl_hasPlan N ho3) Y_Pl_hasPlan i_LR_113 4 rfl rfl (by decide) ⟨rfl, rfl⟩ rfl rfl (Nat.le_of_ble_eq_true rfl) d_LR_late_46 (fun q h => Or.inl h) ?_
      refine xj_if_ne (tgt := 62) C d_LR_late_49 (by decide) (fun h9 => ?_) (fun h9 => ?_)
      · have hf := xi_neg h9 hf
        refine xj_aload_n C d_LR_late_62 rfl 0 rfl ?_
        refine xj_get C g_LR_37 0 rfl rfl d_LR_late_63 ?_
        obtain ⟨o4, ho4, hf⟩ := xb_some hf
        refine xj_callVv (rest := []) C (c_Pl_keepForComparison N ho4) Y_Pl_keepForComparison i_LR_131 4 rfl rfl (by decide) ⟨rfl, rfl⟩ rfl rfl (Nat.le_of_ble_eq_true rfl) d_LR_late_66 (fun q h => Or.inl h) ?_
        refine xj_aload_n C d_LR_late_69 rfl 0 rfl ?_
        refine xj_get C g_LR_19 0 rfl rfl d_LR_late_70 ?_
        refine xj_iload_n C d_LR_late_73 rfl 1 rfl ?_
        refine xj_iload_n C d_LR_late_74 rfl 2 rfl ?_
        obtain ⟨o5, ho5, hf⟩ := xb_some hf
        refine xj_callVv (rest := []) C (c_Fl_setArrival N ho5) Y_Fl_setArrival i_LR_134 2 rfl rfl (by decide) ⟨rfl, rfl⟩ rfl rfl (Nat.le_of_ble_eq_true rfl) d_LR_late_75 (fun q h => Or.inl h) ?_
        refine xj_aload_n C d_LR_late_78 rfl 0 rfl ?_
        refine xj_get C g_LR_37 0 rfl rfl d_LR_late_79 ?_
        obtain ⟨o6, ho6, hf⟩ := xb_some hf
        refine xj_callVi (rest := []) C (c_Pl_search N ho6) Y_Pl_search i_LR_89 4 rfl rfl (by decide) ⟨rfl, rfl⟩ rfl rfl (Nat.le_of_ble_eq_true rfl) d_LR_late_82 (fun q h => Or.inl h) ?_
        refine xj_if_eq (tgt := 98) C d_LR_late_85 (by decide) (fun h9 => ?_) (fun h9 => ?_)
        · have hf := xi_pos h9 hf
          refine xj_iconst (v := (-1)) C d_LR_late_98 rfl ?_
          exact xj_xret C hr rfl hf d_LR_late_99
        · have hf := xi_neg h9 hf
          refine xj_aload_n C d_LR_late_88 rfl 0 rfl ?_
          refine xj_get C g_LR_37 0 rfl rfl d_LR_late_89 ?_
          obtain ⟨o7, ho7, hf⟩ := xb_some hf
          refine xj_callVi (rest := []) C (c_Pl_moved N ho7) Y_Pl_moved i_LR_138 4 rfl rfl (by decide) ⟨rfl, rfl⟩ rfl rfl (Nat.le_of_ble_eq_true rfl) d_LR_late_92 (fun q h => Or.inl h) ?_
          refine xj_goto (tgt := 99) C d_LR_late_95 (by decide) ?_
          exact xj_xret C hr rfl hf d_LR_late_99
      · have hf := xi_pos h9 hf
        exact xj_throw C hlt hex Z hL0 hsz e_LR_116 hf (by decide) (Nat.le_of_ble_eq_true rfl) (by decide) (by decide) d_LR_late_52 d_LR_late_55 d_LR_late_56 d_LR_late_58 d_LR_late_61
    · have hf := xi_pos h9 hf
      exact xj_throw C hlt hex Z hL0 hsz e_LR_129 hf (by decide) (Nat.le_of_ble_eq_true rfl) (by decide) (by decide) d_LR_late_32 d_LR_late_35 d_LR_late_36 d_LR_late_38 d_LR_late_41
  · have hf := xi_pos h9 hf
    exact xj_throw C hlt hex Z hL0 hsz e_LR_127 hf (by decide) (Nat.le_of_ble_eq_true rfl) (by decide) (by decide) d_LR_late_11 d_LR_late_14 d_LR_late_15 d_LR_late_17 d_LR_late_20
set_option maxHeartbeats 4000000 in
set_option maxRecDepth 20000 in
theorem wb_LR_home_23 {p : Program} {l : Launch} {e : Env} {s : State} {m : MethodId} {args : Array Value} {below : List Frame} {meth : Method} {c : Code} {sz : Nat} {D : va_G} {ad : Nat → Nat} {cI : ClassId} {out : (Nat × Int32) × St} (N : (LC ad).Nodup) (C : xC p s m args meth c (xA (LC ad) sz) D 3 (tyC cI) b_LR_home R_LR) (hr : meth.sig.returnType = (some .int)) {s0 : State} (hlt : l.stackTraces = false) (hex : c.exceptionTable.toList = []) (Z : xS s0 s) (hL0 : ∀ q ∈ LC ad, s0.heap.size ≤ q) (hsz : s.heap.size = sz) {K23 : Int32 → Int32 → St → Option ((Nat × Int32) × St)} (hK23 : ∀ (x1 x2 : Int32) (st : St), K23 x1 x2 st = some out → j_x p l e rm_LR_home s m args below meth c sz D (WC ad cI) (LC ad) out 3 (WC ad cI st) [(0, .ref (ad 0)), (1, .int x1), (2, .int x2)] 23 []) (x1 x2 : Int32) (st : St) (hf : b_LR_home_23 K23 x1 x2 st = some out) : j_x p l e rm_LR_home s m args below meth c sz D (WC ad cI) (LC ad) out 3 (WC ad cI st) [(0, .ref (ad 0)), (1, .int x1), (2, .int x2)] 23 [] := by
  unfold b_LR_home_23 at hf
  refine xj_iload_n C d_LR_home_23 rfl 2 rfl ?_
  refine xj_aload_n C d_LR_home_24 rfl 0 rfl ?_
  refine xj_get C g_LR_12 0 rfl rfl d_LR_home_25 ?_
  obtain ⟨o2, ho2, hf⟩ := xb_some hf
  refine xj_callVi (rest := [.int x2]) C (c_Ch_size N ho2) Y_Ch_size i_LR_141 1 rfl rfl (by decide) ⟨rfl, rfl⟩ rfl rfl (Nat.le_of_ble_eq_true rfl) d_LR_home_28 (fun q h => Or.inl h) ?_
  refine xj_icmp_ge (tgt := 56) C d_LR_home_31 (by decide) (fun h9 => ?_) (fun h9 => ?_)
  · have hf := xi_pos h9 hf
    refine xj_iconst (v := (-1)) C d_LR_home_56 rfl ?_
    exact xj_xret C hr rfl hf d_LR_home_57
  · have hf := xi_neg h9 hf
    refine xj_aload_n C d_LR_home_34 rfl 0 rfl ?_
    refine xj_get C g_LR_28 0 rfl rfl d_LR_home_35 ?_
    refine xj_iload_n C d_LR_home_38 rfl 2 rfl ?_
    refine xj_iconst (v := 1) C d_LR_home_39 rfl ?_
    refine xj_iload_n C d_LR_home_40 rfl 1 rfl ?_
    refine xj_ishl C d_LR_home_41 ?_
    obtain ⟨o3, ho3, hf⟩ := xb_some hf
    refine xj_callVi (rest := []) C (c_Be_canLay N ho3) Y_Be_canLay i_LR_104 3 rfl rfl (by decide) ⟨rfl, rfl⟩ rfl rfl (Nat.le_of_ble_eq_true rfl) d_LR_home_42 (fun q h => Or.inl h) ?_
    refine xj_if_eq (tgt := 50) C d_LR_home_45 (by decide) (fun h9 => ?_) (fun h9 => ?_)
    · have hf := xi_pos h9 hf
      refine xj_iinc (v := x2 + 1) (j := 2) C d_LR_home_50 rfl rfl (by decide) rfl ?_
      refine xj_goto (tgt := 23) C d_LR_home_53 (by decide) ?_
      exact xj_lv [1, 2, 0] rfl (hK23 x1 (x2 + 1) o3.2 hf)
    · have hf := xi_neg h9 hf
      refine xj_iload_n C d_LR_home_48 rfl 2 rfl ?_
      exact xj_xret C hr rfl hf d_LR_home_49
set_option maxHeartbeats 4000000 in
set_option maxRecDepth 20000 in
theorem w_LR_home_23 {p : Program} {l : Launch} {e : Env} {s : State} {m : MethodId} {args : Array Value} {below : List Frame} {meth : Method} {c : Code} {sz : Nat} {D : va_G} {ad : Nat → Nat} {cI : ClassId} {out : (Nat × Int32) × St} (N : (LC ad).Nodup) (C : xC p s m args meth c (xA (LC ad) sz) D 3 (tyC cI) b_LR_home R_LR) (hr : meth.sig.returnType = (some .int)) {s0 : State} (hlt : l.stackTraces = false) (hex : c.exceptionTable.toList = []) (Z : xS s0 s) (hL0 : ∀ q ∈ LC ad, s0.heap.size ≤ q) (hsz : s.heap.size = sz) (n : Nat) : ∀ (x1 x2 : Int32) (st : St), f_LR_home_23 n x1 x2 st = some out → j_x p l e rm_LR_home s m args below meth c sz D (WC ad cI) (LC ad) out 3 (WC ad cI st) [(0, .ref (ad 0)), (1, .int x1), (2, .int x2)] 23 [] := by
  induction n with
  | zero => intro x1 x2 st hf; exact absurd (show (none : Option ((Nat × Int32) × St)) = some out from hf) (fun h => by cases h)
  | succ n ih => intro x1 x2 st hf; exact wb_LR_home_23 N C hr hlt hex Z hL0 hsz ih x1 x2 st hf
set_option maxHeartbeats 4000000 in
set_option maxRecDepth 20000 in
theorem c_LR_home {l : Launch} {D : va_G} {ad : Nat → Nat} {cI : ClassId} {s0 : State} (N : (LC ad).Nodup) (hlt : l.stackTraces = false) (hL0 : ∀ q ∈ LC ad, s0.heap.size ≤ q) {x1 : Int32} {st : St} {out : (Nat × Int32) × St} (hf : f_LR_home x1 st = some out) : xMx s0 l y_LR_home b_LR_home 3 (some .int) rm_LR_home D (tyC cI) (WC ad cI) (LC ad) [.ref (ad 0), .int x1] st out := by
  intro sz
  refine xMx_of (L := LC ad) (by decide) (Nat.le_of_ble_eq_true rfl) (fun p e s m below meth c hsz hr hex Z C => ?_)
  show j_x p l e rm_LR_home s m _ below meth c sz D (WC ad cI) (LC ad) out 3 (WC ad cI st) [(0, .ref (ad 0)), (1, .int x1)] 0 []
  unfold f_LR_home at hf
  refine xj_aload_n C d_LR_home_0 rfl 0 rfl ?_
  refine xj_get C g_LR_19 0 rfl rfl d_LR_home_1 ?_
  refine xj_iload_n C d_LR_home_4 rfl 1 rfl ?_
  obtain ⟨o1, ho1, hf⟩ := xb_some hf
  refine xj_callVi (rest := []) C (c_Fl_has N ho1) Y_Fl_has i_LR_107 2 rfl rfl (by decide) ⟨rfl, rfl⟩ rfl rfl (Nat.le_of_ble_eq_true rfl) d_LR_home_5 (fun q h => Or.inl h) ?_
  refine xj_if_ne (tgt := 21) C d_LR_home_8 (by decide) (fun h9 => ?_) (fun h9 => ?_)
  · have hf := xi_neg h9 hf
    refine xj_iconst (v := 0) C d_LR_home_21 rfl ?_
    refine xj_istore_n C d_LR_home_22 rfl (by decide) rfl ?_
    exact xj_lv [1, 2, 0] rfl (w_LR_home_23 N C hr hlt hex Z hL0 hsz 40 x1 0 o1.2 hf)
  · have hf := xi_pos h9 hf
    exact xj_throw C hlt hex Z hL0 hsz e_LR_127 hf (by decide) (Nat.le_of_ble_eq_true rfl) (by decide) (by decide) d_LR_home_11 d_LR_home_14 d_LR_home_15 d_LR_home_17 d_LR_home_20
set_option maxHeartbeats 4000000 in
set_option maxRecDepth 20000 in
theorem c_LR_rate {l : Launch} {D : va_G} {ad : Nat → Nat} {cI : ClassId} {s0 : State} (N : (LC ad).Nodup) (hlt : l.stackTraces = false) (hL0 : ∀ q ∈ LC ad, s0.heap.size ≤ q) {x1 x2 : Int32} {st : St} {out : (Nat × Int32) × St} (hf : f_LR_rate x1 x2 st = some out) : xMx s0 l y_LR_rate b_LR_rate 3 (some .int) rm_LR_rate D (tyC cI) (WC ad cI) (LC ad) [.ref (ad 0), .int x1, .int x2] st out := by
  intro sz
  refine xMx_of (L := LC ad) (by decide) (Nat.le_of_ble_eq_true rfl) (fun p e s m below meth c hsz hr hex Z C => ?_)
  show j_x p l e rm_LR_rate s m _ below meth c sz D (WC ad cI) (LC ad) out 3 (WC ad cI st) [(0, .ref (ad 0)), (1, .int x1), (2, .int x2)] 0 []
  unfold f_LR_rate at hf
  refine xj_iload_n C d_LR_rate_0 rfl 1 rfl ?_
  refine xj_iconst (v := 0) C d_LR_rate_1 rfl ?_
  refine xj_sipush (v := 1000) C d_LR_rate_2 rfl ?_
  obtain ⟨o1, ho1, hf⟩ := xb_some hf
  refine xj_callSi (rest := []) C (c_LR_within N ho1) Y_LR_within i_LR_45 (by decide) ⟨rfl, rfl⟩ rfl rfl (Nat.le_of_ble_eq_true rfl) d_LR_rate_5 (fun q h => Or.inl h) ?_
  refine xj_if_eq (tgt := 22) C d_LR_rate_8 (by decide) (fun h9 => ?_) (fun h9 => ?_)
  · have hf := xi_pos h9 hf
    exact xj_throw C hlt hex Z hL0 hsz e_LR_144 hf (by decide) (Nat.le_of_ble_eq_true rfl) (by decide) (by decide) d_LR_rate_22 d_LR_rate_25 d_LR_rate_26 d_LR_rate_28 d_LR_rate_31
  · have hf := xi_neg h9 hf
    refine xj_iload_n C d_LR_rate_11 rfl 2 rfl ?_
    refine xj_iconst (v := 0) C d_LR_rate_12 rfl ?_
    refine xj_sipush (v := 1000) C d_LR_rate_13 rfl ?_
    obtain ⟨o2, ho2, hf⟩ := xb_some hf
    refine xj_callSi (rest := []) C (c_LR_within N ho2) Y_LR_within i_LR_45 (by decide) ⟨rfl, rfl⟩ rfl rfl (Nat.le_of_ble_eq_true rfl) d_LR_rate_16 (fun q h => Or.inl h) ?_
    refine xj_if_ne (tgt := 32) C d_LR_rate_19 (by decide) (fun h9 => ?_) (fun h9 => ?_)
    · have hf := xi_neg h9 hf
      refine xj_iload_n C d_LR_rate_32 rfl 2 rfl ?_
      refine xj_if_ne (tgt := 46) C d_LR_rate_33 (by decide) (fun h9 => ?_) (fun h9 => ?_)
      · have hf := xi_neg h9 hf
        refine xj_bipush (v := 60) C d_LR_rate_46 rfl ?_
        refine xj_iload_n C d_LR_rate_48 rfl 1 rfl ?_
        refine xj_imul C d_LR_rate_49 ?_
        refine xj_iload_n C d_LR_rate_50 rfl 2 rfl ?_
        obtain ⟨g3, hf⟩ := xb_guard hf
        refine xj_idiv C d_LR_rate_51 g3 ?_
        exact xj_xret C hr rfl hf d_LR_rate_52
      · have hf := xi_pos h9 hf
        exact xj_throw C hlt hex Z hL0 hsz e_LR_148 hf (by decide) (Nat.le_of_ble_eq_true rfl) (by decide) (by decide) d_LR_rate_36 d_LR_rate_39 d_LR_rate_40 d_LR_rate_42 d_LR_rate_45
    · have hf := xi_pos h9 hf
      exact xj_throw C hlt hex Z hL0 hsz e_LR_144 hf (by decide) (Nat.le_of_ble_eq_true rfl) (by decide) (by decide) d_LR_rate_22 d_LR_rate_25 d_LR_rate_26 d_LR_rate_28 d_LR_rate_31
