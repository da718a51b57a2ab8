set_option maxHeartbeats 4000000 in
set_option maxRecDepth 20000 in
theorem c_Tt_begin_bs {l : Launch} {D : va_G} {ad : Nat → Nat} {cI : ClassId} (N : (LC ad).Nodup) {x1 : Int32} {st : St} {out : Int32 × St} (hf : f_Tt_begin_bs x1 st = some out) : xMi l y_Tt_begin b_Tt_begin 2 (some .int) rm_Tt_begin_bs D (tyC cI) (WC ad cI) (LC ad) [.ref (ad 6), .int x1] st out := by
  intro sz
  refine xM_of (L := LC ad) (by decide) (Nat.le_of_ble_eq_true rfl) (fun p e s m below meth c hsz hr C => ?_)
  show j_i p l e rm_Tt_begin_bs s m _ below meth c sz D (WC ad cI) (LC ad) out 2 (WC ad cI st) [(0, .ref (ad 6)), (1, .int x1)] 0 []
  unfold f_Tt_begin_bs at hf
  refine xj_iload_n C d_Tt_begin_0 rfl 1 rfl ?_
  refine xj_if_lt (tgt := 18) C d_Tt_begin_1 (by decide) (fun h9 => ?_) (fun h9 => ?_)
  · have hf := xi_pos h9 hf
    refine xj_iconst (v := (-1)) C d_Tt_begin_18 rfl ?_
    exact xj_iret C hr hf d_Tt_begin_19
  · have hf := xi_neg h9 hf
    refine xj_iload_n C d_Tt_begin_4 rfl 1 rfl ?_
    refine xj_iconst (v := 4) C d_Tt_begin_5 rfl ?_
    refine xj_icmp_ge (tgt := 18) C d_Tt_begin_6 (by decide) (fun h9 => ?_) (fun h9 => ?_)
    · have hf := xi_pos h9 hf
      refine xj_iconst (v := (-1)) C d_Tt_begin_18 rfl ?_
      exact xj_iret C hr hf d_Tt_begin_19
    · have hf := xi_neg h9 hf
      refine xj_aload_n C d_Tt_begin_9 rfl 0 rfl ?_
      refine xj_get C g_Tt_9 6 rfl rfl d_Tt_begin_10 ?_
      refine xj_iload_n C d_Tt_begin_13 rfl 1 rfl ?_
      obtain ⟨g1, hf⟩ := xb_guard hf
      refine xj_iald C 25 0 rfl rfl g1 d_Tt_begin_14 ?_
      refine xj_goto (tgt := 19) C d_Tt_begin_15 (by decide) ?_
      exact xj_iret C hr hf d_Tt_begin_19
set_option maxHeartbeats 4000000 in
set_option maxRecDepth 20000 in
theorem w_Tt_differs_tr_bs_26 {p : Program} {l : Launch} {e : Env} {s : State} {m : MethodId} {args : Array Value} {below : List Frame} {meth : Method} {c : Code} {sz : Nat} {D : va_G} {ad : Nat → Nat} {cI : ClassId} {out : Int32 × St} (N : (LC ad).Nodup) (C : xC p s m args meth c (xA (LC ad) sz) D 3 (tyC cI) b_Tt_differs R_Tt) (hr : meth.sig.returnType = (some .boolean)) (st : St) (hf : f_Tt_differs_tr_bs_26  st = some out) : j_i p l e rm_Tt_differs_tr_bs s m args below meth c sz D (WC ad cI) (LC ad) out 3 (WC ad cI st) [] 26 [] := by
  unfold f_Tt_differs_tr_bs_26 at hf
  refine xj_iconst (v := 1) C d_Tt_differs_26 rfl ?_
  refine xj_goto (tgt := 31) C d_Tt_differs_27 (by decide) ?_
  exact xj_zret C hr rfl hf d_Tt_differs_31
set_option maxHeartbeats 4000000 in
set_option maxRecDepth 20000 in
theorem c_Tt_chamberOf_tr {l : Launch} {D : va_G} {ad : Nat → Nat} {cI : ClassId} (N : (LC ad).Nodup) {x1 : Int32} {st : St} {out : Int32 × St} (hf : f_Tt_chamberOf_tr x1 st = some out) : xMi l y_Tt_chamberOf b_Tt_chamberOf 2 (some .int) rm_Tt_chamberOf_tr D (tyC cI) (WC ad cI) (LC ad) [.ref (ad 5), .int x1] st out := by
  intro sz
  refine xM_of (L := LC ad) (by decide) (Nat.le_of_ble_eq_true rfl) (fun p e s m below meth c hsz hr C => ?_)
  show j_i p l e rm_Tt_chamberOf_tr s m _ below meth c sz D (WC ad cI) (LC ad) out 2 (WC ad cI st) [(0, .ref (ad 5)), (1, .int x1)] 0 []
  unfold f_Tt_chamberOf_tr at hf
  refine xj_iload_n C d_Tt_chamberOf_0 rfl 1 rfl ?_
  refine xj_if_lt (tgt := 18) C d_Tt_chamberOf_1 (by decide) (fun h9 => ?_) (fun h9 => ?_)
  · have hf := xi_pos h9 hf
    refine xj_iconst (v := (-1)) C d_Tt_chamberOf_18 rfl ?_
    exact xj_iret C hr hf d_Tt_chamberOf_19
  · have hf := xi_neg h9 hf
    refine xj_iload_n C d_Tt_chamberOf_4 rfl 1 rfl ?_
    refine xj_iconst (v := 4) C d_Tt_chamberOf_5 rfl ?_
    refine xj_icmp_ge (tgt := 18) C d_Tt_chamberOf_6 (by decide) (fun h9 => ?_) (fun h9 => ?_)
    · have hf := xi_pos h9 hf
      refine xj_iconst (v := (-1)) C d_Tt_chamberOf_18 rfl ?_
      exact xj_iret C hr hf d_Tt_chamberOf_19
    · have hf := xi_neg h9 hf
      refine xj_aload_n C d_Tt_chamberOf_9 rfl 0 rfl ?_
      refine xj_get C g_Tt_15 5 rfl rfl d_Tt_chamberOf_10 ?_
      refine xj_iload_n C d_Tt_chamberOf_13 rfl 1 rfl ?_
      obtain ⟨g1, hf⟩ := xb_guard hf
      refine xj_iald C 23 0 rfl rfl g1 d_Tt_chamberOf_14 ?_
      refine xj_goto (tgt := 19) C d_Tt_chamberOf_15 (by decide) ?_
      exact xj_iret C hr hf d_Tt_chamberOf_19
set_option maxHeartbeats 4000000 in
set_option maxRecDepth 20000 in
theorem c_Tt_chamberOf_bs {l : Launch} {D : va_G} {ad : Nat → Nat} {cI : ClassId} (N : (LC ad).Nodup) {x1 : Int32} {st : St} {out : Int32 × St} (hf : f_Tt_chamberOf_bs x1 st = some out) : xMi l y_Tt_chamberOf b_Tt_chamberOf 2 (some .int) rm_Tt_chamberOf_bs D (tyC cI) (WC ad cI) (LC ad) [.ref (ad 6), .int x1] st out := by
  intro sz
  refine xM_of (L := LC ad) (by decide) (Nat.le_of_ble_eq_true rfl) (fun p e s m below meth c hsz hr C => ?_)
  show j_i p l e rm_Tt_chamberOf_bs s m _ below meth c sz D (WC ad cI) (LC ad) out 2 (WC ad cI st) [(0, .ref (ad 6)), (1, .int x1)] 0 []
  unfold f_Tt_chamberOf_bs at hf
  refine xj_iload_n C d_Tt_chamberOf_0 rfl 1 rfl ?_
  refine xj_if_lt (tgt := 18) C d_Tt_chamberOf_1 (by decide) (fun h9 => ?_) (fun h9 => ?_)
  · have hf := xi_pos h9 hf
    refine xj_iconst (v := (-1)) C d_Tt_chamberOf_18 rfl ?_
    exact xj_iret C hr hf d_Tt_chamberOf_19
  · have hf := xi_neg h9 hf
    refine xj_iload_n C d_Tt_chamberOf_4 rfl 1 rfl ?_
    refine xj_iconst (v := 4) C d_Tt_chamberOf_5 rfl ?_
    refine xj_icmp_ge (tgt := 18) C d_Tt_chamberOf_6 (by decide) (fun h9 => ?_) (fun h9 => ?_)
    · have hf := xi_pos h9 hf
      refine xj_iconst (v := (-1)) C d_Tt_chamberOf_18 rfl ?_
      exact xj_iret C hr hf d_Tt_chamberOf_19
    · have hf := xi_neg h9 hf
      refine xj_aload_n C d_Tt_chamberOf_9 rfl 0 rfl ?_
      refine xj_get C g_Tt_15 6 rfl rfl d_Tt_chamberOf_10 ?_
      refine xj_iload_n C d_Tt_chamberOf_13 rfl 1 rfl ?_
      obtain ⟨g1, hf⟩ := xb_guard hf
      refine xj_iald C 26 0 rfl rfl g1 d_Tt_chamberOf_14 ?_
      refine xj_goto (tgt := 19) C d_Tt_chamberOf_15 (by decide) ?_
      exact xj_iret C hr hf d_Tt_chamberOf_19
set_option maxHeartbeats 4000000 in
set_option maxRecDepth 20000 in
theorem c_Tt_differs_tr_bs {l : Launch} {D : va_G} {ad : Nat → Nat} {cI : ClassId} (N : (LC ad).Nodup) {x2 : Int32} {st : St} {out : Int32 × St} (hf : f_Tt_differs_tr_bs x2 st = some out) : xMi l y_Tt_differs b_Tt_differs 3 (some .boolean) rm_Tt_differs_tr_bs D (tyC cI) (WC ad cI) (LC ad) [.ref (ad 5), .ref (ad 6), .int x2] st out := by
  intro sz
  refine xM_of (L := LC ad) (by decide) (Nat.le_of_ble_eq_true rfl) (fun p e s m below meth c hsz hr C => ?_)
  show j_i p l e rm_Tt_differs_tr_bs s m _ below meth c sz D (WC ad cI) (LC ad) out 3 (WC ad cI st) [(0, .ref (ad 5)), (1, .ref (ad 6)), (2, .int x2)] 0 []
  unfold f_Tt_differs_tr_bs at hf
  refine xj_aload_n C d_Tt_differs_0 rfl 0 rfl ?_
  refine xj_iload_n C d_Tt_differs_1 rfl 2 rfl ?_
  obtain ⟨o1, ho1, hf⟩ := xb_some hf
  refine xj_callVi (rest := []) C (c_Tt_begin_tr N ho1) Y_Tt_begin i_Tt_33 5 rfl rfl (by decide) ⟨rfl, rfl⟩ rfl rfl (Nat.le_of_ble_eq_true rfl) d_Tt_differs_2 (fun q h => Or.inl h) ?_
  refine xj_aload_n C d_Tt_differs_5 rfl 1 rfl ?_
  refine xj_iload_n C d_Tt_differs_6 rfl 2 rfl ?_
  obtain ⟨o2, ho2, hf⟩ := xb_some hf
  refine xj_callVi (rest := [.int o1.1]) C (c_Tt_begin_bs N ho2) Y_Tt_begin i_Tt_33 6 rfl rfl (by decide) ⟨rfl, rfl⟩ rfl rfl (Nat.le_of_ble_eq_true rfl) d_Tt_differs_7 (fun q h => Or.inl h) ?_
  refine xj_icmp_ne (tgt := 26) C d_Tt_differs_10 (by decide) (fun h9 => ?_) (fun h9 => ?_)
  · have hf := xi_neg h9 hf
    exact xj_lv [] rfl (w_Tt_differs_tr_bs_26 N C hr o2.2 hf)
  · have hf := xi_pos h9 hf
    refine xj_aload_n C d_Tt_differs_13 rfl 0 rfl ?_
    refine xj_iload_n C d_Tt_differs_14 rfl 2 rfl ?_
    obtain ⟨o3, ho3, hf⟩ := xb_some hf
    refine xj_callVi (rest := []) C (c_Tt_chamberOf_tr N ho3) Y_Tt_chamberOf i_Tt_37 5 rfl rfl (by decide) ⟨rfl, rfl⟩ rfl rfl (Nat.le_of_ble_eq_true rfl) d_Tt_differs_15 (fun q h => Or.inl h) ?_
    refine xj_aload_n C d_Tt_differs_18 rfl 1 rfl ?_
    refine xj_iload_n C d_Tt_differs_19 rfl 2 rfl ?_
    obtain ⟨o4, ho4, hf⟩ := xb_some hf
    refine xj_callVi (rest := [.int o3.1]) C (c_Tt_chamberOf_bs N ho4) Y_Tt_chamberOf i_Tt_37 6 rfl rfl (by decide) ⟨rfl, rfl⟩ rfl rfl (Nat.le_of_ble_eq_true rfl) d_Tt_differs_20 (fun q h => Or.inl h) ?_
    refine xj_icmp_eq (tgt := 30) C d_Tt_differs_23 (by decide) (fun h9 => ?_) (fun h9 => ?_)
    · have hf := xi_pos h9 hf
      refine xj_iconst (v := 0) C d_Tt_differs_30 rfl ?_
      exact xj_zret C hr rfl hf d_Tt_differs_31
    · have hf := xi_neg h9 hf
      exact xj_lv [] rfl (w_Tt_differs_tr_bs_26 N C hr o4.2 hf)
set_option maxHeartbeats 4000000 in
set_option maxRecDepth 20000 in
theorem w_Tt_isAheadOf_tr_bs_97 {p : Program} {l : Launch} {e : Env} {s : State} {m : MethodId} {args : Array Value} {below : List Frame} {meth : Method} {c : Code} {sz : Nat} {D : va_G} {ad : Nat → Nat} {cI : ClassId} {out : Int32 × St} (N : (LC ad).Nodup) (C : xC p s m args meth c (xA (LC ad) sz) D 4 (tyC cI) b_Tt_isAheadOf R_Tt) (hr : meth.sig.returnType = (some .boolean)) (st : St) (hf : f_Tt_isAheadOf_tr_bs_97  st = some out) : j_i p l e rm_Tt_isAheadOf_tr_bs s m args below meth c sz D (WC ad cI) (LC ad) out 4 (WC ad cI st) [] 97 [] := by
  unfold f_Tt_isAheadOf_tr_bs_97 at hf
  refine xj_iconst (v := 1) C d_Tt_isAheadOf_97 rfl ?_
  refine xj_goto (tgt := 102) C d_Tt_isAheadOf_98 (by decide) ?_
  exact xj_zret C hr rfl hf d_Tt_isAheadOf_102
set_option maxHeartbeats 4000000 in
set_option maxRecDepth 20000 in
theorem wb_Tt_isAheadOf_tr_bs_30 {p : Program} {l : Launch} {e : Env} {s : State} {m : MethodId} {args : Array Value} {below : List Frame} {meth : Method} {c : Code} {sz : Nat} {D : va_G} {ad : Nat → Nat} {cI : ClassId} {out : Int32 × St} (N : (LC ad).Nodup) (C : xC p s m args meth c (xA (LC ad) sz) D 4 (tyC cI) b_Tt_isAheadOf R_Tt) (hr : meth.sig.returnType = (some .boolean)) {K30 : Int32 → Int32 → St → Option (Int32 × St)} (hK30 : ∀ (x2 x3 : Int32) (st : St), K30 x2 x3 st = some out → j_i p l e rm_Tt_isAheadOf_tr_bs s m args below meth c sz D (WC ad cI) (LC ad) out 4 (WC ad cI st) [(0, .ref (ad 5)), (1, .ref (ad 6)), (2, .int x2), (3, .int x3)] 30 []) (x2 x3 : Int32) (st : St) (hf : b_Tt_isAheadOf_tr_bs_30 K30 x2 x3 st = some out) : j_i p l e rm_Tt_isAheadOf_tr_bs s m args below meth c sz D (WC ad cI) (LC ad) out 4 (WC ad cI st) [(0, .ref (ad 5)), (1, .ref (ad 6)), (2, .int x2), (3, .int x3)] 30 [] := by
  unfold b_Tt_isAheadOf_tr_bs_30 at hf
  refine xj_iload_n C d_Tt_isAheadOf_30 rfl 3 rfl ?_
  refine xj_iconst (v := 4) C d_Tt_isAheadOf_31 rfl ?_
  refine xj_icmp_ge (tgt := 109) C d_Tt_isAheadOf_32 (by decide) (fun h9 => ?_) (fun h9 => ?_)
  · have hf := xi_pos h9 hf
    refine xj_iconst (v := 0) C d_Tt_isAheadOf_109 rfl ?_
    exact xj_zret C hr rfl hf d_Tt_isAheadOf_110
  · have hf := xi_neg h9 hf
    refine xj_iload_n C d_Tt_isAheadOf_35 rfl 2 rfl ?_
    refine xj_iload_n C d_Tt_isAheadOf_36 rfl 3 rfl ?_
    obtain ⟨o1, ho1, hf⟩ := xb_some hf
    refine xj_callSNi (rest := []) C (c_LR_holds N ho1) Y_LR_holds i_Tt_25 (by decide) ⟨rfl, rfl⟩ rfl rfl (Nat.le_of_ble_eq_true rfl) d_Tt_isAheadOf_37 (fun q h => Or.inl h) ?_
    refine xj_if_eq (tgt := 103) C d_Tt_isAheadOf_40 (by decide) (fun h9 => ?_) (fun h9 => ?_)
    · have hf := xi_pos h9 hf
      exact xj_lv [0, 1, 2, 3] rfl (w_Tt_isAheadOf_tr_bs_103 N C hr hK30 x2 x3 o1.2 hf)
    · have hf := xi_neg h9 hf
      refine xj_aload_n C d_Tt_isAheadOf_43 rfl 0 rfl ?_
      refine xj_aload_n C d_Tt_isAheadOf_44 rfl 1 rfl ?_
      refine xj_iload_n C d_Tt_isAheadOf_45 rfl 3 rfl ?_
      obtain ⟨o2, ho2, hf⟩ := xb_some hf
      refine xj_callVi (rest := []) C (c_Tt_differs_tr_bs N ho2) Y_Tt_differs i_Tt_29 5 rfl rfl (by decide) ⟨rfl, rfl⟩ rfl rfl (Nat.le_of_ble_eq_true rfl) d_Tt_isAheadOf_46 (fun q h => Or.inl h) ?_
      refine xj_if_eq (tgt := 103) C d_Tt_isAheadOf_49 (by decide) (fun h9 => ?_) (fun h9 => ?_)
      · have hf := xi_pos h9 hf
        exact xj_lv [0, 1, 2, 3] rfl (w_Tt_isAheadOf_tr_bs_103 N C hr hK30 x2 x3 o2.2 hf)
      · have hf := xi_neg h9 hf
        refine xj_aload_n C d_Tt_isAheadOf_52 rfl 0 rfl ?_
        refine xj_get C g_Tt_9 5 rfl rfl d_Tt_isAheadOf_53 ?_
        refine xj_iload_n C d_Tt_isAheadOf_56 rfl 3 rfl ?_
        obtain ⟨g3, hf⟩ := xb_guard hf
        refine xj_iald C 22 0 rfl rfl g3 d_Tt_isAheadOf_57 ?_
        refine xj_aload_n C d_Tt_isAheadOf_58 rfl 1 rfl ?_
        refine xj_get C g_Tt_9 6 rfl rfl d_Tt_isAheadOf_59 ?_
        refine xj_iload_n C d_Tt_isAheadOf_62 rfl 3 rfl ?_
        obtain ⟨g4, hf⟩ := xb_guard hf
        refine xj_iald C 25 0 rfl rfl g4 d_Tt_isAheadOf_63 ?_
        refine xj_icmp_lt (tgt := 97) C d_Tt_isAheadOf_64 (by decide) (fun h9 => ?_) (fun h9 => ?_)
        · have hf := xi_pos h9 hf
          exact xj_lv [] rfl (w_Tt_isAheadOf_tr_bs_97 N C hr o2.2 hf)
        · have hf := xi_neg h9 hf
          refine xj_aload_n C d_Tt_isAheadOf_67 rfl 0 rfl ?_
          refine xj_get C g_Tt_9 5 rfl rfl d_Tt_isAheadOf_68 ?_
          refine xj_iload_n C d_Tt_isAheadOf_71 rfl 3 rfl ?_
          obtain ⟨g5, hf⟩ := xb_guard hf
          refine xj_iald C 22 0 rfl rfl g5 d_Tt_isAheadOf_72 ?_
          refine xj_aload_n C d_Tt_isAheadOf_73 rfl 1 rfl ?_
          refine xj_get C g_Tt_9 6 rfl rfl d_Tt_isAheadOf_74 ?_
          refine xj_iload_n C d_Tt_isAheadOf_77 rfl 3 rfl ?_
          obtain ⟨g6, hf⟩ := xb_guard hf
          refine xj_iald C 25 0 rfl rfl g6 d_Tt_isAheadOf_78 ?_
          refine xj_icmp_ne (tgt := 101) C d_Tt_isAheadOf_79 (by decide) (fun h9 => ?_) (fun h9 => ?_)
          · have hf := xi_neg h9 hf
            refine xj_iconst (v := 0) C d_Tt_isAheadOf_101 rfl ?_
            exact xj_zret C hr rfl hf d_Tt_isAheadOf_102
          · have hf := xi_pos h9 hf
            refine xj_aload_n C d_Tt_isAheadOf_82 rfl 0 rfl ?_
            refine xj_get C g_Tt_15 5 rfl rfl d_Tt_isAheadOf_83 ?_
            refine xj_iload_n C d_Tt_isAheadOf_86 rfl 3 rfl ?_
            obtain ⟨g7, hf⟩ := xb_guard hf
            refine xj_iald C 23 0 rfl rfl g7 d_Tt_isAheadOf_87 ?_
            refine xj_aload_n C d_Tt_isAheadOf_88 rfl 1 rfl ?_
            refine xj_get C g_Tt_15 6 rfl rfl d_Tt_isAheadOf_89 ?_
            refine xj_iload_n C d_Tt_isAheadOf_92 rfl 3 rfl ?_
            obtain ⟨g8, hf⟩ := xb_guard hf
            refine xj_iald C 26 0 rfl rfl g8 d_Tt_isAheadOf_93 ?_
            refine xj_icmp_ge (tgt := 101) C d_Tt_isAheadOf_94 (by decide) (fun h9 => ?_) (fun h9 => ?_)
            · have hf := xi_pos h9 hf
              refine xj_iconst (v := 0) C d_Tt_isAheadOf_101 rfl ?_
              exact xj_zret C hr rfl hf d_Tt_isAheadOf_102
            · have hf := xi_neg h9 hf
              exact xj_lv [] rfl (w_Tt_isAheadOf_tr_bs_97 N C hr o2.2 hf)
set_option maxHeartbeats 4000000 in
set_option maxRecDepth 20000 in
theorem w_Tt_isAheadOf_tr_bs_30 {p : Program} {l : Launch} {e : Env} {s : State} {m : MethodId} {args : Array Value} {below : List Frame} {meth : Method} {c : Code} {sz : Nat} {D : va_G} {ad : Nat → Nat} {cI : ClassId} {out : Int32 × St} (N : (LC ad).Nodup) (C : xC p s m args meth c (xA (LC ad) sz) D 4 (tyC cI) b_Tt_isAheadOf R_Tt) (hr : meth.sig.returnType = (some .boolean)) (n : Nat) : ∀ (x2 x3 : Int32) (st : St), f_Tt_isAheadOf_tr_bs_30 n x2 x3 st = some out → j_i p l e rm_Tt_isAheadOf_tr_bs s m args below meth c sz D (WC ad cI) (LC ad) out 4 (WC ad cI st) [(0, .ref (ad 5)), (1, .ref (ad 6)), (2, .int x2), (3, .int x3)] 30 [] := by
  induction n with
  | zero => intro x2 x3 st hf; exact absurd (show (none : Option (Int32 × St)) = some out from hf) (fun h => by cases h)
  | succ n ih => intro x2 x3 st hf; exact wb_Tt_isAheadOf_tr_bs_30 N C hr ih x2 x3 st hf
set_option maxHeartbeats 4000000 in
set_option maxRecDepth 20000 in
theorem c_Tt_isAheadOf_tr_bs {l : Launch} {D : va_G} {ad : Nat → Nat} {cI : ClassId} (N : (LC ad).Nodup) {x2 : Int32} {st : St} {out : Int32 × St} (hf : f_Tt_isAheadOf_tr_bs x2 st = some out) : xMi l y_Tt_isAheadOf b_Tt_isAheadOf 4 (some .boolean) rm_Tt_isAheadOf_tr_bs D (tyC cI) (WC ad cI) (LC ad) [.ref (ad 5), .ref (ad 6), .int x2] st out := by
  intro sz
  refine xM_of (L := LC ad) (by decide) (Nat.le_of_ble_eq_true rfl) (fun p e s m below meth c hsz hr C => ?_)
  show j_i p l e rm_Tt_isAheadOf_tr_bs s m _ below meth c sz D (WC ad cI) (LC ad) out 4 (WC ad cI st) [(0, .ref (ad 5)), (1, .ref (ad 6)), (2, .int x2)] 0 []
  unfold f_Tt_isAheadOf_tr_bs at hf
  refine xj_aload_n C d_Tt_isAheadOf_0 rfl 0 rfl ?_
  refine xj_get C g_Tt_21 5 rfl rfl d_Tt_isAheadOf_1 ?_
  refine xj_aload_n C d_Tt_isAheadOf_4 rfl 1 rfl ?_
  refine xj_get C g_Tt_21 6 rfl rfl d_Tt_isAheadOf_5 ?_
  refine xj_icmp_eq (tgt := 28) C d_Tt_isAheadOf_8 (by decide) (fun h9 => ?_) (fun h9 => ?_)
  · have hf := xi_pos h9 hf
    refine xj_iconst (v := 0) C d_Tt_isAheadOf_28 rfl ?_
    refine xj_istore_n C d_Tt_isAheadOf_29 rfl (by decide) rfl ?_
    exact xj_lv [1, 2, 3, 0] rfl (w_Tt_isAheadOf_tr_bs_30 N C hr 40 x2 0 st hf)
  · have hf := xi_neg h9 hf
    refine xj_aload_n C d_Tt_isAheadOf_11 rfl 0 rfl ?_
    refine xj_get C g_Tt_21 5 rfl rfl d_Tt_isAheadOf_12 ?_
    refine xj_aload_n C d_Tt_isAheadOf_15 rfl 1 rfl ?_
    refine xj_get C g_Tt_21 6 rfl rfl d_Tt_isAheadOf_16 ?_
    refine xj_icmp_ge (tgt := 26) C d_Tt_isAheadOf_19 (by decide) (fun h9 => ?_) (fun h9 => ?_)
    · have hf := xi_pos h9 hf
      refine xj_iconst (v := 0) C d_Tt_isAheadOf_26 rfl ?_
      exact xj_zret C hr rfl hf d_Tt_isAheadOf_27
    · have hf := xi_neg h9 hf
      refine xj_iconst (v := 1) C d_Tt_isAheadOf_22 rfl ?_
      refine xj_goto (tgt := 27) C d_Tt_isAheadOf_23 (by decide) ?_
      exact xj_zret C hr rfl hf d_Tt_isAheadOf_27
set_option maxHeartbeats 4000000 in
set_option maxRecDepth 20000 in
theorem w_Fl_comesBehind_68 {p : Program} {l : Launch} {e : Env} {s : State} {m : MethodId} {args : Array Value} {below : List Frame} {meth : Method} {c : Code} {sz : Nat} {D : va_G} {ad : Nat → Nat} {cI : ClassId} {out : Int32 × St} (N : (LC ad).Nodup) (C : xC p s m args meth c (xA (LC ad) sz) D 3 (tyC cI) b_Fl_comesBehind R_Fl) (hr : meth.sig.returnType = (some .boolean)) (st : St) (hf : f_Fl_comesBehind_68  st = some out) : j_i p l e rm_Fl_comesBehind s m args below meth c sz D (WC ad cI) (LC ad) out 3 (WC ad cI st) [] 68 [] := by
  unfold f_Fl_comesBehind_68 at hf
  refine xj_iconst (v := 1) C d_Fl_comesBehind_68 rfl ?_
  refine xj_goto (tgt := 73) C d_Fl_comesBehind_69 (by decide) ?_
  exact xj_zret C hr rfl hf d_Fl_comesBehind_73
set_option maxHeartbeats 4000000 in
set_option maxRecDepth 20000 in
theorem c_Fl_comesBehind {l : Launch} {D : va_G} {ad : Nat → Nat} {cI : ClassId} (N : (LC ad).Nodup) {x1 x2 : Int32} {st : St} {out : Int32 × St} (hf : f_Fl_comesBehind x1 x2 st = some out) : xMi l y_Fl_comesBehind b_Fl_comesBehind 3 (some .boolean) rm_Fl_comesBehind D (tyC cI) (WC ad cI) (LC ad) [.ref (ad 2), .int x1, .int x2] st out := by
  intro sz
  refine xM_of (L := LC ad) (by decide) (Nat.le_of_ble_eq_true rfl) (fun p e s m below meth c hsz hr C => ?_)
  show j_i p l e rm_Fl_comesBehind s m _ below meth c sz D (WC ad cI) (LC ad) out 3 (WC ad cI st) [(0, .ref (ad 2)), (1, .int x1), (2, .int x2)] 0 []
  unfold f_Fl_comesBehind at hf
  refine xj_aload_n C d_Fl_comesBehind_0 rfl 0 rfl ?_
  refine xj_iload_n C d_Fl_comesBehind_1 rfl 1 rfl ?_
  obtain ⟨o1, ho1, hf⟩ := xb_some hf
  refine xj_callVi (rest := []) C (c_Fl_has N ho1) Y_Fl_has i_Fl_31 2 rfl rfl (by decide) ⟨rfl, rfl⟩ rfl rfl (Nat.le_of_ble_eq_true rfl) d_Fl_comesBehind_2 (fun q h => Or.inl h) ?_
  refine xj_if_eq (tgt := 31) C d_Fl_comesBehind_5 (by decide) (fun h9 => ?_) (fun h9 => ?_)
  · have hf := xi_pos h9 hf
    refine xj_iconst (v := 0) C d_Fl_comesBehind_31 rfl ?_
    exact xj_zret C hr rfl hf d_Fl_comesBehind_32
  · have hf := xi_neg h9 hf
    refine xj_aload_n C d_Fl_comesBehind_8 rfl 0 rfl ?_
    refine xj_iload_n C d_Fl_comesBehind_9 rfl 2 rfl ?_
    obtain ⟨o2, ho2, hf⟩ := xb_some hf
    refine xj_callVi (rest := []) C (c_Fl_has N ho2) Y_Fl_has i_Fl_31 2 rfl rfl (by decide) ⟨rfl, rfl⟩ rfl rfl (Nat.le_of_ble_eq_true rfl) d_Fl_comesBehind_10 (fun q h => Or.inl h) ?_
    refine xj_if_eq (tgt := 31) C d_Fl_comesBehind_13 (by decide) (fun h9 => ?_) (fun h9 => ?_)
    · have hf := xi_pos h9 hf
      refine xj_iconst (v := 0) C d_Fl_comesBehind_31 rfl ?_
      exact xj_zret C hr rfl hf d_Fl_comesBehind_32
    · have hf := xi_neg h9 hf
      refine xj_aload_n C d_Fl_comesBehind_16 rfl 0 rfl ?_
      refine xj_get C g_Fl_21 2 rfl rfl d_Fl_comesBehind_17 ?_
      refine xj_iload_n C d_Fl_comesBehind_20 rfl 1 rfl ?_
      obtain ⟨g3, hf⟩ := xb_guard hf
      refine xj_iald C 17 0 rfl rfl g3 d_Fl_comesBehind_21 ?_
      refine xj_aload_n C d_Fl_comesBehind_22 rfl 0 rfl ?_
      refine xj_get C g_Fl_21 2 rfl rfl d_Fl_comesBehind_23 ?_
      refine xj_iload_n C d_Fl_comesBehind_26 rfl 2 rfl ?_
      obtain ⟨g4, hf⟩ := xb_guard hf
      refine xj_iald C 17 0 rfl rfl g4 d_Fl_comesBehind_27 ?_
      refine xj_icmp_eq (tgt := 33) C d_Fl_comesBehind_28 (by decide) (fun h9 => ?_) (fun h9 => ?_)
      · have hf := xi_pos h9 hf
        refine xj_aload_n C d_Fl_comesBehind_33 rfl 0 rfl ?_
        refine xj_get C g_Fl_18 2 rfl rfl d_Fl_comesBehind_34 ?_
        refine xj_iload_n C d_Fl_comesBehind_37 rfl 1 rfl ?_
        obtain ⟨g5, hf⟩ := xb_guard hf
        refine xj_iald C 16 0 rfl rfl g5 d_Fl_comesBehind_38 ?_
        refine xj_aload_n C d_Fl_comesBehind_39 rfl 0 rfl ?_
        refine xj_get C g_Fl_18 2 rfl rfl d_Fl_comesBehind_40 ?_
        refine xj_iload_n C d_Fl_comesBehind_43 rfl 2 rfl ?_
        obtain ⟨g6, hf⟩ := xb_guard hf
        refine xj_iald C 16 0 rfl rfl g6 d_Fl_comesBehind_44 ?_
        refine xj_icmp_gt (tgt := 68) C d_Fl_comesBehind_45 (by decide) (fun h9 => ?_) (fun h9 => ?_)
        · have hf := xi_pos h9 hf
          exact xj_lv [] rfl (w_Fl_comesBehind_68 N C hr o2.2 hf)
        · have hf := xi_neg h9 hf
          refine xj_aload_n C d_Fl_comesBehind_48 rfl 0 rfl ?_
          refine xj_get C g_Fl_18 2 rfl rfl d_Fl_comesBehind_49 ?_
          refine xj_iload_n C d_Fl_comesBehind_52 rfl 1 rfl ?_
          obtain ⟨g7, hf⟩ := xb_guard hf
          refine xj_iald C 16 0 rfl rfl g7 d_Fl_comesBehind_53 ?_
          refine xj_aload_n C d_Fl_comesBehind_54 rfl 0 rfl ?_
          refine xj_get C g_Fl_18 2 rfl rfl d_Fl_comesBehind_55 ?_
          refine xj_iload_n C d_Fl_comesBehind_58 rfl 2 rfl ?_
          obtain ⟨g8, hf⟩ := xb_guard hf
          refine xj_iald C 16 0 rfl rfl g8 d_Fl_comesBehind_59 ?_
          refine xj_icmp_ne (tgt := 72) C d_Fl_comesBehind_60 (by decide) (fun h9 => ?_) (fun h9 => ?_)
          · have hf := xi_neg h9 hf
            refine xj_iconst (v := 0) C d_Fl_comesBehind_72 rfl ?_
            exact xj_zret C hr rfl hf d_Fl_comesBehind_73
          · have hf := xi_pos h9 hf
            refine xj_iload_n C d_Fl_comesBehind_63 rfl 1 rfl ?_
            refine xj_iload_n C d_Fl_comesBehind_64 rfl 2 rfl ?_
            refine xj_icmp_le (tgt := 72) C d_Fl_comesBehind_65 (by decide) (fun h9 => ?_) (fun h9 => ?_)
            · have hf := xi_pos h9 hf
              refine xj_iconst (v := 0) C d_Fl_comesBehind_72 rfl ?_
              exact xj_zret C hr rfl hf d_Fl_comesBehind_73
            · have hf := xi_neg h9 hf
              exact xj_lv [] rfl (w_Fl_comesBehind_68 N C hr o2.2 hf)
      · have hf := xi_neg h9 hf
        refine xj_iconst (v := 0) C d_Fl_comesBehind_31 rfl ?_
        exact xj_zret C hr rfl hf d_Fl_comesBehind_32
set_option maxHeartbeats 4000000 in
set_option maxRecDepth 20000 in
theorem w_Pl_overtaken_tr_47 {p : Program} {l : Launch} {e : Env} {s : State} {m : MethodId} {args : Array Value} {below : List Frame} {meth : Method} {c : Code} {sz : Nat} {D : va_G} {ad : Nat → Nat} {cI : ClassId} {out : Int32 × St} (N : (LC ad).Nodup) (C : xC p s m args meth c (xA (LC ad) sz) D 5 (tyC cI) b_Pl_overtaken R_Pl) (hr : meth.sig.returnType = (some .int)) {K5 : Int32 → Int32 → Int32 → St → Option (Int32 × St)} (hK5 : ∀ (x2 x3 x4 : Int32) (st : St), K5 x2 x3 x4 st = some out → j_i p l e rm_Pl_overtaken_tr s m args below meth c sz D (WC ad cI) (LC ad) out 5 (WC ad cI st) [(0, .ref (ad 4)), (1, .ref (ad 5)), (2, .int x2), (3, .int x3), (4, .int x4)] 5 []) (x2 x3 x4 : Int32) (st : St) (hf : f_Pl_overtaken_tr_47 K5 x2 x3 x4 st = some out) : j_i p l e rm_Pl_overtaken_tr s m args below meth c sz D (WC ad cI) (LC ad) out 5 (WC ad cI st) [(0, .ref (ad 4)), (1, .ref (ad 5)), (2, .int x2), (3, .int x3), (4, .int x4)] 47 [] := by
  unfold f_Pl_overtaken_tr_47 at hf
  refine xj_iinc (v := x4 + 1) (j := 4) C d_Pl_overtaken_47 rfl rfl (by decide) rfl ?_
  refine xj_goto (tgt := 5) C d_Pl_overtaken_50 (by decide) ?_
  exact xj_lv [1, 2, 3, 4, 0] rfl (hK5 x2 x3 (x4 + 1) st hf)
set_option maxHeartbeats 4000000 in
set_option maxRecDepth 20000 in
theorem wb_Pl_overtaken_tr_5 {p : Program} {l : Launch} {e : Env} {s : State} {m : MethodId} {args : Array Value} {below : List Frame} {meth : Method} {c : Code} {sz : Nat} {D : va_G} {ad : Nat → Nat} {cI : ClassId} {out : Int32 × St} (N : (LC ad).Nodup) (C : xC p s m args meth c (xA (LC ad) sz) D 5 (tyC cI) b_Pl_overtaken R_Pl) (hr : meth.sig.returnType = (some .int)) {K5 : Int32 → Int32 → Int32 → St → Option (Int32 × St)} (hK5 : ∀ (x2 x3 x4 : Int32) (st : St), K5 x2 x3 x4 st = some out → j_i p l e rm_Pl_overtaken_tr s m args below meth c sz D (WC ad cI) (LC ad) out 5 (WC ad cI st) [(0, .ref (ad 4)), (1, .ref (ad 5)), (2, .int x2), (3, .int x3), (4, .int x4)] 5 []) (x2 x3 x4 : Int32) (st : St) (hf : b_Pl_overtaken_tr_5 K5 x2 x3 x4 st = some out) : j_i p l e rm_Pl_overtaken_tr s m args below meth c sz D (WC ad cI) (LC ad) out 5 (WC ad cI st) [(0, .ref (ad 4)), (1, .ref (ad 5)), (2, .int x2), (3, .int x3), (4, .int x4)] 5 [] := by
  unfold b_Pl_overtaken_tr_5 at hf
  refine xj_iload C d_Pl_overtaken_5 4 rfl ?_
  refine xj_aload_n C d_Pl_overtaken_7 rfl 0 rfl ?_
  refine xj_get C g_Pl_32 4 rfl rfl d_Pl_overtaken_8 ?_
  obtain ⟨o1, ho1, hf⟩ := xb_some hf
  refine xj_callVi (rest := [.int x4]) C (c_Fl_size N ho1) Y_Fl_size i_Pl_109 2 rfl rfl (by decide) ⟨rfl, rfl⟩ rfl rfl (Nat.le_of_ble_eq_true rfl) d_Pl_overtaken_11 (fun q h => Or.inl h) ?_
  refine xj_icmp_ge (tgt := 53) C d_Pl_overtaken_14 (by decide) (fun h9 => ?_) (fun h9 => ?_)
  · have hf := xi_pos h9 hf
    refine xj_iload_n C d_Pl_overtaken_53 rfl 3 rfl ?_
    exact xj_iret C hr hf d_Pl_overtaken_54
  · have hf := xi_neg h9 hf
    refine xj_aload_n C d_Pl_overtaken_17 rfl 0 rfl ?_
    refine xj_get C g_Pl_32 4 rfl rfl d_Pl_overtaken_18 ?_
    refine xj_iload C d_Pl_overtaken_21 4 rfl ?_
    refine xj_iload_n C d_Pl_overtaken_23 rfl 2 rfl ?_
    obtain ⟨o2, ho2, hf⟩ := xb_some hf
    refine xj_callVi (rest := []) C (c_Fl_comesBehind N ho2) Y_Fl_comesBehind i_Pl_122 2 rfl rfl (by decide) ⟨rfl, rfl⟩ rfl rfl (Nat.le_of_ble_eq_true rfl) d_Pl_overtaken_24 (fun q h => Or.inl h) ?_
    refine xj_if_eq (tgt := 47) C d_Pl_overtaken_27 (by decide) (fun h9 => ?_) (fun h9 => ?_)
    · have hf := xi_pos h9 hf
      exact xj_lv [0, 1, 2, 3, 4] rfl (w_Pl_overtaken_tr_47 N C hr hK5 x2 x3 x4 o2.2 hf)
    · have hf := xi_neg h9 hf
      refine xj_aload_n C d_Pl_overtaken_30 rfl 1 rfl ?_
      refine xj_iload C d_Pl_overtaken_31 4 rfl ?_
      obtain ⟨o3, ho3, hf⟩ := xb_some hf
      refine xj_callVi (rest := []) C (c_Tt_begin_tr N ho3) Y_Tt_begin i_Pl_125 5 rfl rfl (by decide) ⟨rfl, rfl⟩ rfl rfl (Nat.le_of_ble_eq_true rfl) d_Pl_overtaken_33 (fun q h => Or.inl h) ?_
      refine xj_aload_n C d_Pl_overtaken_36 rfl 1 rfl ?_
      refine xj_iload_n C d_Pl_overtaken_37 rfl 2 rfl ?_
      obtain ⟨o4, ho4, hf⟩ := xb_some hf
      refine xj_callVi (rest := [.int o3.1]) C (c_Tt_begin_tr N ho4) Y_Tt_begin i_Pl_125 5 rfl rfl (by decide) ⟨rfl, rfl⟩ rfl rfl (Nat.le_of_ble_eq_true rfl) d_Pl_overtaken_38 (fun q h => Or.inl h) ?_
      refine xj_icmp_ge (tgt := 47) C d_Pl_overtaken_41 (by decide) (fun h9 => ?_) (fun h9 => ?_)
      · have hf := xi_pos h9 hf
        exact xj_lv [0, 1, 2, 3, 4] rfl (w_Pl_overtaken_tr_47 N C hr hK5 x2 x3 x4 o4.2 hf)
      · have hf := xi_neg h9 hf
        refine xj_iinc (v := x3 + 1) (j := 3) C d_Pl_overtaken_44 rfl rfl (by decide) rfl ?_
        exact xj_lv [1, 2, 3, 0, 4] rfl (w_Pl_overtaken_tr_47 N C hr hK5 x2 (x3 + 1) x4 o4.2 hf)
set_option maxHeartbeats 4000000 in
set_option maxRecDepth 20000 in
theorem w_Pl_overtaken_tr_5 {p : Program} {l : Launch} {e : Env} {s : State} {m : MethodId} {args : Array Value} {below : List Frame} {meth : Method} {c : Code} {sz : Nat} {D : va_G} {ad : Nat → Nat} {cI : ClassId} {out : Int32 × St} (N : (LC ad).Nodup) (C : xC p s m args meth c (xA (LC ad) sz) D 5 (tyC cI) b_Pl_overtaken R_Pl) (hr : meth.sig.returnType = (some .int)) (n : Nat) : ∀ (x2 x3 x4 : Int32) (st : St), f_Pl_overtaken_tr_5 n x2 x3 x4 st = some out → j_i p l e rm_Pl_overtaken_tr s m args below meth c sz D (WC ad cI) (LC ad) out 5 (WC ad cI st) [(0, .ref (ad 4)), (1, .ref (ad 5)), (2, .int x2), (3, .int x3), (4, .int x4)] 5 [] := by
  induction n with
  | zero => intro x2 x3 x4 st hf; exact absurd (show (none : Option (Int32 × St)) = some out from hf) (fun h => by cases h)
  | succ n ih => intro x2 x3 x4 st hf; exact wb_Pl_overtaken_tr_5 N C hr ih x2 x3 x4 st hf
set_option maxHeartbeats 4000000 in
set_option maxRecDepth 20000 in
theorem c_Pl_overtaken_tr {l : Launch} {D : va_G} {ad : Nat → Nat} {cI : ClassId} (N : (LC ad).Nodup) {x2 : Int32} {st : St} {out : Int32 × St} (hf : f_Pl_overtaken_tr x2 st = some out) : xMi l y_Pl_overtaken b_Pl_overtaken 5 (some .int) rm_Pl_overtaken_tr D (tyC cI) (WC ad cI) (LC ad) [.ref (ad 4), .ref (ad 5), .int x2] st out := by
  intro sz
  refine xM_of (L := LC ad) (by decide) (Nat.le_of_ble_eq_true rfl) (fun p e s m below meth c hsz hr C => ?_)
  show j_i p l e rm_Pl_overtaken_tr s m _ below meth c sz D (WC ad cI) (LC ad) out 5 (WC ad cI st) [(0, .ref (ad 4)), (1, .ref (ad 5)), (2, .int x2)] 0 []
  unfold f_Pl_overtaken_tr at hf
  refine xj_iconst (v := 0) C d_Pl_overtaken_0 rfl ?_
  refine xj_istore_n C d_Pl_overtaken_1 rfl (by decide) rfl ?_
  refine xj_iconst (v := 0) C d_Pl_overtaken_2 rfl ?_
  refine xj_istore C d_Pl_overtaken_3 (by decide) rfl ?_
  exact xj_lv [2, 3, 4, 1, 0] rfl (w_Pl_overtaken_tr_5 N C hr 40 x2 0 0 st hf)
set_option maxHeartbeats 4000000 in
set_option maxRecDepth 20000 in
theorem wb_Pl_offerTrial_2 {p : Program} {l : Launch} {e : Env} {s : State} {m : MethodId} {args : Array Value} {below : List Frame} {meth : Method} {c : Code} {sz : Nat} {D : va_G} {ad : Nat → Nat} {cI : ClassId} {out : St} (N : (LC ad).Nodup) (C : xC p s m args meth c (xA (LC ad) sz) D 3 (tyC cI) b_Pl_offerTrial R_Pl) (hr : meth.sig.returnType = none) {K2 : Int32 → Int32 → St → Option (St)} (hK2 : ∀ (x1 x2 : Int32) (st : St), K2 x1 x2 st = some out → j_v p l e rm_Pl_offerTrial s m args below meth c sz D (WC ad cI) (LC ad) out 3 (WC ad cI st) [(0, .ref (ad 4)), (1, .int x1), (2, .int x2)] 2 []) (x1 x2 : Int32) (st : St) (hf : b_Pl_offerTrial_2 K2 x1 x2 st = some out) : j_v p l e rm_Pl_offerTrial s m args below meth c sz D (WC ad cI) (LC ad) out 3 (WC ad cI st) [(0, .ref (ad 4)), (1, .int x1), (2, .int x2)] 2 [] := by
  unfold b_Pl_offerTrial_2 at hf
  refine xj_iload_n C d_Pl_offerTrial_2 rfl 2 rfl ?_
  refine xj_aload_n C d_Pl_offerTrial_3 rfl 0 rfl ?_
  refine xj_get C g_Pl_32 4 rfl rfl d_Pl_offerTrial_4 ?_
  obtain ⟨o1, ho1, hf⟩ := xb_some hf
  refine xj_callVi (rest := [.int x2]) C (c_Fl_size N ho1) Y_Fl_size i_Pl_109 2 rfl rfl (by decide) ⟨rfl, rfl⟩ rfl rfl (Nat.le_of_ble_eq_true rfl) d_Pl_offerTrial_7 (fun q h => Or.inl h) ?_
  refine xj_icmp_ge (tgt := 36) C d_Pl_offerTrial_10 (by decide) (fun h9 => ?_) (fun h9 => ?_)
  · have hf := xi_pos h9 hf
    refine xj_aload_n C d_Pl_offerTrial_36 rfl 0 rfl ?_
    refine xj_get C g_Pl_12 4 rfl rfl d_Pl_offerTrial_37 ?_
    refine xj_iload_n C d_Pl_offerTrial_40 rfl 1 rfl ?_
    obtain ⟨o2, ho2, hf⟩ := xb_some hf
    refine xj_callVv (rest := []) C (c_Tt_setWaiting_tr N ho2) Y_Tt_setWaiting i_Pl_115 5 rfl rfl (by decide) ⟨rfl, rfl⟩ rfl rfl (Nat.le_of_ble_eq_true rfl) d_Pl_offerTrial_41 (fun q h => Or.inl h) ?_
    refine xj_aload_n C d_Pl_offerTrial_44 rfl 0 rfl ?_
    refine xj_get C g_Pl_40 4 rfl rfl d_Pl_offerTrial_45 ?_
    refine xj_if_eq (tgt := 72) C d_Pl_offerTrial_48 (by decide) (fun h9 => ?_) (fun h9 => ?_)
    · have hf := xi_pos h9 hf
      exact xj_lv [0] rfl (w_Pl_offerTrial_72 N C hr o2 hf)
    · have hf := xi_neg h9 hf
      refine xj_aload_n C d_Pl_offerTrial_51 rfl 0 rfl ?_
      refine xj_get C g_Pl_12 4 rfl rfl d_Pl_offerTrial_52 ?_
      refine xj_aload_n C d_Pl_offerTrial_55 rfl 0 rfl ?_
      refine xj_get C g_Pl_18 4 rfl rfl d_Pl_offerTrial_56 ?_
      refine xj_aload_n C d_Pl_offerTrial_59 rfl 0 rfl ?_
      refine xj_get C g_Pl_32 4 rfl rfl d_Pl_offerTrial_60 ?_
      obtain ⟨o5, ho5, hf⟩ := xb_some hf
      refine xj_callVi (rest := [.ref (ad 6), .ref (ad 5)]) C (c_Fl_all N ho5) Y_Fl_all i_Pl_48 2 rfl rfl (by decide) ⟨rfl, rfl⟩ rfl rfl (Nat.le_of_ble_eq_true rfl) d_Pl_offerTrial_63 (fun q h => Or.inl h) ?_
      obtain ⟨o6, ho6, hf⟩ := xb_some hf
      refine xj_callVi (rest := []) C (c_Tt_isAheadOf_tr_bs N ho6) Y_Tt_isAheadOf i_Pl_118 5 rfl rfl (by decide) ⟨rfl, rfl⟩ rfl rfl (Nat.le_of_ble_eq_true rfl) d_Pl_offerTrial_66 (fun q h => Or.inl h) ?_
      refine xj_if_eq (tgt := 88) C d_Pl_offerTrial_69 (by decide) (fun h9 => ?_) (fun h9 => ?_)
      · have hf := xi_pos h9 hf
        exact xj_vret C hr hf d_Pl_offerTrial_88
      · have hf := xi_neg h9 hf
        exact xj_lv [0] rfl (w_Pl_offerTrial_72 N C hr o6.2 hf)
  · have hf := xi_neg h9 hf
    refine xj_aload_n C d_Pl_offerTrial_13 rfl 0 rfl ?_
    refine xj_aload_n C d_Pl_offerTrial_14 rfl 0 rfl ?_
    refine xj_get C g_Pl_12 4 rfl rfl d_Pl_offerTrial_15 ?_
    refine xj_iload_n C d_Pl_offerTrial_18 rfl 2 rfl ?_
    obtain ⟨o7, ho7, hf⟩ := xb_some hf
    refine xj_callVi (rest := []) C (c_Pl_overtaken_tr N ho7) Y_Pl_overtaken i_Pl_112 4 rfl rfl (by decide) ⟨rfl, rfl⟩ rfl rfl (Nat.le_of_ble_eq_true rfl) d_Pl_offerTrial_19 (fun q h => Or.inl h) ?_
    refine xj_aload_n C d_Pl_offerTrial_22 rfl 0 rfl ?_
    refine xj_get C g_Pl_24 4 rfl rfl d_Pl_offerTrial_23 ?_
    refine xj_icmp_le (tgt := 30) C d_Pl_offerTrial_26 (by decide) (fun h9 => ?_) (fun h9 => ?_)
    · have hf := xi_pos h9 hf
      refine xj_iinc (v := x2 + 1) (j := 2) C d_Pl_offerTrial_30 rfl rfl (by decide) rfl ?_
      refine xj_goto (tgt := 2) C d_Pl_offerTrial_33 (by decide) ?_
      exact xj_lv [1, 2, 0] rfl (hK2 x1 (x2 + 1) o7.2 hf)
    · have hf := xi_neg h9 hf
      exact xj_vret C hr hf d_Pl_offerTrial_29
set_option maxHeartbeats 4000000 in
set_option maxRecDepth 20000 in
theorem w_Pl_offerTrial_2 {p : Program} {l : Launch} {e : Env} {s : State} {m : MethodId} {args : Array Value} {below : List Frame} {meth : Method} {c : Code} {sz : Nat} {D : va_G} {ad : Nat → Nat} {cI : ClassId} {out : St} (N : (LC ad).Nodup) (C : xC p s m args meth c (xA (LC ad) sz) D 3 (tyC cI) b_Pl_offerTrial R_Pl) (hr : meth.sig.returnType = none) (n : Nat) : ∀ (x1 x2 : Int32) (st : St), f_Pl_offerTrial_2 n x1 x2 st = some out → j_v p l e rm_Pl_offerTrial s m args below meth c sz D (WC ad cI) (LC ad) out 3 (WC ad cI st) [(0, .ref (ad 4)), (1, .int x1), (2, .int x2)] 2 [] := by
  induction n with
  | zero => intro x1 x2 st hf; exact absurd (show (none : Option (St)) = some out from hf) (fun h => by cases h)
  | succ n ih => intro x1 x2 st hf; exact wb_Pl_offerTrial_2 N C hr ih x1 x2 st hf
set_option maxHeartbeats 4000000 in
set_option maxRecDepth 20000 in
theorem c_Pl_offerTrial {l : Launch} {D : va_G} {ad : Nat → Nat} {cI : ClassId} (N : (LC ad).Nodup) {x1 : Int32} {st : St} {out : St} (hf : f_Pl_offerTrial x1 st = some out) : xMv l y_Pl_offerTrial b_Pl_offerTrial 3 none rm_Pl_offerTrial D (tyC cI) (WC ad cI) (LC ad) [.ref (ad 4), .int x1] st out := by
  intro sz
  refine xM_of (L := LC ad) (by decide) (Nat.le_of_ble_eq_true rfl) (fun p e s m below meth c hsz hr C => ?_)
  show j_v p l e rm_Pl_offerTrial s m _ below meth c sz D (WC ad cI) (LC ad) out 3 (WC ad cI st) [(0, .ref (ad 4)), (1, .int x1)] 0 []
  unfold f_Pl_offerTrial at hf
  refine xj_iconst (v := 0) C d_Pl_offerTrial_0 rfl ?_
  refine xj_istore_n C d_Pl_offerTrial_1 rfl (by decide) rfl ?_
  exact xj_lv [1, 2, 0] rfl (w_Pl_offerTrial_2 N C hr 40 x1 0 st hf)
set_option maxHeartbeats 4000000 in
set_option maxRecDepth 20000 in
theorem w_Pl_tryRuns_20 {p : Program} {l : Launch} {e : Env} {s : State} {m : MethodId} {args : Array Value} {below : List Frame} {meth : Method} {c : Code} {sz : Nat} {D : va_G} {ad : Nat → Nat} {cI : ClassId} {out : St} {dd : Nat} (N : (LC ad).Nodup) (C : xC p s m args meth c (xA (LC ad) sz) D 12 (tyC cI) b_Pl_tryRuns R_Pl) (hr : meth.sig.returnType = none) {REC : Int32 → Int32 → Int32 → Int32 → Int32 → Int32 → St → Option (St)} (hREC : ∀ (x1 x2 x3 x4 x5 x6 : Int32) (st : St) (o : St), REC x1 x2 x3 x4 x5 x6 st = some o → xMv l y_Pl_tryRuns b_Pl_tryRuns 12 none (rm_Pl_tryRuns dd) D (tyC cI) (WC ad cI) (LC ad) [.ref (ad 4), .int x1, .int x2, .int x3, .int x4, .int x5, .int x6] st o) (x1 x2 x3 x4 x5 x6 : Int32) (st : St) (hf : f_Pl_tryRuns_20 REC x1 x2 x3 x4 x5 x6 st = some out) : j_v p l e (rm_Pl_tryRuns (dd + 1)) s m args below meth c sz D (WC ad cI) (LC ad) out 12 (WC ad cI st) [(0, .ref (ad 4)), (1, .int x1), (2, .int x2), (3, .int x3), (4, .int x4), (5, .int x5), (6, .int x6)] 20 [] := by
  unfold f_Pl_tryRuns_20 at hf
  refine xj_iload_n C d_Pl_tryRuns_20 rfl 3 rfl ?_
  refine xj_if_ne (tgt := 31) C d_Pl_tryRuns_21 (by decide) (fun h9 => ?_) (fun h9 => ?_)
  · have hf := xi_neg h9 hf
    refine xj_aload_n C d_Pl_tryRuns_31 rfl 0 rfl ?_
    refine xj_get C g_Pl_28 4 rfl rfl d_Pl_tryRuns_32 ?_
    refine xj_iload_n C d_Pl_tryRuns_35 rfl 1 rfl ?_
    obtain ⟨o1, ho1, hf⟩ := xb_some hf
    refine xj_callVi (rest := []) C (c_Ch_has N ho1) Y_Ch_has i_Pl_69 1 rfl rfl (by simp only [rm_Pl_tryRuns, rm_Ch_has]; omega) ⟨rfl, rfl⟩ rfl rfl (Nat.le_of_ble_eq_true rfl) d_Pl_tryRuns_36 (fun q h => Or.inl h) ?_
    refine xj_if_ne (tgt := 43) C d_Pl_tryRuns_39 (by decide) (fun h9 => ?_) (fun h9 => ?_)
    · have hf := xi_neg h9 hf
      refine xj_aload_n C d_Pl_tryRuns_43 rfl 0 rfl ?_
      refine xj_get C g_Pl_28 4 rfl rfl d_Pl_tryRuns_44 ?_
      refine xj_iload_n C d_Pl_tryRuns_47 rfl 1 rfl ?_
      obtain ⟨o2, ho2, hf⟩ := xb_some hf
      refine xj_callVi (rest := []) C (c_Ch_fill N ho2) Y_Ch_fill i_Pl_75 1 rfl rfl (by simp only [rm_Pl_tryRuns, rm_Ch_fill]; omega) ⟨rfl, rfl⟩ rfl rfl (Nat.le_of_ble_eq_true rfl) d_Pl_tryRuns_48 (fun q h => Or.inl h) ?_
      refine xj_istore C d_Pl_tryRuns_51 (by decide) rfl ?_
      refine xj_iconst (v := 1) C d_Pl_tryRuns_53 rfl ?_
      refine xj_istore C d_Pl_tryRuns_54 (by decide) rfl ?_
      exact xj_lv [2, 3, 4, 5, 6, 7, 8, 1, 0] rfl (w_Pl_tryRuns_56 N C hr hREC 40 x1 x2 x3 x4 x5 x6 o2.1 1 o2.2 hf)
    · have hf := xi_pos h9 hf
      exact xj_vret C hr hf d_Pl_tryRuns_42
  · have hf := xi_pos h9 hf
    refine xj_aload_n C d_Pl_tryRuns_24 rfl 0 rfl ?_
    refine xj_iload C d_Pl_tryRuns_25 6 rfl ?_
    obtain ⟨o11, ho11, hf⟩ := xb_some hf
    refine xj_callVv (rest := []) C (c_Pl_offerTrial N ho11) Y_Pl_offerTrial i_Pl_65 4 rfl rfl (by simp only [rm_Pl_tryRuns, rm_Pl_offerTrial]; omega) ⟨rfl, rfl⟩ rfl rfl (Nat.le_of_ble_eq_true rfl) d_Pl_tryRuns_27 (fun q h => Or.inl h) ?_
    exact xj_vret C hr hf d_Pl_tryRuns_30
set_option maxHeartbeats 4000000 in
set_option maxRecDepth 20000 in
theorem c_Tt_waiting_bs {l : Launch} {D : va_G} {ad : Nat → Nat} {cI : ClassId} (N : (LC ad).Nodup) {st : St} {out : Int32 × St} (hf : f_Tt_waiting_bs  st = some out) : xMi l y_Tt_waiting b_Tt_waiting 1 (some .int) rm_Tt_waiting_bs D (tyC cI) (WC ad cI) (LC ad) [.ref (ad 6)] st out := by
  intro sz
  refine xM_of (L := LC ad) (by decide) (Nat.le_of_ble_eq_true rfl) (fun p e s m below meth c hsz hr C => ?_)
  show j_i p l e rm_Tt_waiting_bs s m _ below meth c sz D (WC ad cI) (LC ad) out 1 (WC ad cI st) [(0, .ref (ad 6))] 0 []
  unfold f_Tt_waiting_bs at hf
  refine xj_aload_n C d_Tt_waiting_0 rfl 0 rfl ?_
  refine xj_get C g_Tt_21 6 rfl rfl d_Tt_waiting_1 ?_
  exact xj_iret C hr hf d_Tt_waiting_4
set_option maxHeartbeats 4000000 in
set_option maxRecDepth 20000 in
theorem we_Pl_tryRuns {p : Program} {l : Launch} {e : Env} {s : State} {m : MethodId} {args : Array Value} {below : List Frame} {meth : Method} {c : Code} {sz : Nat} {D : va_G} {ad : Nat → Nat} {cI : ClassId} {out : St} {dd : Nat} (N : (LC ad).Nodup) (C : xC p s m args meth c (xA (LC ad) sz) D 12 (tyC cI) b_Pl_tryRuns R_Pl) (hr : meth.sig.returnType = none) {REC : Int32 → Int32 → Int32 → Int32 → Int32 → Int32 → St → Option (St)} (hREC : ∀ (x1 x2 x3 x4 x5 x6 : Int32) (st : St) (o : St), REC x1 x2 x3 x4 x5 x6 st = some o → xMv l y_Pl_tryRuns b_Pl_tryRuns 12 none (rm_Pl_tryRuns dd) D (tyC cI) (WC ad cI) (LC ad) [.ref (ad 4), .int x1, .int x2, .int x3, .int x4, .int x5, .int x6] st o) (x1 x2 x3 x4 x5 x6 : Int32) (st : St) (hf : fb_Pl_tryRuns REC x1 x2 x3 x4 x5 x6 st = some out) : j_v p l e (rm_Pl_tryRuns (dd + 1)) s m args below meth c sz D (WC ad cI) (LC ad) out 12 (WC ad cI st) [(0, .ref (ad 4)), (1, .int x1), (2, .int x2), (3, .int x3), (4, .int x4), (5, .int x5), (6, .int x6)] 0 [] := by
  unfold fb_Pl_tryRuns at hf
  refine xj_aload_n C d_Pl_tryRuns_0 rfl 0 rfl ?_
  refine xj_get C g_Pl_40 4 rfl rfl d_Pl_tryRuns_1 ?_
  refine xj_if_eq (tgt := 20) C d_Pl_tryRuns_4 (by decide) (fun h9 => ?_) (fun h9 => ?_)
  · have hf := xi_pos h9 hf
    exact xj_lv [0, 1, 2, 3, 4, 5, 6] rfl (w_Pl_tryRuns_20 N C hr hREC x1 x2 x3 x4 x5 x6 st hf)
  · have hf := xi_neg h9 hf
    refine xj_iload C d_Pl_tryRuns_7 6 rfl ?_
    refine xj_aload_n C d_Pl_tryRuns_9 rfl 0 rfl ?_
    refine xj_get C g_Pl_18 4 rfl rfl d_Pl_tryRuns_10 ?_
    obtain ⟨o12, ho12, hf⟩ := xb_some hf
    refine xj_callVi (rest := [.int x6]) C (c_Tt_waiting_bs N ho12) Y_Tt_waiting i_Pl_44 6 rfl rfl (by simp only [rm_Pl_tryRuns, rm_Tt_waiting_bs]; omega) ⟨rfl, rfl⟩ rfl rfl (Nat.le_of_ble_eq_true rfl) d_Pl_tryRuns_13 (fun q h => Or.inl h) ?_
    refine xj_icmp_le (tgt := 20) C d_Pl_tryRuns_16 (by decide) (fun h9 => ?_) (fun h9 => ?_)
    · have hf := xi_pos h9 hf
      exact xj_lv [0, 1, 2, 3, 4, 5, 6] rfl (w_Pl_tryRuns_20 N C hr hREC x1 x2 x3 x4 x5 x6 o12.2 hf)
    · have hf := xi_neg h9 hf
      exact xj_vret C hr hf d_Pl_tryRuns_19
set_option maxHeartbeats 4000000 in
set_option maxRecDepth 20000 in
theorem c_Pl_tryRuns {l : Launch} {D : va_G} {ad : Nat → Nat} {cI : ClassId} (N : (LC ad).Nodup) (d : Nat) : ∀ {x1 x2 x3 x4 x5 x6 : Int32} {st : St} {out : St}, f_Pl_tryRuns d x1 x2 x3 x4 x5 x6 st = some out → xMv l y_Pl_tryRuns b_Pl_tryRuns 12 none (rm_Pl_tryRuns d) D (tyC cI) (WC ad cI) (LC ad) [.ref (ad 4), .int x1, .int x2, .int x3, .int x4, .int x5, .int x6] st out := by
  induction d with
  | zero => intro x1 x2 x3 x4 x5 x6 st out hf; exact absurd (show (none : Option (St)) = some out from hf) (fun h => by cases h)
  | succ dd ih =>
    intro x1 x2 x3 x4 x5 x6 st out hf
    have hREC : ∀ (x1 x2 x3 x4 x5 x6 : Int32) (st : St) (o : St), f_Pl_tryRuns dd x1 x2 x3 x4 x5 x6 st = some o → xMv l y_Pl_tryRuns b_Pl_tryRuns 12 none (rm_Pl_tryRuns dd) D (tyC cI) (WC ad cI) (LC ad) [.ref (ad 4), .int x1, .int x2, .int x3, .int x4, .int x5, .int x6] st o := fun x1 x2 x3 x4 x5 x6 st o h => ih h
    exact fun sz => xM_of (L := LC ad) (by decide) (Nat.le_of_ble_eq_true rfl) (fun p e s m below meth c hsz hr C => we_Pl_tryRuns N C hr hREC x1 x2 x3 x4 x5 x6 st hf)
set_option maxHeartbeats 4000000 in
set_option maxRecDepth 20000 in
theorem c_Pl_search {l : Launch} {D : va_G} {ad : Nat → Nat} {cI : ClassId} (N : (LC ad).Nodup) {st : St} {out : Int32 × St} (hf : f_Pl_search  st = some out) : xMi l y_Pl_search b_Pl_search 1 (some .boolean) rm_Pl_search D (tyC cI) (WC ad cI) (LC ad) [.ref (ad 4)] st out := by
  intro sz
  refine xM_of (L := LC ad) (by decide) (Nat.le_of_ble_eq_true rfl) (fun p e s m below meth c hsz hr C => ?_)
  show j_i p l e rm_Pl_search s m _ below meth c sz D (WC ad cI) (LC ad) out 1 (WC ad cI st) [(0, .ref (ad 4))] 0 []
  unfold f_Pl_search at hf
  refine xj_aload_n C d_Pl_search_0 rfl 0 rfl ?_
  refine xj_iconst (v := 0) C d_Pl_search_1 rfl ?_
  obtain ⟨s1, es1, hf⟩ := xlet_ex hf
  refine xj_put (ws' := WC ad cI s1) C g_Pl_40 gw_Pl_planned (WC_D N sz _) 4 rfl rfl rfl (Nat.le_of_ble_eq_true rfl) d_Pl_search_2 (by rw [es1]; rfl) ?_
  refine xj_aload_n C d_Pl_search_5 rfl 0 rfl ?_
  refine xj_iconst (v := 0) C d_Pl_search_6 rfl ?_
  refine xj_iconst (v := 0) C d_Pl_search_7 rfl ?_
  refine xj_aload_n C d_Pl_search_8 rfl 0 rfl ?_
  refine xj_get C g_Pl_32 4 rfl rfl d_Pl_search_9 ?_
  obtain ⟨o2, ho2, hf⟩ := xb_some hf
  refine xj_callVi (rest := [.int 0, .int 0, .ref (ad 4)]) C (c_Fl_all N ho2) Y_Fl_all i_Pl_48 2 rfl rfl (by decide) ⟨rfl, rfl⟩ rfl rfl (Nat.le_of_ble_eq_true rfl) d_Pl_search_12 (fun q h => Or.inl h) ?_
  refine xj_iconst (v := 0) C d_Pl_search_15 rfl ?_
  refine xj_iconst (v := 0) C d_Pl_search_16 rfl ?_
  refine xj_iconst (v := 0) C d_Pl_search_17 rfl ?_
  obtain ⟨o3, ho3, hf⟩ := xb_some hf
  refine xj_callVv (rest := []) C (c_Pl_tryRuns N 8 ho3) Y_Pl_tryRuns i_Pl_53 4 rfl rfl (by decide) ⟨rfl, rfl⟩ rfl rfl (Nat.le_of_ble_eq_true rfl) d_Pl_search_18 (fun q h => Or.inl h) ?_
  refine xj_aload_n C d_Pl_search_21 rfl 0 rfl ?_
  refine xj_get C g_Pl_40 4 rfl rfl d_Pl_search_22 ?_
  obtain ⟨g4, hf⟩ := xb_guard hf
  exact xj_zret C hr (xb_narrow g4) hf d_Pl_search_25
set_option maxHeartbeats 4000000 in
set_option maxRecDepth 20000 in
theorem c_Tt_runOf_bs {l : Launch} {D : va_G} {ad : Nat → Nat} {cI : ClassId} (N : (LC ad).Nodup) {x1 : Int32} {st : St} {out : Int32 × St} (hf : f_Tt_runOf_bs x1 st = some out) : xMi l y_Tt_runOf b_Tt_runOf 2 (some .int) rm_Tt_runOf_bs D (tyC cI) (WC ad cI) (LC ad) [.ref (ad 6), .int x1] st out := by
  intro sz
  refine xM_of (L := LC ad) (by decide) (Nat.le_of_ble_eq_true rfl) (fun p e s m below meth c hsz hr C => ?_)
  show j_i p l e rm_Tt_runOf_bs s m _ below meth c sz D (WC ad cI) (LC ad) out 2 (WC ad cI st) [(0, .ref (ad 6)), (1, .int x1)] 0 []
  unfold f_Tt_runOf_bs at hf
  refine xj_iload_n C d_Tt_runOf_0 rfl 1 rfl ?_
  refine xj_if_lt (tgt := 18) C d_Tt_runOf_1 (by decide) (fun h9 => ?_) (fun h9 => ?_)
  · have hf := xi_pos h9 hf
    refine xj_iconst (v := (-1)) C d_Tt_runOf_18 rfl ?_
    exact xj_iret C hr hf d_Tt_runOf_19
  · have hf := xi_neg h9 hf
    refine xj_iload_n C d_Tt_runOf_4 rfl 1 rfl ?_
    refine xj_iconst (v := 4) C d_Tt_runOf_5 rfl ?_
    refine xj_icmp_ge (tgt := 18) C d_Tt_runOf_6 (by decide) (fun h9 => ?_) (fun h9 => ?_)
    · have hf := xi_pos h9 hf
      refine xj_iconst (v := (-1)) C d_Tt_runOf_18 rfl ?_
      exact xj_iret C hr hf d_Tt_runOf_19
    · have hf := xi_neg h9 hf
      refine xj_aload_n C d_Tt_runOf_9 rfl 0 rfl ?_
      refine xj_get C g_Tt_18 6 rfl rfl d_Tt_runOf_10 ?_
      refine xj_iload_n C d_Tt_runOf_13 rfl 1 rfl ?_
      obtain ⟨g1, hf⟩ := xb_guard hf
      refine xj_iald C 27 0 rfl rfl g1 d_Tt_runOf_14 ?_
      refine xj_goto (tgt := 19) C d_Tt_runOf_15 (by decide) ?_
      exact xj_iret C hr hf d_Tt_runOf_19
set_option maxHeartbeats 4000000 in
set_option maxRecDepth 20000 in
theorem w_Tt_aboard_bs_52 {p : Program} {l : Launch} {e : Env} {s : State} {m : MethodId} {args : Array Value} {below : List Frame} {meth : Method} {c : Code} {sz : Nat} {D : va_G} {ad : Nat → Nat} {cI : ClassId} {out : Int32 × St} (N : (LC ad).Nodup) (C : xC p s m args meth c (xA (LC ad) sz) D 6 (tyC cI) b_Tt_aboard R_Tt) (hr : meth.sig.returnType = (some .int)) {K6 : Int32 → Int32 → Int32 → Int32 → Int32 → St → Option (Int32 × St)} (hK6 : ∀ (x1 x2 x3 x4 x5 : Int32) (st : St), K6 x1 x2 x3 x4 x5 st = some out → j_i p l e rm_Tt_aboard_bs s m args below meth c sz D (WC ad cI) (LC ad) out 6 (WC ad cI st) [(0, .ref (ad 6)), (1, .int x1), (2, .int x2), (3, .int x3), (4, .int x4), (5, .int x5)] 6 []) (x1 x2 x3 x4 x5 : Int32) (st : St) (hf : f_Tt_aboard_bs_52 K6 x1 x2 x3 x4 x5 st = some out) : j_i p l e rm_Tt_aboard_bs s m args below meth c sz D (WC ad cI) (LC ad) out 6 (WC ad cI st) [(0, .ref (ad 6)), (1, .int x1), (2, .int x2), (3, .int x3), (4, .int x4), (5, .int x5)] 52 [] := by
  unfold f_Tt_aboard_bs_52 at hf
  refine xj_iinc (v := x5 + 1) (j := 5) C d_Tt_aboard_52 rfl rfl (by decide) rfl ?_
  refine xj_goto (tgt := 6) C d_Tt_aboard_55 (by decide) ?_
  exact xj_lv [1, 2, 3, 4, 5, 0] rfl (hK6 x1 x2 x3 x4 (x5 + 1) st hf)
set_option maxHeartbeats 4000000 in
set_option maxRecDepth 20000 in
theorem wb_Tt_aboard_bs_6 {p : Program} {l : Launch} {e : Env} {s : State} {m : MethodId} {args : Array Value} {below : List Frame} {meth : Method} {c : Code} {sz : Nat} {D : va_G} {ad : Nat → Nat} {cI : ClassId} {out : Int32 × St} (N : (LC ad).Nodup) (C : xC p s m args meth c (xA (LC ad) sz) D 6 (tyC cI) b_Tt_aboard R_Tt) (hr : meth.sig.returnType = (some .int)) {K6 : Int32 → Int32 → Int32 → Int32 → Int32 → St → Option (Int32 × St)} (hK6 : ∀ (x1 x2 x3 x4 x5 : Int32) (st : St), K6 x1 x2 x3 x4 x5 st = some out → j_i p l e rm_Tt_aboard_bs s m args below meth c sz D (WC ad cI) (LC ad) out 6 (WC ad cI st) [(0, .ref (ad 6)), (1, .int x1), (2, .int x2), (3, .int x3), (4, .int x4), (5, .int x5)] 6 []) (x1 x2 x3 x4 x5 : Int32) (st : St) (hf : b_Tt_aboard_bs_6 K6 x1 x2 x3 x4 x5 st = some out) : j_i p l e rm_Tt_aboard_bs s m args below meth c sz D (WC ad cI) (LC ad) out 6 (WC ad cI st) [(0, .ref (ad 6)), (1, .int x1), (2, .int x2), (3, .int x3), (4, .int x4), (5, .int x5)] 6 [] := by
  unfold b_Tt_aboard_bs_6 at hf
  refine xj_iload C d_Tt_aboard_6 5 rfl ?_
  refine xj_iconst (v := 4) C d_Tt_aboard_8 rfl ?_
  refine xj_icmp_ge (tgt := 58) C d_Tt_aboard_9 (by decide) (fun h9 => ?_) (fun h9 => ?_)
  · have hf := xi_pos h9 hf
    refine xj_iload C d_Tt_aboard_58 4 rfl ?_
    exact xj_iret C hr hf d_Tt_aboard_60
  · have hf := xi_neg h9 hf
    refine xj_iload_n C d_Tt_aboard_12 rfl 3 rfl ?_
    refine xj_iload C d_Tt_aboard_13 5 rfl ?_
    obtain ⟨o1, ho1, hf⟩ := xb_some hf
    refine xj_callSNi (rest := []) C (c_LR_holds N ho1) Y_LR_holds i_Tt_25 (by decide) ⟨rfl, rfl⟩ rfl rfl (Nat.le_of_ble_eq_true rfl) d_Tt_aboard_15 (fun q h => Or.inl h) ?_
    refine xj_if_eq (tgt := 52) C d_Tt_aboard_18 (by decide) (fun h9 => ?_) (fun h9 => ?_)
    · have hf := xi_pos h9 hf
      exact xj_lv [0, 1, 2, 3, 4, 5] rfl (w_Tt_aboard_bs_52 N C hr hK6 x1 x2 x3 x4 x5 o1.2 hf)
    · have hf := xi_neg h9 hf
      refine xj_aload_n C d_Tt_aboard_21 rfl 0 rfl ?_
      refine xj_get C g_Tt_15 6 rfl rfl d_Tt_aboard_22 ?_
      refine xj_iload C d_Tt_aboard_25 5 rfl ?_
      obtain ⟨g2, hf⟩ := xb_guard hf
      refine xj_iald C 26 0 rfl rfl g2 d_Tt_aboard_27 ?_
      refine xj_iload_n C d_Tt_aboard_28 rfl 1 rfl ?_
      refine xj_icmp_ne (tgt := 52) C d_Tt_aboard_29 (by decide) (fun h9 => ?_) (fun h9 => ?_)
      · have hf := xi_neg h9 hf
        exact xj_lv [0, 1, 2, 3, 4, 5] rfl (w_Tt_aboard_bs_52 N C hr hK6 x1 x2 x3 x4 x5 o1.2 hf)
      · have hf := xi_pos h9 hf
        refine xj_aload_n C d_Tt_aboard_32 rfl 0 rfl ?_
        refine xj_get C g_Tt_18 6 rfl rfl d_Tt_aboard_33 ?_
        refine xj_iload C d_Tt_aboard_36 5 rfl ?_
        obtain ⟨g3, hf⟩ := xb_guard hf
        refine xj_iald C 27 0 rfl rfl g3 d_Tt_aboard_38 ?_
        refine xj_iload_n C d_Tt_aboard_39 rfl 2 rfl ?_
        refine xj_icmp_ne (tgt := 52) C d_Tt_aboard_40 (by decide) (fun h9 => ?_) (fun h9 => ?_)
        · have hf := xi_neg h9 hf
          exact xj_lv [0, 1, 2, 3, 4, 5] rfl (w_Tt_aboard_bs_52 N C hr hK6 x1 x2 x3 x4 x5 o1.2 hf)
        · have hf := xi_pos h9 hf
          refine xj_iload C d_Tt_aboard_43 4 rfl ?_
          refine xj_iconst (v := 1) C d_Tt_aboard_45 rfl ?_
          refine xj_iload C d_Tt_aboard_46 5 rfl ?_
          refine xj_ishl C d_Tt_aboard_48 ?_
          refine xj_ior C d_Tt_aboard_49 ?_
          refine xj_topi (fun v4 ev4 => ?_)
          have hf := xlet_at ev4 hf
          refine xj_istore C d_Tt_aboard_50 (by decide) rfl ?_
          exact xj_lv [1, 2, 3, 4, 0, 5] rfl (w_Tt_aboard_bs_52 N C hr hK6 x1 x2 x3 v4 x5 o1.2 hf)
set_option maxHeartbeats 4000000 in
set_option maxRecDepth 20000 in
theorem w_Tt_aboard_bs_6 {p : Program} {l : Launch} {e : Env} {s : State} {m : MethodId} {args : Array Value} {below : List Frame} {meth : Method} {c : Code} {sz : Nat} {D : va_G} {ad : Nat → Nat} {cI : ClassId} {out : Int32 × St} (N : (LC ad).Nodup) (C : xC p s m args meth c (xA (LC ad) sz) D 6 (tyC cI) b_Tt_aboard R_Tt) (hr : meth.sig.returnType = (some .int)) (n : Nat) : ∀ (x1 x2 x3 x4 x5 : Int32) (st : St), f_Tt_aboard_bs_6 n x1 x2 x3 x4 x5 st = some out → j_i p l e rm_Tt_aboard_bs s m args below meth c sz D (WC ad cI) (LC ad) out 6 (WC ad cI st) [(0, .ref (ad 6)), (1, .int x1), (2, .int x2), (3, .int x3), (4, .int x4), (5, .int x5)] 6 [] := by
  induction n with
  | zero => intro x1 x2 x3 x4 x5 st hf; exact absurd (show (none : Option (Int32 × St)) = some out from hf) (fun h => by cases h)
  | succ n ih => intro x1 x2 x3 x4 x5 st hf; exact wb_Tt_aboard_bs_6 N C hr ih x1 x2 x3 x4 x5 st hf
set_option maxHeartbeats 4000000 in
set_option maxRecDepth 20000 in
theorem c_Tt_aboard_bs {l : Launch} {D : va_G} {ad : Nat → Nat} {cI : ClassId} (N : (LC ad).Nodup) {x1 x2 x3 : Int32} {st : St} {out : Int32 × St} (hf : f_Tt_aboard_bs x1 x2 x3 st = some out) : xMi l y_Tt_aboard b_Tt_aboard 6 (some .int) rm_Tt_aboard_bs D (tyC cI) (WC ad cI) (LC ad) [.ref (ad 6), .int x1, .int x2, .int x3] st out := by
  intro sz
  refine xM_of (L := LC ad) (by decide) (Nat.le_of_ble_eq_true rfl) (fun p e s m below meth c hsz hr C => ?_)
  show j_i p l e rm_Tt_aboard_bs s m _ below meth c sz D (WC ad cI) (LC ad) out 6 (WC ad cI st) [(0, .ref (ad 6)), (1, .int x1), (2, .int x2), (3, .int x3)] 0 []
  unfold f_Tt_aboard_bs at hf
  refine xj_iconst (v := 0) C d_Tt_aboard_0 rfl ?_
  refine xj_istore C d_Tt_aboard_1 (by decide) rfl ?_
  refine xj_iconst (v := 0) C d_Tt_aboard_3 rfl ?_
  refine xj_istore C d_Tt_aboard_4 (by decide) rfl ?_
  exact xj_lv [2, 3, 4, 5, 1, 0] rfl (w_Tt_aboard_bs_6 N C hr 40 x1 x2 x3 0 0 st hf)
set_option maxHeartbeats 4000000 in
set_option maxRecDepth 20000 in
theorem c_Be_lay {l : Launch} {D : va_G} {ad : Nat → Nat} {cI : ClassId} (N : (LC ad).Nodup) {x1 x2 : Int32} {st : St} {out : Int32 × St} (hf : f_Be_lay x1 x2 st = some out) : xMi l y_Be_lay b_Be_lay 3 (some .boolean) rm_Be_lay D (tyC cI) (WC ad cI) (LC ad) [.ref (ad 3), .int x1, .int x2] st out := by
  intro sz
  refine xM_of (L := LC ad) (by decide) (Nat.le_of_ble_eq_true rfl) (fun p e s m below meth c hsz hr C => ?_)
  show j_i p l e rm_Be_lay s m _ below meth c sz D (WC ad cI) (LC ad) out 3 (WC ad cI st) [(0, .ref (ad 3)), (1, .int x1), (2, .int x2)] 0 []
  unfold f_Be_lay at hf
  refine xj_aload_n C d_Be_lay_0 rfl 0 rfl ?_
  refine xj_iconst (v := 0) C d_Be_lay_1 rfl ?_
  refine xj_iload_n C d_Be_lay_2 rfl 1 rfl ?_
  refine xj_iload_n C d_Be_lay_3 rfl 2 rfl ?_
  refine xj_iconst (v := 0) C d_Be_lay_4 rfl ?_
  obtain ⟨o1, ho1, hf⟩ := xb_some hf
  refine xj_callVi (rest := []) C (c_Be_layFrom N 5 ho1) Y_Be_layFrom i_Be_33 3 rfl rfl (by decide) ⟨rfl, rfl⟩ rfl rfl (Nat.le_of_ble_eq_true rfl) d_Be_lay_5 (fun q h => Or.inl h) ?_
  obtain ⟨g2, hf⟩ := xb_guard hf
  exact xj_zret C hr (xb_narrow g2) hf d_Be_lay_8
set_option maxHeartbeats 4000000 in
set_option maxRecDepth 20000 in
theorem c_Pl_layRunOf {l : Launch} {D : va_G} {ad : Nat → Nat} {cI : ClassId} (N : (LC ad).Nodup) {x1 : Int32} {st : St} {out : Int32 × St} (hf : f_Pl_layRunOf x1 st = some out) : xMi l y_Pl_layRunOf b_Pl_layRunOf 3 (some .boolean) rm_Pl_layRunOf D (tyC cI) (WC ad cI) (LC ad) [.ref (ad 4), .int x1] st out := by
  intro sz
  refine xM_of (L := LC ad) (by decide) (Nat.le_of_ble_eq_true rfl) (fun p e s m below meth c hsz hr C => ?_)
  show j_i p l e rm_Pl_layRunOf s m _ below meth c sz D (WC ad cI) (LC ad) out 3 (WC ad cI st) [(0, .ref (ad 4)), (1, .int x1)] 0 []
  unfold f_Pl_layRunOf at hf
  refine xj_aload_n C d_Pl_layRunOf_0 rfl 0 rfl ?_
  refine xj_get C g_Pl_18 4 rfl rfl d_Pl_layRunOf_1 ?_
  refine xj_iload_n C d_Pl_layRunOf_4 rfl 1 rfl ?_
  obtain ⟨o1, ho1, hf⟩ := xb_some hf
  refine xj_callVi (rest := []) C (c_Tt_chamberOf_bs N ho1) Y_Tt_chamberOf i_Pl_128 6 rfl rfl (by decide) ⟨rfl, rfl⟩ rfl rfl (Nat.le_of_ble_eq_true rfl) d_Pl_layRunOf_5 (fun q h => Or.inl h) ?_
  refine xj_istore_n C d_Pl_layRunOf_8 rfl (by decide) rfl ?_
  refine xj_aload_n C d_Pl_layRunOf_9 rfl 1 rfl ?_
  refine xj_get C g_Pl_36 4 rfl rfl d_Pl_layRunOf_10 ?_
  refine xj_iload_n C d_Pl_layRunOf_13 rfl 0 rfl ?_
  refine xj_aload_n C d_Pl_layRunOf_14 rfl 1 rfl ?_
  refine xj_get C g_Pl_18 4 rfl rfl d_Pl_layRunOf_15 ?_
  refine xj_iload_n C d_Pl_layRunOf_18 rfl 0 rfl ?_
  refine xj_aload_n C d_Pl_layRunOf_19 rfl 1 rfl ?_
  refine xj_get C g_Pl_18 4 rfl rfl d_Pl_layRunOf_20 ?_
  refine xj_iload_n C d_Pl_layRunOf_23 rfl 2 rfl ?_
  obtain ⟨o2, ho2, hf⟩ := xb_some hf
  refine xj_callVi (rest := [.int o1.1, .ref (ad 6), .int o1.1, .ref (ad 3)]) C (c_Tt_runOf_bs N ho2) Y_Tt_runOf i_Pl_131 6 rfl rfl (by decide) ⟨rfl, rfl⟩ rfl rfl (Nat.le_of_ble_eq_true rfl) d_Pl_layRunOf_24 (fun q h => Or.inl h) ?_
  refine xj_aload_n C d_Pl_layRunOf_27 rfl 1 rfl ?_
  refine xj_get C g_Pl_32 4 rfl rfl d_Pl_layRunOf_28 ?_
  obtain ⟨o3, ho3, hf⟩ := xb_some hf
  refine xj_callVi (rest := [.int o2.1, .int o1.1, .ref (ad 6), .int o1.1, .ref (ad 3)]) C (c_Fl_all N ho3) Y_Fl_all i_Pl_48 2 rfl rfl (by decide) ⟨rfl, rfl⟩ rfl rfl (Nat.le_of_ble_eq_true rfl) d_Pl_layRunOf_31 (fun q h => Or.inl h) ?_
  obtain ⟨o4, ho4, hf⟩ := xb_some hf
  refine xj_callVi (rest := [.int o1.1, .ref (ad 3)]) C (c_Tt_aboard_bs N ho4) Y_Tt_aboard i_Pl_146 6 rfl rfl (by decide) ⟨rfl, rfl⟩ rfl rfl (Nat.le_of_ble_eq_true rfl) d_Pl_layRunOf_34 (fun q h => Or.inl h) ?_
  obtain ⟨o5, ho5, hf⟩ := xb_some hf
  refine xj_callVi (rest := []) C (c_Be_lay N ho5) Y_Be_lay i_Pl_150 3 rfl rfl (by decide) ⟨rfl, rfl⟩ rfl rfl (Nat.le_of_ble_eq_true rfl) d_Pl_layRunOf_37 (fun q h => Or.inl h) ?_
  obtain ⟨g6, hf⟩ := xb_guard hf
  exact xj_zret C hr (xb_narrow g6) hf d_Pl_layRunOf_40
set_option maxHeartbeats 4000000 in
set_option maxRecDepth 20000 in
theorem c_Be_x {l : Launch} {D : va_G} {ad : Nat → Nat} {cI : ClassId} (N : (LC ad).Nodup) {x1 : Int32} {st : St} {out : Int32 × St} (hf : f_Be_x x1 st = some out) : xMi l y_Be_x b_Be_x 2 (some .int) rm_Be_x D (tyC cI) (WC ad cI) (LC ad) [.ref (ad 3), .int x1] st out := by
  intro sz
  refine xM_of (L := LC ad) (by decide) (Nat.le_of_ble_eq_true rfl) (fun p e s m below meth c hsz hr C => ?_)
  show j_i p l e rm_Be_x s m _ below meth c sz D (WC ad cI) (LC ad) out 2 (WC ad cI st) [(0, .ref (ad 3)), (1, .int x1)] 0 []
  unfold f_Be_x at hf
  refine xj_iload_n C d_Be_x_0 rfl 1 rfl ?_
  refine xj_if_lt (tgt := 18) C d_Be_x_1 (by decide) (fun h9 => ?_) (fun h9 => ?_)
  · have hf := xi_pos h9 hf
    refine xj_iconst (v := (-1)) C d_Be_x_18 rfl ?_
    exact xj_iret C hr hf d_Be_x_19
  · have hf := xi_neg h9 hf
    refine xj_iload_n C d_Be_x_4 rfl 1 rfl ?_
    refine xj_iconst (v := 4) C d_Be_x_5 rfl ?_
    refine xj_icmp_ge (tgt := 18) C d_Be_x_6 (by decide) (fun h9 => ?_) (fun h9 => ?_)
    · have hf := xi_pos h9 hf
      refine xj_iconst (v := (-1)) C d_Be_x_18 rfl ?_
      exact xj_iret C hr hf d_Be_x_19
    · have hf := xi_neg h9 hf
      refine xj_aload_n C d_Be_x_9 rfl 0 rfl ?_
      refine xj_get C g_Be_9 3 rfl rfl d_Be_x_10 ?_
      refine xj_iload_n C d_Be_x_13 rfl 1 rfl ?_
      obtain ⟨g1, hf⟩ := xb_guard hf
      refine xj_iald C 19 0 rfl rfl g1 d_Be_x_14 ?_
      refine xj_goto (tgt := 19) C d_Be_x_15 (by decide) ?_
      exact xj_iret C hr hf d_Be_x_19
set_option maxHeartbeats 4000000 in
set_option maxRecDepth 20000 in
theorem c_Be_y {l : Launch} {D : va_G} {ad : Nat → Nat} {cI : ClassId} (N : (LC ad).Nodup) {x1 : Int32} {st : St} {out : Int32 × St} (hf : f_Be_y x1 st = some out) : xMi l y_Be_y b_Be_y 2 (some .int) rm_Be_y D (tyC cI) (WC ad cI) (LC ad) [.ref (ad 3), .int x1] st out := by
  intro sz
  refine xM_of (L := LC ad) (by decide) (Nat.le_of_ble_eq_true rfl) (fun p e s m below meth c hsz hr C => ?_)
  show j_i p l e rm_Be_y s m _ below meth c sz D (WC ad cI) (LC ad) out 2 (WC ad cI st) [(0, .ref (ad 3)), (1, .int x1)] 0 []
  unfold f_Be_y at hf
  refine xj_iload_n C d_Be_y_0 rfl 1 rfl ?_
  refine xj_if_lt (tgt := 18) C d_Be_y_1 (by decide) (fun h9 => ?_) (fun h9 => ?_)
  · have hf := xi_pos h9 hf
    refine xj_iconst (v := (-1)) C d_Be_y_18 rfl ?_
    exact xj_iret C hr hf d_Be_y_19
  · have hf := xi_neg h9 hf
    refine xj_iload_n C d_Be_y_4 rfl 1 rfl ?_
    refine xj_iconst (v := 4) C d_Be_y_5 rfl ?_
    refine xj_icmp_ge (tgt := 18) C d_Be_y_6 (by decide) (fun h9 => ?_) (fun h9 => ?_)
    · have hf := xi_pos h9 hf
      refine xj_iconst (v := (-1)) C d_Be_y_18 rfl ?_
      exact xj_iret C hr hf d_Be_y_19
    · have hf := xi_neg h9 hf
      refine xj_aload_n C d_Be_y_9 rfl 0 rfl ?_
      refine xj_get C g_Be_15 3 rfl rfl d_Be_y_10 ?_
      refine xj_iload_n C d_Be_y_13 rfl 1 rfl ?_
      obtain ⟨g1, hf⟩ := xb_guard hf
      refine xj_iald C 20 0 rfl rfl g1 d_Be_y_14 ?_
      refine xj_goto (tgt := 19) C d_Be_y_15 (by decide) ?_
      exact xj_iret C hr hf d_Be_y_19
