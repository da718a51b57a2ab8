set_option maxHeartbeats 4000000 in
set_option maxRecDepth 20000 in
theorem c_Fl_arrival {l : Launch} {D : va_G} {ad : Nat → Nat} {cI : ClassId} (N : (LC ad).Nodup) {x1 : Int32} {st : St} {out : Int32 × St} (hf : f_Fl_arrival x1 st = some out) : xMi l y_Fl_arrival b_Fl_arrival 2 (some .int) rm_Fl_arrival D (tyC cI) (WC ad cI) (LC ad) [.ref (ad 2), .int x1] st out := by
  intro sz
  refine xM_of (L := LC ad) (by decide) (Nat.le_of_ble_eq_true rfl) (fun p e s m below meth c hsz hr C => ?_)
  show j_i p l e rm_Fl_arrival s m _ below meth c sz D (WC ad cI) (LC ad) out 2 (WC ad cI st) [(0, .ref (ad 2)), (1, .int x1)] 0 []
  unfold f_Fl_arrival at hf
  refine xj_aload_n C d_Fl_arrival_0 rfl 0 rfl ?_
  refine xj_iload_n C d_Fl_arrival_1 rfl 1 rfl ?_
  obtain ⟨o1, ho1, hf⟩ := xb_some hf
  refine xj_callVi (rest := []) C (c_Fl_has N ho1) Y_Fl_has i_Fl_31 2 rfl rfl (by decide) ⟨rfl, rfl⟩ rfl rfl (Nat.le_of_ble_eq_true rfl) d_Fl_arrival_2 (fun q h => Or.inl h) ?_
  refine xj_if_eq (tgt := 17) C d_Fl_arrival_5 (by decide) (fun h9 => ?_) (fun h9 => ?_)
  · have hf := xi_pos h9 hf
    refine xj_iconst (v := 0) C d_Fl_arrival_17 rfl ?_
    exact xj_iret C hr hf d_Fl_arrival_18
  · have hf := xi_neg h9 hf
    refine xj_aload_n C d_Fl_arrival_8 rfl 0 rfl ?_
    refine xj_get C g_Fl_18 2 rfl rfl d_Fl_arrival_9 ?_
    refine xj_iload_n C d_Fl_arrival_12 rfl 1 rfl ?_
    obtain ⟨g2, hf⟩ := xb_guard hf
    refine xj_iald C 16 0 rfl rfl g2 d_Fl_arrival_13 ?_
    refine xj_goto (tgt := 18) C d_Fl_arrival_14 (by decide) ?_
    exact xj_iret C hr hf d_Fl_arrival_18
set_option maxHeartbeats 4000000 in
set_option maxRecDepth 20000 in
theorem w_Pl_overtaken_bs_47 {p : Program} {l : Launch} {e : Env} {s : State} {m : MethodId} {args : Array Value} {below : List Frame} {meth : Method} {c : Code} {sz : Nat} {D : va_G} {ad : Nat → Nat} {cI : ClassId} {out : Int32 × St} (N : (LC ad).Nodup) (C : xC p s m args meth c (xA (LC ad) sz) D 5 (tyC cI) b_Pl_overtaken R_Pl) (hr : meth.sig.returnType = (some .int)) {K5 : Int32 → Int32 → Int32 → St → Option (Int32 × St)} (hK5 : ∀ (x2 x3 x4 : Int32) (st : St), K5 x2 x3 x4 st = some out → j_i p l e rm_Pl_overtaken_bs s m args below meth c sz D (WC ad cI) (LC ad) out 5 (WC ad cI st) [(0, .ref (ad 4)), (1, .ref (ad 6)), (2, .int x2), (3, .int x3), (4, .int x4)] 5 []) (x2 x3 x4 : Int32) (st : St) (hf : f_Pl_overtaken_bs_47 K5 x2 x3 x4 st = some out) : j_i p l e rm_Pl_overtaken_bs s m args below meth c sz D (WC ad cI) (LC ad) out 5 (WC ad cI st) [(0, .ref (ad 4)), (1, .ref (ad 6)), (2, .int x2), (3, .int x3), (4, .int x4)] 47 [] := by
  unfold f_Pl_overtaken_bs_47 at hf
  refine xj_iinc (v := x4 + 1) (j := 4) C d_Pl_overtaken_47 rfl rfl (by decide) rfl ?_
  refine xj_goto (tgt := 5) C d_Pl_overtaken_50 (by decide) ?_
  exact xj_lv [1, 2, 3, 4, 0] rfl (hK5 x2 x3 (x4 + 1) st hf)
set_option maxHeartbeats 4000000 in
set_option maxRecDepth 20000 in
theorem wb_Pl_overtaken_bs_5 {p : Program} {l : Launch} {e : Env} {s : State} {m : MethodId} {args : Array Value} {below : List Frame} {meth : Method} {c : Code} {sz : Nat} {D : va_G} {ad : Nat → Nat} {cI : ClassId} {out : Int32 × St} (N : (LC ad).Nodup) (C : xC p s m args meth c (xA (LC ad) sz) D 5 (tyC cI) b_Pl_overtaken R_Pl) (hr : meth.sig.returnType = (some .int)) {K5 : Int32 → Int32 → Int32 → St → Option (Int32 × St)} (hK5 : ∀ (x2 x3 x4 : Int32) (st : St), K5 x2 x3 x4 st = some out → j_i p l e rm_Pl_overtaken_bs s m args below meth c sz D (WC ad cI) (LC ad) out 5 (WC ad cI st) [(0, .ref (ad 4)), (1, .ref (ad 6)), (2, .int x2), (3, .int x3), (4, .int x4)] 5 []) (x2 x3 x4 : Int32) (st : St) (hf : b_Pl_overtaken_bs_5 K5 x2 x3 x4 st = some out) : j_i p l e rm_Pl_overtaken_bs s m args below meth c sz D (WC ad cI) (LC ad) out 5 (WC ad cI st) [(0, .ref (ad 4)), (1, .ref (ad 6)), (2, .int x2), (3, .int x3), (4, .int x4)] 5 [] := by
  unfold b_Pl_overtaken_bs_5 at hf
  refine xj_iload C d_Pl_overtaken_5 4 rfl ?_
  refine xj_aload_n C d_Pl_overtaken_7 rfl 0 rfl ?_
  refine xj_get C g_Pl_32 4 rfl rfl d_Pl_overtaken_8 ?_
  obtain ⟨o1, ho1, hf⟩ := xb_some hf
  refine xj_callVi (rest := [.int x4]) C (c_Fl_size N ho1) Y_Fl_size i_Pl_109 2 rfl rfl (by decide) ⟨rfl, rfl⟩ rfl rfl (Nat.le_of_ble_eq_true rfl) d_Pl_overtaken_11 (fun q h => Or.inl h) ?_
  refine xj_icmp_ge (tgt := 53) C d_Pl_overtaken_14 (by decide) (fun h9 => ?_) (fun h9 => ?_)
  · have hf := xi_pos h9 hf
    refine xj_iload_n C d_Pl_overtaken_53 rfl 3 rfl ?_
    exact xj_iret C hr hf d_Pl_overtaken_54
  · have hf := xi_neg h9 hf
    refine xj_aload_n C d_Pl_overtaken_17 rfl 0 rfl ?_
    refine xj_get C g_Pl_32 4 rfl rfl d_Pl_overtaken_18 ?_
    refine xj_iload C d_Pl_overtaken_21 4 rfl ?_
    refine xj_iload_n C d_Pl_overtaken_23 rfl 2 rfl ?_
    obtain ⟨o2, ho2, hf⟩ := xb_some hf
    refine xj_callVi (rest := []) C (c_Fl_comesBehind N ho2) Y_Fl_comesBehind i_Pl_122 2 rfl rfl (by decide) ⟨rfl, rfl⟩ rfl rfl (Nat.le_of_ble_eq_true rfl) d_Pl_overtaken_24 (fun q h => Or.inl h) ?_
    refine xj_if_eq (tgt := 47) C d_Pl_overtaken_27 (by decide) (fun h9 => ?_) (fun h9 => ?_)
    · have hf := xi_pos h9 hf
      exact xj_lv [0, 1, 2, 3, 4] rfl (w_Pl_overtaken_bs_47 N C hr hK5 x2 x3 x4 o2.2 hf)
    · have hf := xi_neg h9 hf
      refine xj_aload_n C d_Pl_overtaken_30 rfl 1 rfl ?_
      refine xj_iload C d_Pl_overtaken_31 4 rfl ?_
      obtain ⟨o3, ho3, hf⟩ := xb_some hf
      refine xj_callVi (rest := []) C (c_Tt_begin_bs N ho3) Y_Tt_begin i_Pl_125 6 rfl rfl (by decide) ⟨rfl, rfl⟩ rfl rfl (Nat.le_of_ble_eq_true rfl) d_Pl_overtaken_33 (fun q h => Or.inl h) ?_
      refine xj_aload_n C d_Pl_overtaken_36 rfl 1 rfl ?_
      refine xj_iload_n C d_Pl_overtaken_37 rfl 2 rfl ?_
      obtain ⟨o4, ho4, hf⟩ := xb_some hf
      refine xj_callVi (rest := [.int o3.1]) C (c_Tt_begin_bs N ho4) Y_Tt_begin i_Pl_125 6 rfl rfl (by decide) ⟨rfl, rfl⟩ rfl rfl (Nat.le_of_ble_eq_true rfl) d_Pl_overtaken_38 (fun q h => Or.inl h) ?_
      refine xj_icmp_ge (tgt := 47) C d_Pl_overtaken_41 (by decide) (fun h9 => ?_) (fun h9 => ?_)
      · have hf := xi_pos h9 hf
        exact xj_lv [0, 1, 2, 3, 4] rfl (w_Pl_overtaken_bs_47 N C hr hK5 x2 x3 x4 o4.2 hf)
      · have hf := xi_neg h9 hf
        refine xj_iinc (v := x3 + 1) (j := 3) C d_Pl_overtaken_44 rfl rfl (by decide) rfl ?_
        exact xj_lv [1, 2, 3, 0, 4] rfl (w_Pl_overtaken_bs_47 N C hr hK5 x2 (x3 + 1) x4 o4.2 hf)
set_option maxHeartbeats 4000000 in
set_option maxRecDepth 20000 in
theorem w_Pl_overtaken_bs_5 {p : Program} {l : Launch} {e : Env} {s : State} {m : MethodId} {args : Array Value} {below : List Frame} {meth : Method} {c : Code} {sz : Nat} {D : va_G} {ad : Nat → Nat} {cI : ClassId} {out : Int32 × St} (N : (LC ad).Nodup) (C : xC p s m args meth c (xA (LC ad) sz) D 5 (tyC cI) b_Pl_overtaken R_Pl) (hr : meth.sig.returnType = (some .int)) (n : Nat) : ∀ (x2 x3 x4 : Int32) (st : St), f_Pl_overtaken_bs_5 n x2 x3 x4 st = some out → j_i p l e rm_Pl_overtaken_bs s m args below meth c sz D (WC ad cI) (LC ad) out 5 (WC ad cI st) [(0, .ref (ad 4)), (1, .ref (ad 6)), (2, .int x2), (3, .int x3), (4, .int x4)] 5 [] := by
  induction n with
  | zero => intro x2 x3 x4 st hf; exact absurd (show (none : Option (Int32 × St)) = some out from hf) (fun h => by cases h)
  | succ n ih => intro x2 x3 x4 st hf; exact wb_Pl_overtaken_bs_5 N C hr ih x2 x3 x4 st hf
set_option maxHeartbeats 4000000 in
set_option maxRecDepth 20000 in
theorem c_Pl_overtaken_bs {l : Launch} {D : va_G} {ad : Nat → Nat} {cI : ClassId} (N : (LC ad).Nodup) {x2 : Int32} {st : St} {out : Int32 × St} (hf : f_Pl_overtaken_bs x2 st = some out) : xMi l y_Pl_overtaken b_Pl_overtaken 5 (some .int) rm_Pl_overtaken_bs D (tyC cI) (WC ad cI) (LC ad) [.ref (ad 4), .ref (ad 6), .int x2] st out := by
  intro sz
  refine xM_of (L := LC ad) (by decide) (Nat.le_of_ble_eq_true rfl) (fun p e s m below meth c hsz hr C => ?_)
  show j_i p l e rm_Pl_overtaken_bs s m _ below meth c sz D (WC ad cI) (LC ad) out 5 (WC ad cI st) [(0, .ref (ad 4)), (1, .ref (ad 6)), (2, .int x2)] 0 []
  unfold f_Pl_overtaken_bs at hf
  refine xj_iconst (v := 0) C d_Pl_overtaken_0 rfl ?_
  refine xj_istore_n C d_Pl_overtaken_1 rfl (by decide) rfl ?_
  refine xj_iconst (v := 0) C d_Pl_overtaken_2 rfl ?_
  refine xj_istore C d_Pl_overtaken_3 (by decide) rfl ?_
  exact xj_lv [2, 3, 4, 1, 0] rfl (w_Pl_overtaken_bs_5 N C hr 40 x2 0 0 st hf)
set_option maxHeartbeats 4000000 in
set_option maxRecDepth 20000 in
theorem c_Pl_tellShip {l : Launch} {D : va_G} {ad : Nat → Nat} {cI : ClassId} (N : (LC ad).Nodup) {x1 x2 : Int32} {st : St} {out : Int32 × St} (hf : f_Pl_tellShip x1 x2 st = some out) : xMi l y_Pl_tellShip b_Pl_tellShip 3 (some .int) rm_Pl_tellShip D (tyC cI) (WC ad cI) (LC ad) [.ref (ad 4), .int x1, .int x2] st out := by
  intro sz
  refine xM_of (L := LC ad) (by decide) (Nat.le_of_ble_eq_true rfl) (fun p e s m below meth c hsz hr C => ?_)
  show j_i p l e rm_Pl_tellShip s m _ below meth c sz D (WC ad cI) (LC ad) out 3 (WC ad cI st) [(0, .ref (ad 4)), (1, .int x1), (2, .int x2)] 0 []
  unfold f_Pl_tellShip at hf
  refine xj_iload_n C d_Pl_tellShip_0 rfl 2 rfl ?_
  by_cases h09 : x2 = 0
  · have hf := xi_pos h09 hf
    refine xj_tableIn (tgt := 44) C d_Pl_tellShip_1 (by rw [h09]; decide) (by rw [h09]; decide) (by rw [h09]; rfl) (by decide) ?_
    refine xj_aload_n C d_Pl_tellShip_44 rfl 0 rfl ?_
    refine xj_get C g_Pl_18 4 rfl rfl d_Pl_tellShip_45 ?_
    refine xj_iload_n C d_Pl_tellShip_48 rfl 1 rfl ?_
    obtain ⟨o1, ho1, hf⟩ := xb_some hf
    refine xj_callVi (rest := []) C (c_Tt_chamberOf_bs N ho1) Y_Tt_chamberOf i_Pl_128 6 rfl rfl (by decide) ⟨rfl, rfl⟩ rfl rfl (Nat.le_of_ble_eq_true rfl) d_Pl_tellShip_49 (fun q h => Or.inl h) ?_
    exact xj_iret C hr hf d_Pl_tellShip_52
  have hf := xi_neg h09 hf
  by_cases h19 : x2 = 1
  · have hf := xi_pos h19 hf
    refine xj_tableIn (tgt := 53) C d_Pl_tellShip_1 (by rw [h19]; decide) (by rw [h19]; decide) (by rw [h19]; rfl) (by decide) ?_
    refine xj_aload_n C d_Pl_tellShip_53 rfl 0 rfl ?_
    refine xj_get C g_Pl_18 4 rfl rfl d_Pl_tellShip_54 ?_
    refine xj_iload_n C d_Pl_tellShip_57 rfl 1 rfl ?_
    obtain ⟨o2, ho2, hf⟩ := xb_some hf
    refine xj_callVi (rest := []) C (c_Tt_runOf_bs N ho2) Y_Tt_runOf i_Pl_131 6 rfl rfl (by decide) ⟨rfl, rfl⟩ rfl rfl (Nat.le_of_ble_eq_true rfl) d_Pl_tellShip_58 (fun q h => Or.inl h) ?_
    exact xj_iret C hr hf d_Pl_tellShip_61
  have hf := xi_neg h19 hf
  by_cases h29 : x2 = 2
  · have hf := xi_pos h29 hf
    refine xj_tableIn (tgt := 62) C d_Pl_tellShip_1 (by rw [h29]; decide) (by rw [h29]; decide) (by rw [h29]; rfl) (by decide) ?_
    refine xj_aload_n C d_Pl_tellShip_62 rfl 0 rfl ?_
    refine xj_get C g_Pl_18 4 rfl rfl d_Pl_tellShip_63 ?_
    refine xj_iload_n C d_Pl_tellShip_66 rfl 1 rfl ?_
    obtain ⟨o3, ho3, hf⟩ := xb_some hf
    refine xj_callVi (rest := []) C (c_Tt_begin_bs N ho3) Y_Tt_begin i_Pl_125 6 rfl rfl (by decide) ⟨rfl, rfl⟩ rfl rfl (Nat.le_of_ble_eq_true rfl) d_Pl_tellShip_67 (fun q h => Or.inl h) ?_
    exact xj_iret C hr hf d_Pl_tellShip_70
  have hf := xi_neg h29 hf
  by_cases h39 : x2 = 3
  · have hf := xi_pos h39 hf
    refine xj_tableIn (tgt := 71) C d_Pl_tellShip_1 (by rw [h39]; decide) (by rw [h39]; decide) (by rw [h39]; rfl) (by decide) ?_
    refine xj_aload_n C d_Pl_tellShip_71 rfl 0 rfl ?_
    refine xj_iload_n C d_Pl_tellShip_72 rfl 1 rfl ?_
    obtain ⟨o4, ho4, hf⟩ := xb_some hf
    refine xj_callVi (rest := []) C (c_Pl_layRunOf N ho4) Y_Pl_layRunOf i_Pl_134 4 rfl rfl (by decide) ⟨rfl, rfl⟩ rfl rfl (Nat.le_of_ble_eq_true rfl) d_Pl_tellShip_73 (fun q h => Or.inl h) ?_
    refine xj_if_eq (tgt := 90) C d_Pl_tellShip_76 (by decide) (fun h9 => ?_) (fun h9 => ?_)
    · have hf := xi_pos h9 hf
      refine xj_iconst (v := (-1)) C d_Pl_tellShip_90 rfl ?_
      exact xj_iret C hr hf d_Pl_tellShip_91
    · have hf := xi_neg h9 hf
      refine xj_aload_n C d_Pl_tellShip_79 rfl 0 rfl ?_
      refine xj_get C g_Pl_36 4 rfl rfl d_Pl_tellShip_80 ?_
      refine xj_iload_n C d_Pl_tellShip_83 rfl 1 rfl ?_
      obtain ⟨o5, ho5, hf⟩ := xb_some hf
      refine xj_callVi (rest := []) C (c_Be_x N ho5) Y_Be_x i_Pl_137 3 rfl rfl (by decide) ⟨rfl, rfl⟩ rfl rfl (Nat.le_of_ble_eq_true rfl) d_Pl_tellShip_84 (fun q h => Or.inl h) ?_
      refine xj_goto (tgt := 91) C d_Pl_tellShip_87 (by decide) ?_
      exact xj_iret C hr hf d_Pl_tellShip_91
  have hf := xi_neg h39 hf
  by_cases h49 : x2 = 4
  · have hf := xi_pos h49 hf
    refine xj_tableIn (tgt := 92) C d_Pl_tellShip_1 (by rw [h49]; decide) (by rw [h49]; decide) (by rw [h49]; rfl) (by decide) ?_
    refine xj_aload_n C d_Pl_tellShip_92 rfl 0 rfl ?_
    refine xj_iload_n C d_Pl_tellShip_93 rfl 1 rfl ?_
    obtain ⟨o6, ho6, hf⟩ := xb_some hf
    refine xj_callVi (rest := []) C (c_Pl_layRunOf N ho6) Y_Pl_layRunOf i_Pl_134 4 rfl rfl (by decide) ⟨rfl, rfl⟩ rfl rfl (Nat.le_of_ble_eq_true rfl) d_Pl_tellShip_94 (fun q h => Or.inl h) ?_
    refine xj_if_eq (tgt := 111) C d_Pl_tellShip_97 (by decide) (fun h9 => ?_) (fun h9 => ?_)
    · have hf := xi_pos h9 hf
      refine xj_iconst (v := (-1)) C d_Pl_tellShip_111 rfl ?_
      exact xj_iret C hr hf d_Pl_tellShip_112
    · have hf := xi_neg h9 hf
      refine xj_aload_n C d_Pl_tellShip_100 rfl 0 rfl ?_
      refine xj_get C g_Pl_36 4 rfl rfl d_Pl_tellShip_101 ?_
      refine xj_iload_n C d_Pl_tellShip_104 rfl 1 rfl ?_
      obtain ⟨o7, ho7, hf⟩ := xb_some hf
      refine xj_callVi (rest := []) C (c_Be_y N ho7) Y_Be_y i_Pl_140 3 rfl rfl (by decide) ⟨rfl, rfl⟩ rfl rfl (Nat.le_of_ble_eq_true rfl) d_Pl_tellShip_105 (fun q h => Or.inl h) ?_
      refine xj_goto (tgt := 112) C d_Pl_tellShip_108 (by decide) ?_
      exact xj_iret C hr hf d_Pl_tellShip_112
  have hf := xi_neg h49 hf
  by_cases h59 : x2 = 5
  · have hf := xi_pos h59 hf
    refine xj_tableIn (tgt := 113) C d_Pl_tellShip_1 (by rw [h59]; decide) (by rw [h59]; decide) (by rw [h59]; rfl) (by decide) ?_
    refine xj_aload_n C d_Pl_tellShip_113 rfl 0 rfl ?_
    refine xj_get C g_Pl_18 4 rfl rfl d_Pl_tellShip_114 ?_
    refine xj_iload_n C d_Pl_tellShip_117 rfl 1 rfl ?_
    obtain ⟨o8, ho8, hf⟩ := xb_some hf
    refine xj_callVi (rest := []) C (c_Tt_begin_bs N ho8) Y_Tt_begin i_Pl_125 6 rfl rfl (by decide) ⟨rfl, rfl⟩ rfl rfl (Nat.le_of_ble_eq_true rfl) d_Pl_tellShip_118 (fun q h => Or.inl h) ?_
    refine xj_aload_n C d_Pl_tellShip_121 rfl 0 rfl ?_
    refine xj_get C g_Pl_32 4 rfl rfl d_Pl_tellShip_122 ?_
    refine xj_iload_n C d_Pl_tellShip_125 rfl 1 rfl ?_
    obtain ⟨o9, ho9, hf⟩ := xb_some hf
    refine xj_callVi (rest := [.int o8.1]) C (c_Fl_arrival N ho9) Y_Fl_arrival i_Pl_143 2 rfl rfl (by decide) ⟨rfl, rfl⟩ rfl rfl (Nat.le_of_ble_eq_true rfl) d_Pl_tellShip_126 (fun q h => Or.inl h) ?_
    refine xj_isub C d_Pl_tellShip_129 ?_
    exact xj_iret C hr hf d_Pl_tellShip_130
  have hf := xi_neg h59 hf
  by_cases h69 : x2 = 6
  · have hf := xi_pos h69 hf
    refine xj_tableIn (tgt := 131) C d_Pl_tellShip_1 (by rw [h69]; decide) (by rw [h69]; decide) (by rw [h69]; rfl) (by decide) ?_
    refine xj_aload_n C d_Pl_tellShip_131 rfl 0 rfl ?_
    refine xj_aload_n C d_Pl_tellShip_132 rfl 0 rfl ?_
    refine xj_get C g_Pl_18 4 rfl rfl d_Pl_tellShip_133 ?_
    refine xj_iload_n C d_Pl_tellShip_136 rfl 1 rfl ?_
    obtain ⟨o10, ho10, hf⟩ := xb_some hf
    refine xj_callVi (rest := []) C (c_Pl_overtaken_bs N ho10) Y_Pl_overtaken i_Pl_112 4 rfl rfl (by decide) ⟨rfl, rfl⟩ rfl rfl (Nat.le_of_ble_eq_true rfl) d_Pl_tellShip_137 (fun q h => Or.inl h) ?_
    exact xj_iret C hr hf d_Pl_tellShip_140
  have hf := xi_neg h69 hf
  refine xj_tableOut (tgt := 141) C d_Pl_tellShip_1 (xsw_out 7 (by decide) (fun k hk => by rcases xlt_7 hk with rfl | rfl | rfl | rfl | rfl | rfl | rfl <;> assumption)) (by decide) ?_
  refine xj_iconst (v := (-1)) C d_Pl_tellShip_141 rfl ?_
  exact xj_iret C hr hf d_Pl_tellShip_142
set_option maxHeartbeats 4000000 in
set_option maxRecDepth 20000 in
theorem wb_Tt_beginOfAll_bs_2 {p : Program} {l : Launch} {e : Env} {s : State} {m : MethodId} {args : Array Value} {below : List Frame} {meth : Method} {c : Code} {sz : Nat} {D : va_G} {ad : Nat → Nat} {cI : ClassId} {out : Int32 × St} (N : (LC ad).Nodup) (C : xC p s m args meth c (xA (LC ad) sz) D 3 (tyC cI) b_Tt_beginOfAll R_Tt) (hr : meth.sig.returnType = (some .int)) {K2 : Int32 → Int32 → St → Option (Int32 × St)} (hK2 : ∀ (x1 x2 : Int32) (st : St), K2 x1 x2 st = some out → j_i p l e rm_Tt_beginOfAll_bs s m args below meth c sz D (WC ad cI) (LC ad) out 3 (WC ad cI st) [(0, .ref (ad 6)), (1, .int x1), (2, .int x2)] 2 []) (x1 x2 : Int32) (st : St) (hf : b_Tt_beginOfAll_bs_2 K2 x1 x2 st = some out) : j_i p l e rm_Tt_beginOfAll_bs s m args below meth c sz D (WC ad cI) (LC ad) out 3 (WC ad cI st) [(0, .ref (ad 6)), (1, .int x1), (2, .int x2)] 2 [] := by
  unfold b_Tt_beginOfAll_bs_2 at hf
  refine xj_iload_n C d_Tt_beginOfAll_2 rfl 2 rfl ?_
  refine xj_iconst (v := 4) C d_Tt_beginOfAll_3 rfl ?_
  refine xj_icmp_ge (tgt := 28) C d_Tt_beginOfAll_4 (by decide) (fun h9 => ?_) (fun h9 => ?_)
  · have hf := xi_pos h9 hf
    refine xj_iconst (v := (-1)) C d_Tt_beginOfAll_28 rfl ?_
    exact xj_iret C hr hf d_Tt_beginOfAll_29
  · have hf := xi_neg h9 hf
    refine xj_iload_n C d_Tt_beginOfAll_7 rfl 1 rfl ?_
    refine xj_iload_n C d_Tt_beginOfAll_8 rfl 2 rfl ?_
    obtain ⟨o1, ho1, hf⟩ := xb_some hf
    refine xj_callSNi (rest := []) C (c_LR_holds N ho1) Y_LR_holds i_Tt_25 (by decide) ⟨rfl, rfl⟩ rfl rfl (Nat.le_of_ble_eq_true rfl) d_Tt_beginOfAll_9 (fun q h => Or.inl h) ?_
    refine xj_if_eq (tgt := 22) C d_Tt_beginOfAll_12 (by decide) (fun h9 => ?_) (fun h9 => ?_)
    · have hf := xi_pos h9 hf
      refine xj_iinc (v := x2 + 1) (j := 2) C d_Tt_beginOfAll_22 rfl rfl (by decide) rfl ?_
      refine xj_goto (tgt := 2) C d_Tt_beginOfAll_25 (by decide) ?_
      exact xj_lv [1, 2, 0] rfl (hK2 x1 (x2 + 1) o1.2 hf)
    · have hf := xi_neg h9 hf
      refine xj_aload_n C d_Tt_beginOfAll_15 rfl 0 rfl ?_
      refine xj_get C g_Tt_9 6 rfl rfl d_Tt_beginOfAll_16 ?_
      refine xj_iload_n C d_Tt_beginOfAll_19 rfl 2 rfl ?_
      obtain ⟨g2, hf⟩ := xb_guard hf
      refine xj_iald C 25 0 rfl rfl g2 d_Tt_beginOfAll_20 ?_
      exact xj_iret C hr hf d_Tt_beginOfAll_21
set_option maxHeartbeats 4000000 in
set_option maxRecDepth 20000 in
theorem w_Tt_beginOfAll_bs_2 {p : Program} {l : Launch} {e : Env} {s : State} {m : MethodId} {args : Array Value} {below : List Frame} {meth : Method} {c : Code} {sz : Nat} {D : va_G} {ad : Nat → Nat} {cI : ClassId} {out : Int32 × St} (N : (LC ad).Nodup) (C : xC p s m args meth c (xA (LC ad) sz) D 3 (tyC cI) b_Tt_beginOfAll R_Tt) (hr : meth.sig.returnType = (some .int)) (n : Nat) : ∀ (x1 x2 : Int32) (st : St), f_Tt_beginOfAll_bs_2 n x1 x2 st = some out → j_i p l e rm_Tt_beginOfAll_bs s m args below meth c sz D (WC ad cI) (LC ad) out 3 (WC ad cI st) [(0, .ref (ad 6)), (1, .int x1), (2, .int x2)] 2 [] := by
  induction n with
  | zero => intro x1 x2 st hf; exact absurd (show (none : Option (Int32 × St)) = some out from hf) (fun h => by cases h)
  | succ n ih => intro x1 x2 st hf; exact wb_Tt_beginOfAll_bs_2 N C hr ih x1 x2 st hf
set_option maxHeartbeats 4000000 in
set_option maxRecDepth 20000 in
theorem c_Tt_beginOfAll_bs {l : Launch} {D : va_G} {ad : Nat → Nat} {cI : ClassId} (N : (LC ad).Nodup) {x1 : Int32} {st : St} {out : Int32 × St} (hf : f_Tt_beginOfAll_bs x1 st = some out) : xMi l y_Tt_beginOfAll b_Tt_beginOfAll 3 (some .int) rm_Tt_beginOfAll_bs D (tyC cI) (WC ad cI) (LC ad) [.ref (ad 6), .int x1] st out := by
  intro sz
  refine xM_of (L := LC ad) (by decide) (Nat.le_of_ble_eq_true rfl) (fun p e s m below meth c hsz hr C => ?_)
  show j_i p l e rm_Tt_beginOfAll_bs s m _ below meth c sz D (WC ad cI) (LC ad) out 3 (WC ad cI st) [(0, .ref (ad 6)), (1, .int x1)] 0 []
  unfold f_Tt_beginOfAll_bs at hf
  refine xj_iconst (v := 0) C d_Tt_beginOfAll_0 rfl ?_
  refine xj_istore_n C d_Tt_beginOfAll_1 rfl (by decide) rfl ?_
  exact xj_lv [1, 2, 0] rfl (w_Tt_beginOfAll_bs_2 N C hr 40 x1 0 st hf)
set_option maxHeartbeats 4000000 in
set_option maxRecDepth 20000 in
theorem c_Pl_tellRun {l : Launch} {D : va_G} {ad : Nat → Nat} {cI : ClassId} (N : (LC ad).Nodup) {x1 x2 x3 : Int32} {st : St} {out : Int32 × St} (hf : f_Pl_tellRun x1 x2 x3 st = some out) : xMi l y_Pl_tellRun b_Pl_tellRun 5 (some .int) rm_Pl_tellRun D (tyC cI) (WC ad cI) (LC ad) [.ref (ad 4), .int x1, .int x2, .int x3] st out := by
  intro sz
  refine xM_of (L := LC ad) (by decide) (Nat.le_of_ble_eq_true rfl) (fun p e s m below meth c hsz hr C => ?_)
  show j_i p l e rm_Pl_tellRun s m _ below meth c sz D (WC ad cI) (LC ad) out 5 (WC ad cI st) [(0, .ref (ad 4)), (1, .int x1), (2, .int x2), (3, .int x3)] 0 []
  unfold f_Pl_tellRun at hf
  refine xj_aload_n C d_Pl_tellRun_0 rfl 0 rfl ?_
  refine xj_get C g_Pl_18 4 rfl rfl d_Pl_tellRun_1 ?_
  refine xj_iload_n C d_Pl_tellRun_4 rfl 1 rfl ?_
  refine xj_iload_n C d_Pl_tellRun_5 rfl 2 rfl ?_
  refine xj_aload_n C d_Pl_tellRun_6 rfl 0 rfl ?_
  refine xj_get C g_Pl_32 4 rfl rfl d_Pl_tellRun_7 ?_
  obtain ⟨o1, ho1, hf⟩ := xb_some hf
  refine xj_callVi (rest := [.int x2, .int x1, .ref (ad 6)]) C (c_Fl_all N ho1) Y_Fl_all i_Pl_48 2 rfl rfl (by decide) ⟨rfl, rfl⟩ rfl rfl (Nat.le_of_ble_eq_true rfl) d_Pl_tellRun_10 (fun q h => Or.inl h) ?_
  obtain ⟨o2, ho2, hf⟩ := xb_some hf
  refine xj_callVi (rest := []) C (c_Tt_aboard_bs N ho2) Y_Tt_aboard i_Pl_146 6 rfl rfl (by decide) ⟨rfl, rfl⟩ rfl rfl (Nat.le_of_ble_eq_true rfl) d_Pl_tellRun_13 (fun q h => Or.inl h) ?_
  refine xj_istore C d_Pl_tellRun_16 (by decide) rfl ?_
  refine xj_iload C d_Pl_tellRun_18 0 rfl ?_
  refine xj_if_ne (tgt := 25) C d_Pl_tellRun_20 (by decide) (fun h9 => ?_) (fun h9 => ?_)
  · have hf := xi_neg h9 hf
    refine xj_iload_n C d_Pl_tellRun_25 rfl 4 rfl ?_
    by_cases h09 : x3 = 0
    · have hf := xi_pos h09 hf
      refine xj_tableIn (tgt := 52) C d_Pl_tellRun_26 (by rw [h09]; decide) (by rw [h09]; decide) (by rw [h09]; rfl) (by decide) ?_
      refine xj_aload_n C d_Pl_tellRun_52 rfl 1 rfl ?_
      refine xj_get C g_Pl_18 4 rfl rfl d_Pl_tellRun_53 ?_
      refine xj_iload C d_Pl_tellRun_56 0 rfl ?_
      obtain ⟨o3, ho3, hf⟩ := xb_some hf
      refine xj_callVi (rest := []) C (c_Tt_beginOfAll_bs N ho3) Y_Tt_beginOfAll i_Pl_153 6 rfl rfl (by decide) ⟨rfl, rfl⟩ rfl rfl (Nat.le_of_ble_eq_true rfl) d_Pl_tellRun_58 (fun q h => Or.inl h) ?_
      exact xj_iret C hr hf d_Pl_tellRun_61
    have hf := xi_neg h09 hf
    by_cases h19 : x3 = 1
    · have hf := xi_pos h19 hf
      refine xj_tableIn (tgt := 62) C d_Pl_tellRun_26 (by rw [h19]; decide) (by rw [h19]; decide) (by rw [h19]; rfl) (by decide) ?_
      refine xj_aload_n C d_Pl_tellRun_62 rfl 1 rfl ?_
      refine xj_get C g_Pl_32 4 rfl rfl d_Pl_tellRun_63 ?_
      refine xj_iload C d_Pl_tellRun_66 0 rfl ?_
      obtain ⟨o4, ho4, hf⟩ := xb_some hf
      refine xj_callVi (rest := []) C (c_Fl_commonDirection N ho4) Y_Fl_commonDirection i_Pl_83 2 rfl rfl (by decide) ⟨rfl, rfl⟩ rfl rfl (Nat.le_of_ble_eq_true rfl) d_Pl_tellRun_68 (fun q h => Or.inl h) ?_
      exact xj_iret C hr hf d_Pl_tellRun_71
    have hf := xi_neg h19 hf
    by_cases h29 : x3 = 2
    · have hf := xi_pos h29 hf
      refine xj_tableIn (tgt := 72) C d_Pl_tellRun_26 (by rw [h29]; decide) (by rw [h29]; decide) (by rw [h29]; rfl) (by decide) ?_
      refine xj_iload C d_Pl_tellRun_72 0 rfl ?_
      exact xj_iret C hr hf d_Pl_tellRun_74
    have hf := xi_neg h29 hf
    refine xj_tableOut (tgt := 75) C d_Pl_tellRun_26 (xsw_out 3 (by decide) (fun k hk => by rcases xlt_3 hk with rfl | rfl | rfl <;> assumption)) (by decide) ?_
    refine xj_iconst (v := (-1)) C d_Pl_tellRun_75 rfl ?_
    exact xj_iret C hr hf d_Pl_tellRun_76
  · have hf := xi_pos h9 hf
    refine xj_iconst (v := (-1)) C d_Pl_tellRun_23 rfl ?_
    exact xj_iret C hr hf d_Pl_tellRun_24
set_option maxHeartbeats 4000000 in
set_option maxRecDepth 20000 in
theorem w_Pl_runs_42 {p : Program} {l : Launch} {e : Env} {s : State} {m : MethodId} {args : Array Value} {below : List Frame} {meth : Method} {c : Code} {sz : Nat} {D : va_G} {ad : Nat → Nat} {cI : ClassId} {out : Int32 × St} (N : (LC ad).Nodup) (C : xC p s m args meth c (xA (LC ad) sz) D 4 (tyC cI) b_Pl_runs R_Pl) (hr : meth.sig.returnType = (some .int)) {K4 : Int32 → Int32 → Int32 → St → Option (Int32 × St)} (hK4 : ∀ (x1 x2 x3 : Int32) (st : St), K4 x1 x2 x3 st = some out → j_i p l e rm_Pl_runs s m args below meth c sz D (WC ad cI) (LC ad) out 4 (WC ad cI st) [(0, .ref (ad 4)), (1, .int x1), (2, .int x2), (3, .int x3)] 4 []) (x1 x2 x3 : Int32) (st : St) (hf : f_Pl_runs_42 K4 x1 x2 x3 st = some out) : j_i p l e rm_Pl_runs s m args below meth c sz D (WC ad cI) (LC ad) out 4 (WC ad cI st) [(0, .ref (ad 4)), (1, .int x1), (2, .int x2), (3, .int x3)] 42 [] := by
  unfold f_Pl_runs_42 at hf
  refine xj_iinc (v := x3 + 1) (j := 3) C d_Pl_runs_42 rfl rfl (by decide) rfl ?_
  refine xj_goto (tgt := 4) C d_Pl_runs_45 (by decide) ?_
  exact xj_lv [1, 2, 3, 0] rfl (hK4 x1 x2 (x3 + 1) st hf)
set_option maxHeartbeats 4000000 in
set_option maxRecDepth 20000 in
theorem wb_Pl_runs_4 {p : Program} {l : Launch} {e : Env} {s : State} {m : MethodId} {args : Array Value} {below : List Frame} {meth : Method} {c : Code} {sz : Nat} {D : va_G} {ad : Nat → Nat} {cI : ClassId} {out : Int32 × St} (N : (LC ad).Nodup) (C : xC p s m args meth c (xA (LC ad) sz) D 4 (tyC cI) b_Pl_runs R_Pl) (hr : meth.sig.returnType = (some .int)) {K4 : Int32 → Int32 → Int32 → St → Option (Int32 × St)} (hK4 : ∀ (x1 x2 x3 : Int32) (st : St), K4 x1 x2 x3 st = some out → j_i p l e rm_Pl_runs s m args below meth c sz D (WC ad cI) (LC ad) out 4 (WC ad cI st) [(0, .ref (ad 4)), (1, .int x1), (2, .int x2), (3, .int x3)] 4 []) (x1 x2 x3 : Int32) (st : St) (hf : b_Pl_runs_4 K4 x1 x2 x3 st = some out) : j_i p l e rm_Pl_runs s m args below meth c sz D (WC ad cI) (LC ad) out 4 (WC ad cI st) [(0, .ref (ad 4)), (1, .int x1), (2, .int x2), (3, .int x3)] 4 [] := by
  unfold b_Pl_runs_4 at hf
  refine xj_iload_n C d_Pl_runs_4 rfl 3 rfl ?_
  refine xj_aload_n C d_Pl_runs_5 rfl 0 rfl ?_
  refine xj_get C g_Pl_32 4 rfl rfl d_Pl_runs_6 ?_
  obtain ⟨o1, ho1, hf⟩ := xb_some hf
  refine xj_callVi (rest := [.int x3]) C (c_Fl_size N ho1) Y_Fl_size i_Pl_109 2 rfl rfl (by decide) ⟨rfl, rfl⟩ rfl rfl (Nat.le_of_ble_eq_true rfl) d_Pl_runs_9 (fun q h => Or.inl h) ?_
  refine xj_icmp_ge (tgt := 48) C d_Pl_runs_12 (by decide) (fun h9 => ?_) (fun h9 => ?_)
  · have hf := xi_pos h9 hf
    refine xj_iload_n C d_Pl_runs_48 rfl 2 rfl ?_
    exact xj_iret C hr hf d_Pl_runs_49
  · have hf := xi_neg h9 hf
    refine xj_aload_n C d_Pl_runs_15 rfl 0 rfl ?_
    refine xj_get C g_Pl_18 4 rfl rfl d_Pl_runs_16 ?_
    refine xj_iload_n C d_Pl_runs_19 rfl 3 rfl ?_
    obtain ⟨o2, ho2, hf⟩ := xb_some hf
    refine xj_callVi (rest := []) C (c_Tt_chamberOf_bs N ho2) Y_Tt_chamberOf i_Pl_128 6 rfl rfl (by decide) ⟨rfl, rfl⟩ rfl rfl (Nat.le_of_ble_eq_true rfl) d_Pl_runs_20 (fun q h => Or.inl h) ?_
    refine xj_iload_n C d_Pl_runs_23 rfl 1 rfl ?_
    refine xj_icmp_ne (tgt := 42) C d_Pl_runs_24 (by decide) (fun h9 => ?_) (fun h9 => ?_)
    · have hf := xi_neg h9 hf
      exact xj_lv [0, 1, 2, 3] rfl (w_Pl_runs_42 N C hr hK4 x1 x2 x3 o2.2 hf)
    · have hf := xi_pos h9 hf
      refine xj_iload_n C d_Pl_runs_27 rfl 2 rfl ?_
      refine xj_aload_n C d_Pl_runs_28 rfl 0 rfl ?_
      refine xj_get C g_Pl_18 4 rfl rfl d_Pl_runs_29 ?_
      refine xj_iload_n C d_Pl_runs_32 rfl 3 rfl ?_
      obtain ⟨o3, ho3, hf⟩ := xb_some hf
      refine xj_callVi (rest := [.int x2]) C (c_Tt_runOf_bs N ho3) Y_Tt_runOf i_Pl_131 6 rfl rfl (by decide) ⟨rfl, rfl⟩ rfl rfl (Nat.le_of_ble_eq_true rfl) d_Pl_runs_33 (fun q h => Or.inl h) ?_
      refine xj_iconst (v := 1) C d_Pl_runs_36 rfl ?_
      refine xj_iadd C d_Pl_runs_37 ?_
      refine xj_mmax C mm_Pl_89 (by decide) (Nat.le_of_ble_eq_true rfl) d_Pl_runs_38 ?_
      refine xj_topi (fun v4 ev4 => ?_)
      have hf := xlet_at ev4 hf
      refine xj_istore_n C d_Pl_runs_41 rfl (by decide) rfl ?_
      exact xj_lv [1, 2, 0, 3] rfl (w_Pl_runs_42 N C hr hK4 x1 v4 x3 o3.2 hf)
set_option maxHeartbeats 4000000 in
set_option maxRecDepth 20000 in
theorem w_Pl_runs_4 {p : Program} {l : Launch} {e : Env} {s : State} {m : MethodId} {args : Array Value} {below : List Frame} {meth : Method} {c : Code} {sz : Nat} {D : va_G} {ad : Nat → Nat} {cI : ClassId} {out : Int32 × St} (N : (LC ad).Nodup) (C : xC p s m args meth c (xA (LC ad) sz) D 4 (tyC cI) b_Pl_runs R_Pl) (hr : meth.sig.returnType = (some .int)) (n : Nat) : ∀ (x1 x2 x3 : Int32) (st : St), f_Pl_runs_4 n x1 x2 x3 st = some out → j_i p l e rm_Pl_runs s m args below meth c sz D (WC ad cI) (LC ad) out 4 (WC ad cI st) [(0, .ref (ad 4)), (1, .int x1), (2, .int x2), (3, .int x3)] 4 [] := by
  induction n with
  | zero => intro x1 x2 x3 st hf; exact absurd (show (none : Option (Int32 × St)) = some out from hf) (fun h => by cases h)
  | succ n ih => intro x1 x2 x3 st hf; exact wb_Pl_runs_4 N C hr ih x1 x2 x3 st hf
set_option maxHeartbeats 4000000 in
set_option maxRecDepth 20000 in
theorem c_Pl_runs {l : Launch} {D : va_G} {ad : Nat → Nat} {cI : ClassId} (N : (LC ad).Nodup) {x1 : Int32} {st : St} {out : Int32 × St} (hf : f_Pl_runs x1 st = some out) : xMi l y_Pl_runs b_Pl_runs 4 (some .int) rm_Pl_runs D (tyC cI) (WC ad cI) (LC ad) [.ref (ad 4), .int x1] st out := by
  intro sz
  refine xM_of (L := LC ad) (by decide) (Nat.le_of_ble_eq_true rfl) (fun p e s m below meth c hsz hr C => ?_)
  show j_i p l e rm_Pl_runs s m _ below meth c sz D (WC ad cI) (LC ad) out 4 (WC ad cI st) [(0, .ref (ad 4)), (1, .int x1)] 0 []
  unfold f_Pl_runs at hf
  refine xj_iconst (v := 0) C d_Pl_runs_0 rfl ?_
  refine xj_istore_n C d_Pl_runs_1 rfl (by decide) rfl ?_
  refine xj_iconst (v := 0) C d_Pl_runs_2 rfl ?_
  refine xj_istore_n C d_Pl_runs_3 rfl (by decide) rfl ?_
  exact xj_lv [2, 3, 1, 0] rfl (w_Pl_runs_4 N C hr 40 x1 0 0 st hf)
set_option maxHeartbeats 4000000 in
set_option maxRecDepth 20000 in
theorem w_Tt_differences_bs_pv_33 {p : Program} {l : Launch} {e : Env} {s : State} {m : MethodId} {args : Array Value} {below : List Frame} {meth : Method} {c : Code} {sz : Nat} {D : va_G} {ad : Nat → Nat} {cI : ClassId} {out : Int32 × St} (N : (LC ad).Nodup) (C : xC p s m args meth c (xA (LC ad) sz) D 5 (tyC cI) b_Tt_differences R_Tt) (hr : meth.sig.returnType = (some .int)) {K5 : Int32 → Int32 → Int32 → St → Option (Int32 × St)} (hK5 : ∀ (x2 x3 x4 : Int32) (st : St), K5 x2 x3 x4 st = some out → j_i p l e rm_Tt_differences_bs_pv s m args below meth c sz D (WC ad cI) (LC ad) out 5 (WC ad cI st) [(0, .ref (ad 6)), (1, .ref (ad 7)), (2, .int x2), (3, .int x3), (4, .int x4)] 5 []) (x2 x3 x4 : Int32) (st : St) (hf : f_Tt_differences_bs_pv_33 K5 x2 x3 x4 st = some out) : j_i p l e rm_Tt_differences_bs_pv s m args below meth c sz D (WC ad cI) (LC ad) out 5 (WC ad cI st) [(0, .ref (ad 6)), (1, .ref (ad 7)), (2, .int x2), (3, .int x3), (4, .int x4)] 33 [] := by
  unfold f_Tt_differences_bs_pv_33 at hf
  refine xj_iinc (v := x4 + 1) (j := 4) C d_Tt_differences_33 rfl rfl (by decide) rfl ?_
  refine xj_goto (tgt := 5) C d_Tt_differences_36 (by decide) ?_
  exact xj_lv [1, 2, 3, 4, 0] rfl (hK5 x2 x3 (x4 + 1) st hf)
set_option maxHeartbeats 4000000 in
set_option maxRecDepth 20000 in
theorem c_Tt_begin_pv {l : Launch} {D : va_G} {ad : Nat → Nat} {cI : ClassId} (N : (LC ad).Nodup) {x1 : Int32} {st : St} {out : Int32 × St} (hf : f_Tt_begin_pv x1 st = some out) : xMi l y_Tt_begin b_Tt_begin 2 (some .int) rm_Tt_begin_pv D (tyC cI) (WC ad cI) (LC ad) [.ref (ad 7), .int x1] st out := by
  intro sz
  refine xM_of (L := LC ad) (by decide) (Nat.le_of_ble_eq_true rfl) (fun p e s m below meth c hsz hr C => ?_)
  show j_i p l e rm_Tt_begin_pv s m _ below meth c sz D (WC ad cI) (LC ad) out 2 (WC ad cI st) [(0, .ref (ad 7)), (1, .int x1)] 0 []
  unfold f_Tt_begin_pv at hf
  refine xj_iload_n C d_Tt_begin_0 rfl 1 rfl ?_
  refine xj_if_lt (tgt := 18) C d_Tt_begin_1 (by decide) (fun h9 => ?_) (fun h9 => ?_)
  · have hf := xi_pos h9 hf
    refine xj_iconst (v := (-1)) C d_Tt_begin_18 rfl ?_
    exact xj_iret C hr hf d_Tt_begin_19
  · have hf := xi_neg h9 hf
    refine xj_iload_n C d_Tt_begin_4 rfl 1 rfl ?_
    refine xj_iconst (v := 4) C d_Tt_begin_5 rfl ?_
    refine xj_icmp_ge (tgt := 18) C d_Tt_begin_6 (by decide) (fun h9 => ?_) (fun h9 => ?_)
    · have hf := xi_pos h9 hf
      refine xj_iconst (v := (-1)) C d_Tt_begin_18 rfl ?_
      exact xj_iret C hr hf d_Tt_begin_19
    · have hf := xi_neg h9 hf
      refine xj_aload_n C d_Tt_begin_9 rfl 0 rfl ?_
      refine xj_get C g_Tt_9 7 rfl rfl d_Tt_begin_10 ?_
      refine xj_iload_n C d_Tt_begin_13 rfl 1 rfl ?_
      obtain ⟨g1, hf⟩ := xb_guard hf
      refine xj_iald C 28 0 rfl rfl g1 d_Tt_begin_14 ?_
      refine xj_goto (tgt := 19) C d_Tt_begin_15 (by decide) ?_
      exact xj_iret C hr hf d_Tt_begin_19
set_option maxHeartbeats 4000000 in
set_option maxRecDepth 20000 in
theorem w_Tt_differs_bs_pv_26 {p : Program} {l : Launch} {e : Env} {s : State} {m : MethodId} {args : Array Value} {below : List Frame} {meth : Method} {c : Code} {sz : Nat} {D : va_G} {ad : Nat → Nat} {cI : ClassId} {out : Int32 × St} (N : (LC ad).Nodup) (C : xC p s m args meth c (xA (LC ad) sz) D 3 (tyC cI) b_Tt_differs R_Tt) (hr : meth.sig.returnType = (some .boolean)) (st : St) (hf : f_Tt_differs_bs_pv_26  st = some out) : j_i p l e rm_Tt_differs_bs_pv s m args below meth c sz D (WC ad cI) (LC ad) out 3 (WC ad cI st) [] 26 [] := by
  unfold f_Tt_differs_bs_pv_26 at hf
  refine xj_iconst (v := 1) C d_Tt_differs_26 rfl ?_
  refine xj_goto (tgt := 31) C d_Tt_differs_27 (by decide) ?_
  exact xj_zret C hr rfl hf d_Tt_differs_31
set_option maxHeartbeats 4000000 in
set_option maxRecDepth 20000 in
theorem c_Tt_chamberOf_pv {l : Launch} {D : va_G} {ad : Nat → Nat} {cI : ClassId} (N : (LC ad).Nodup) {x1 : Int32} {st : St} {out : Int32 × St} (hf : f_Tt_chamberOf_pv x1 st = some out) : xMi l y_Tt_chamberOf b_Tt_chamberOf 2 (some .int) rm_Tt_chamberOf_pv D (tyC cI) (WC ad cI) (LC ad) [.ref (ad 7), .int x1] st out := by
  intro sz
  refine xM_of (L := LC ad) (by decide) (Nat.le_of_ble_eq_true rfl) (fun p e s m below meth c hsz hr C => ?_)
  show j_i p l e rm_Tt_chamberOf_pv s m _ below meth c sz D (WC ad cI) (LC ad) out 2 (WC ad cI st) [(0, .ref (ad 7)), (1, .int x1)] 0 []
  unfold f_Tt_chamberOf_pv at hf
  refine xj_iload_n C d_Tt_chamberOf_0 rfl 1 rfl ?_
  refine xj_if_lt (tgt := 18) C d_Tt_chamberOf_1 (by decide) (fun h9 => ?_) (fun h9 => ?_)
  · have hf := xi_pos h9 hf
    refine xj_iconst (v := (-1)) C d_Tt_chamberOf_18 rfl ?_
    exact xj_iret C hr hf d_Tt_chamberOf_19
  · have hf := xi_neg h9 hf
    refine xj_iload_n C d_Tt_chamberOf_4 rfl 1 rfl ?_
    refine xj_iconst (v := 4) C d_Tt_chamberOf_5 rfl ?_
    refine xj_icmp_ge (tgt := 18) C d_Tt_chamberOf_6 (by decide) (fun h9 => ?_) (fun h9 => ?_)
    · have hf := xi_pos h9 hf
      refine xj_iconst (v := (-1)) C d_Tt_chamberOf_18 rfl ?_
      exact xj_iret C hr hf d_Tt_chamberOf_19
    · have hf := xi_neg h9 hf
      refine xj_aload_n C d_Tt_chamberOf_9 rfl 0 rfl ?_
      refine xj_get C g_Tt_15 7 rfl rfl d_Tt_chamberOf_10 ?_
      refine xj_iload_n C d_Tt_chamberOf_13 rfl 1 rfl ?_
      obtain ⟨g1, hf⟩ := xb_guard hf
      refine xj_iald C 29 0 rfl rfl g1 d_Tt_chamberOf_14 ?_
      refine xj_goto (tgt := 19) C d_Tt_chamberOf_15 (by decide) ?_
      exact xj_iret C hr hf d_Tt_chamberOf_19
set_option maxHeartbeats 4000000 in
set_option maxRecDepth 20000 in
theorem c_Tt_differs_bs_pv {l : Launch} {D : va_G} {ad : Nat → Nat} {cI : ClassId} (N : (LC ad).Nodup) {x2 : Int32} {st : St} {out : Int32 × St} (hf : f_Tt_differs_bs_pv x2 st = some out) : xMi l y_Tt_differs b_Tt_differs 3 (some .boolean) rm_Tt_differs_bs_pv D (tyC cI) (WC ad cI) (LC ad) [.ref (ad 6), .ref (ad 7), .int x2] st out := by
  intro sz
  refine xM_of (L := LC ad) (by decide) (Nat.le_of_ble_eq_true rfl) (fun p e s m below meth c hsz hr C => ?_)
  show j_i p l e rm_Tt_differs_bs_pv s m _ below meth c sz D (WC ad cI) (LC ad) out 3 (WC ad cI st) [(0, .ref (ad 6)), (1, .ref (ad 7)), (2, .int x2)] 0 []
  unfold f_Tt_differs_bs_pv at hf
  refine xj_aload_n C d_Tt_differs_0 rfl 0 rfl ?_
  refine xj_iload_n C d_Tt_differs_1 rfl 2 rfl ?_
  obtain ⟨o1, ho1, hf⟩ := xb_some hf
  refine xj_callVi (rest := []) C (c_Tt_begin_bs N ho1) Y_Tt_begin i_Tt_33 6 rfl rfl (by decide) ⟨rfl, rfl⟩ rfl rfl (Nat.le_of_ble_eq_true rfl) d_Tt_differs_2 (fun q h => Or.inl h) ?_
  refine xj_aload_n C d_Tt_differs_5 rfl 1 rfl ?_
  refine xj_iload_n C d_Tt_differs_6 rfl 2 rfl ?_
  obtain ⟨o2, ho2, hf⟩ := xb_some hf
  refine xj_callVi (rest := [.int o1.1]) C (c_Tt_begin_pv N ho2) Y_Tt_begin i_Tt_33 7 rfl rfl (by decide) ⟨rfl, rfl⟩ rfl rfl (Nat.le_of_ble_eq_true rfl) d_Tt_differs_7 (fun q h => Or.inl h) ?_
  refine xj_icmp_ne (tgt := 26) C d_Tt_differs_10 (by decide) (fun h9 => ?_) (fun h9 => ?_)
  · have hf := xi_neg h9 hf
    exact xj_lv [] rfl (w_Tt_differs_bs_pv_26 N C hr o2.2 hf)
  · have hf := xi_pos h9 hf
    refine xj_aload_n C d_Tt_differs_13 rfl 0 rfl ?_
    refine xj_iload_n C d_Tt_differs_14 rfl 2 rfl ?_
    obtain ⟨o3, ho3, hf⟩ := xb_some hf
    refine xj_callVi (rest := []) C (c_Tt_chamberOf_bs N ho3) Y_Tt_chamberOf i_Tt_37 6 rfl rfl (by decide) ⟨rfl, rfl⟩ rfl rfl (Nat.le_of_ble_eq_true rfl) d_Tt_differs_15 (fun q h => Or.inl h) ?_
    refine xj_aload_n C d_Tt_differs_18 rfl 1 rfl ?_
    refine xj_iload_n C d_Tt_differs_19 rfl 2 rfl ?_
    obtain ⟨o4, ho4, hf⟩ := xb_some hf
    refine xj_callVi (rest := [.int o3.1]) C (c_Tt_chamberOf_pv N ho4) Y_Tt_chamberOf i_Tt_37 7 rfl rfl (by decide) ⟨rfl, rfl⟩ rfl rfl (Nat.le_of_ble_eq_true rfl) d_Tt_differs_20 (fun q h => Or.inl h) ?_
    refine xj_icmp_eq (tgt := 30) C d_Tt_differs_23 (by decide) (fun h9 => ?_) (fun h9 => ?_)
    · have hf := xi_pos h9 hf
      refine xj_iconst (v := 0) C d_Tt_differs_30 rfl ?_
      exact xj_zret C hr rfl hf d_Tt_differs_31
    · have hf := xi_neg h9 hf
      exact xj_lv [] rfl (w_Tt_differs_bs_pv_26 N C hr o4.2 hf)
set_option maxHeartbeats 4000000 in
set_option maxRecDepth 20000 in
theorem wb_Tt_differences_bs_pv_5 {p : Program} {l : Launch} {e : Env} {s : State} {m : MethodId} {args : Array Value} {below : List Frame} {meth : Method} {c : Code} {sz : Nat} {D : va_G} {ad : Nat → Nat} {cI : ClassId} {out : Int32 × St} (N : (LC ad).Nodup) (C : xC p s m args meth c (xA (LC ad) sz) D 5 (tyC cI) b_Tt_differences R_Tt) (hr : meth.sig.returnType = (some .int)) {K5 : Int32 → Int32 → Int32 → St → Option (Int32 × St)} (hK5 : ∀ (x2 x3 x4 : Int32) (st : St), K5 x2 x3 x4 st = some out → j_i p l e rm_Tt_differences_bs_pv s m args below meth c sz D (WC ad cI) (LC ad) out 5 (WC ad cI st) [(0, .ref (ad 6)), (1, .ref (ad 7)), (2, .int x2), (3, .int x3), (4, .int x4)] 5 []) (x2 x3 x4 : Int32) (st : St) (hf : b_Tt_differences_bs_pv_5 K5 x2 x3 x4 st = some out) : j_i p l e rm_Tt_differences_bs_pv s m args below meth c sz D (WC ad cI) (LC ad) out 5 (WC ad cI st) [(0, .ref (ad 6)), (1, .ref (ad 7)), (2, .int x2), (3, .int x3), (4, .int x4)] 5 [] := by
  unfold b_Tt_differences_bs_pv_5 at hf
  refine xj_iload C d_Tt_differences_5 4 rfl ?_
  refine xj_iconst (v := 4) C d_Tt_differences_7 rfl ?_
  refine xj_icmp_ge (tgt := 39) C d_Tt_differences_8 (by decide) (fun h9 => ?_) (fun h9 => ?_)
  · have hf := xi_pos h9 hf
    refine xj_iload_n C d_Tt_differences_39 rfl 3 rfl ?_
    exact xj_iret C hr hf d_Tt_differences_40
  · have hf := xi_neg h9 hf
    refine xj_iload_n C d_Tt_differences_11 rfl 2 rfl ?_
    refine xj_iload C d_Tt_differences_12 4 rfl ?_
    obtain ⟨o1, ho1, hf⟩ := xb_some hf
    refine xj_callSNi (rest := []) C (c_LR_holds N ho1) Y_LR_holds i_Tt_25 (by decide) ⟨rfl, rfl⟩ rfl rfl (Nat.le_of_ble_eq_true rfl) d_Tt_differences_14 (fun q h => Or.inl h) ?_
    refine xj_if_eq (tgt := 33) C d_Tt_differences_17 (by decide) (fun h9 => ?_) (fun h9 => ?_)
    · have hf := xi_pos h9 hf
      exact xj_lv [0, 1, 2, 3, 4] rfl (w_Tt_differences_bs_pv_33 N C hr hK5 x2 x3 x4 o1.2 hf)
    · have hf := xi_neg h9 hf
      refine xj_aload_n C d_Tt_differences_20 rfl 0 rfl ?_
      refine xj_aload_n C d_Tt_differences_21 rfl 1 rfl ?_
      refine xj_iload C d_Tt_differences_22 4 rfl ?_
      obtain ⟨o2, ho2, hf⟩ := xb_some hf
      refine xj_callVi (rest := []) C (c_Tt_differs_bs_pv N ho2) Y_Tt_differs i_Tt_29 6 rfl rfl (by decide) ⟨rfl, rfl⟩ rfl rfl (Nat.le_of_ble_eq_true rfl) d_Tt_differences_24 (fun q h => Or.inl h) ?_
      refine xj_if_eq (tgt := 33) C d_Tt_differences_27 (by decide) (fun h9 => ?_) (fun h9 => ?_)
      · have hf := xi_pos h9 hf
        exact xj_lv [0, 1, 2, 3, 4] rfl (w_Tt_differences_bs_pv_33 N C hr hK5 x2 x3 x4 o2.2 hf)
      · have hf := xi_neg h9 hf
        refine xj_iinc (v := x3 + 1) (j := 3) C d_Tt_differences_30 rfl rfl (by decide) rfl ?_
        exact xj_lv [1, 2, 3, 0, 4] rfl (w_Tt_differences_bs_pv_33 N C hr hK5 x2 (x3 + 1) x4 o2.2 hf)
set_option maxHeartbeats 4000000 in
set_option maxRecDepth 20000 in
theorem w_Tt_differences_bs_pv_5 {p : Program} {l : Launch} {e : Env} {s : State} {m : MethodId} {args : Array Value} {below : List Frame} {meth : Method} {c : Code} {sz : Nat} {D : va_G} {ad : Nat → Nat} {cI : ClassId} {out : Int32 × St} (N : (LC ad).Nodup) (C : xC p s m args meth c (xA (LC ad) sz) D 5 (tyC cI) b_Tt_differences R_Tt) (hr : meth.sig.returnType = (some .int)) (n : Nat) : ∀ (x2 x3 x4 : Int32) (st : St), f_Tt_differences_bs_pv_5 n x2 x3 x4 st = some out → j_i p l e rm_Tt_differences_bs_pv s m args below meth c sz D (WC ad cI) (LC ad) out 5 (WC ad cI st) [(0, .ref (ad 6)), (1, .ref (ad 7)), (2, .int x2), (3, .int x3), (4, .int x4)] 5 [] := by
  induction n with
  | zero => intro x2 x3 x4 st hf; exact absurd (show (none : Option (Int32 × St)) = some out from hf) (fun h => by cases h)
  | succ n ih => intro x2 x3 x4 st hf; exact wb_Tt_differences_bs_pv_5 N C hr ih x2 x3 x4 st hf
set_option maxHeartbeats 4000000 in
set_option maxRecDepth 20000 in
theorem c_Tt_differences_bs_pv {l : Launch} {D : va_G} {ad : Nat → Nat} {cI : ClassId} (N : (LC ad).Nodup) {x2 : Int32} {st : St} {out : Int32 × St} (hf : f_Tt_differences_bs_pv x2 st = some out) : xMi l y_Tt_differences b_Tt_differences 5 (some .int) rm_Tt_differences_bs_pv D (tyC cI) (WC ad cI) (LC ad) [.ref (ad 6), .ref (ad 7), .int x2] st out := by
  intro sz
  refine xM_of (L := LC ad) (by decide) (Nat.le_of_ble_eq_true rfl) (fun p e s m below meth c hsz hr C => ?_)
  show j_i p l e rm_Tt_differences_bs_pv s m _ below meth c sz D (WC ad cI) (LC ad) out 5 (WC ad cI st) [(0, .ref (ad 6)), (1, .ref (ad 7)), (2, .int x2)] 0 []
  unfold f_Tt_differences_bs_pv at hf
  refine xj_iconst (v := 0) C d_Tt_differences_0 rfl ?_
  refine xj_istore_n C d_Tt_differences_1 rfl (by decide) rfl ?_
  refine xj_iconst (v := 0) C d_Tt_differences_2 rfl ?_
  refine xj_istore C d_Tt_differences_3 (by decide) rfl ?_
  exact xj_lv [2, 3, 4, 1, 0] rfl (w_Tt_differences_bs_pv_5 N C hr 40 x2 0 0 st hf)
set_option maxHeartbeats 4000000 in
set_option maxRecDepth 20000 in
theorem c_Pl_moved {l : Launch} {D : va_G} {ad : Nat → Nat} {cI : ClassId} (N : (LC ad).Nodup) {st : St} {out : Int32 × St} (hf : f_Pl_moved  st = some out) : xMi l y_Pl_moved b_Pl_moved 1 (some .int) rm_Pl_moved D (tyC cI) (WC ad cI) (LC ad) [.ref (ad 4)] st out := by
  intro sz
  refine xM_of (L := LC ad) (by decide) (Nat.le_of_ble_eq_true rfl) (fun p e s m below meth c hsz hr C => ?_)
  show j_i p l e rm_Pl_moved s m _ below meth c sz D (WC ad cI) (LC ad) out 1 (WC ad cI st) [(0, .ref (ad 4))] 0 []
  unfold f_Pl_moved at hf
  refine xj_aload_n C d_Pl_moved_0 rfl 0 rfl ?_
  refine xj_get C g_Pl_18 4 rfl rfl d_Pl_moved_1 ?_
  refine xj_aload_n C d_Pl_moved_4 rfl 0 rfl ?_
  refine xj_get C g_Pl_21 4 rfl rfl d_Pl_moved_5 ?_
  refine xj_aload_n C d_Pl_moved_8 rfl 0 rfl ?_
  refine xj_get C g_Pl_32 4 rfl rfl d_Pl_moved_9 ?_
  obtain ⟨o1, ho1, hf⟩ := xb_some hf
  refine xj_callVi (rest := [.ref (ad 7), .ref (ad 6)]) C (c_Fl_all N ho1) Y_Fl_all i_Pl_48 2 rfl rfl (by decide) ⟨rfl, rfl⟩ rfl rfl (Nat.le_of_ble_eq_true rfl) d_Pl_moved_12 (fun q h => Or.inl h) ?_
  obtain ⟨o2, ho2, hf⟩ := xb_some hf
  refine xj_callVi (rest := []) C (c_Tt_differences_bs_pv N ho2) Y_Tt_differences i_Pl_61 6 rfl rfl (by decide) ⟨rfl, rfl⟩ rfl rfl (Nat.le_of_ble_eq_true rfl) d_Pl_moved_15 (fun q h => Or.inl h) ?_
  exact xj_iret C hr hf d_Pl_moved_18
set_option maxHeartbeats 4000000 in
set_option maxRecDepth 20000 in
theorem wb_Tt_copyFrom_pv_bs_2 {p : Program} {l : Launch} {e : Env} {s : State} {m : MethodId} {args : Array Value} {below : List Frame} {meth : Method} {c : Code} {sz : Nat} {D : va_G} {ad : Nat → Nat} {cI : ClassId} {out : St} (N : (LC ad).Nodup) (C : xC p s m args meth c (xA (LC ad) sz) D 3 (tyC cI) b_Tt_copyFrom R_Tt) (hr : meth.sig.returnType = none) {K2 : Int32 → St → Option (St)} (hK2 : ∀ (x2 : Int32) (st : St), K2 x2 st = some out → j_v p l e rm_Tt_copyFrom_pv_bs s m args below meth c sz D (WC ad cI) (LC ad) out 3 (WC ad cI st) [(0, .ref (ad 7)), (1, .ref (ad 6)), (2, .int x2)] 2 []) (x2 : Int32) (st : St) (hf : b_Tt_copyFrom_pv_bs_2 K2 x2 st = some out) : j_v p l e rm_Tt_copyFrom_pv_bs s m args below meth c sz D (WC ad cI) (LC ad) out 3 (WC ad cI st) [(0, .ref (ad 7)), (1, .ref (ad 6)), (2, .int x2)] 2 [] := by
  unfold b_Tt_copyFrom_pv_bs_2 at hf
  refine xj_iload_n C d_Tt_copyFrom_2 rfl 2 rfl ?_
  refine xj_iconst (v := 4) C d_Tt_copyFrom_3 rfl ?_
  refine xj_icmp_ge (tgt := 49) C d_Tt_copyFrom_4 (by decide) (fun h9 => ?_) (fun h9 => ?_)
  · have hf := xi_pos h9 hf
    refine xj_aload_n C d_Tt_copyFrom_49 rfl 0 rfl ?_
    refine xj_aload_n C d_Tt_copyFrom_50 rfl 1 rfl ?_
    refine xj_get C g_Tt_21 6 rfl rfl d_Tt_copyFrom_51 ?_
    obtain ⟨s1, es1, hf⟩ := xlet_ex hf
    refine xj_put (ws' := WC ad cI s1) C g_Tt_21 gw_Tt_waiting (WC_D N sz _) 7 rfl rfl rfl (Nat.le_of_ble_eq_true rfl) d_Tt_copyFrom_54 (by rw [es1]; rfl) ?_
    exact xj_vret C hr hf d_Tt_copyFrom_57
  · have hf := xi_neg h9 hf
    refine xj_aload_n C d_Tt_copyFrom_7 rfl 0 rfl ?_
    refine xj_get C g_Tt_9 7 rfl rfl d_Tt_copyFrom_8 ?_
    refine xj_iload_n C d_Tt_copyFrom_11 rfl 2 rfl ?_
    refine xj_aload_n C d_Tt_copyFrom_12 rfl 1 rfl ?_
    refine xj_get C g_Tt_9 6 rfl rfl d_Tt_copyFrom_13 ?_
    refine xj_iload_n C d_Tt_copyFrom_16 rfl 2 rfl ?_
    obtain ⟨g2, hf⟩ := xb_guard hf
    refine xj_iald C 25 0 rfl rfl g2 d_Tt_copyFrom_17 ?_
    obtain ⟨g3, hf⟩ := xb_guard hf
    obtain ⟨s4, es4, hf⟩ := xlet_ex hf
    refine xj_iast (ws' := WC ad cI s4) C (WC_D N sz _) 28 0 rfl rfl g3 d_Tt_copyFrom_18 (by rw [es4]; rfl) ?_
    refine xj_aload_n C d_Tt_copyFrom_19 rfl 0 rfl ?_
    refine xj_get C g_Tt_15 7 rfl rfl d_Tt_copyFrom_20 ?_
    refine xj_iload_n C d_Tt_copyFrom_23 rfl 2 rfl ?_
    refine xj_aload_n C d_Tt_copyFrom_24 rfl 1 rfl ?_
    refine xj_get C g_Tt_15 6 rfl rfl d_Tt_copyFrom_25 ?_
    refine xj_iload_n C d_Tt_copyFrom_28 rfl 2 rfl ?_
    obtain ⟨g5, hf⟩ := xb_guard hf
    refine xj_iald C 26 0 rfl rfl g5 d_Tt_copyFrom_29 ?_
    obtain ⟨g6, hf⟩ := xb_guard hf
    obtain ⟨s7, es7, hf⟩ := xlet_ex hf
    refine xj_iast (ws' := WC ad cI s7) C (WC_D N sz _) 29 0 rfl rfl g6 d_Tt_copyFrom_30 (by rw [es7]; rfl) ?_
    refine xj_aload_n C d_Tt_copyFrom_31 rfl 0 rfl ?_
    refine xj_get C g_Tt_18 7 rfl rfl d_Tt_copyFrom_32 ?_
    refine xj_iload_n C d_Tt_copyFrom_35 rfl 2 rfl ?_
    refine xj_aload_n C d_Tt_copyFrom_36 rfl 1 rfl ?_
    refine xj_get C g_Tt_18 6 rfl rfl d_Tt_copyFrom_37 ?_
    refine xj_iload_n C d_Tt_copyFrom_40 rfl 2 rfl ?_
    obtain ⟨g8, hf⟩ := xb_guard hf
    refine xj_iald C 27 0 rfl rfl g8 d_Tt_copyFrom_41 ?_
    obtain ⟨g9, hf⟩ := xb_guard hf
    obtain ⟨s10, es10, hf⟩ := xlet_ex hf
    refine xj_iast (ws' := WC ad cI s10) C (WC_D N sz _) 30 0 rfl rfl g9 d_Tt_copyFrom_42 (by rw [es10]; rfl) ?_
    refine xj_iinc (v := x2 + 1) (j := 2) C d_Tt_copyFrom_43 rfl rfl (by decide) rfl ?_
    refine xj_goto (tgt := 2) C d_Tt_copyFrom_46 (by decide) ?_
    exact xj_lv [1, 2, 0] rfl (hK2 (x2 + 1) s10 hf)
set_option maxHeartbeats 4000000 in
set_option maxRecDepth 20000 in
theorem w_Tt_copyFrom_pv_bs_2 {p : Program} {l : Launch} {e : Env} {s : State} {m : MethodId} {args : Array Value} {below : List Frame} {meth : Method} {c : Code} {sz : Nat} {D : va_G} {ad : Nat → Nat} {cI : ClassId} {out : St} (N : (LC ad).Nodup) (C : xC p s m args meth c (xA (LC ad) sz) D 3 (tyC cI) b_Tt_copyFrom R_Tt) (hr : meth.sig.returnType = none) (n : Nat) : ∀ (x2 : Int32) (st : St), f_Tt_copyFrom_pv_bs_2 n x2 st = some out → j_v p l e rm_Tt_copyFrom_pv_bs s m args below meth c sz D (WC ad cI) (LC ad) out 3 (WC ad cI st) [(0, .ref (ad 7)), (1, .ref (ad 6)), (2, .int x2)] 2 [] := by
  induction n with
  | zero => intro x2 st hf; exact absurd (show (none : Option (St)) = some out from hf) (fun h => by cases h)
  | succ n ih => intro x2 st hf; exact wb_Tt_copyFrom_pv_bs_2 N C hr ih x2 st hf
set_option maxHeartbeats 4000000 in
set_option maxRecDepth 20000 in
theorem c_Tt_copyFrom_pv_bs {l : Launch} {D : va_G} {ad : Nat → Nat} {cI : ClassId} (N : (LC ad).Nodup) {st : St} {out : St} (hf : f_Tt_copyFrom_pv_bs  st = some out) : xMv l y_Tt_copyFrom b_Tt_copyFrom 3 none rm_Tt_copyFrom_pv_bs D (tyC cI) (WC ad cI) (LC ad) [.ref (ad 7), .ref (ad 6)] st out := by
  intro sz
  refine xM_of (L := LC ad) (by decide) (Nat.le_of_ble_eq_true rfl) (fun p e s m below meth c hsz hr C => ?_)
  show j_v p l e rm_Tt_copyFrom_pv_bs s m _ below meth c sz D (WC ad cI) (LC ad) out 3 (WC ad cI st) [(0, .ref (ad 7)), (1, .ref (ad 6))] 0 []
  unfold f_Tt_copyFrom_pv_bs at hf
  refine xj_iconst (v := 0) C d_Tt_copyFrom_0 rfl ?_
  refine xj_istore_n C d_Tt_copyFrom_1 rfl (by decide) rfl ?_
  exact xj_lv [1, 2, 0] rfl (w_Tt_copyFrom_pv_bs_2 N C hr 40 0 st hf)
set_option maxHeartbeats 4000000 in
set_option maxRecDepth 20000 in
theorem c_Pl_keepForComparison {l : Launch} {D : va_G} {ad : Nat → Nat} {cI : ClassId} (N : (LC ad).Nodup) {st : St} {out : St} (hf : f_Pl_keepForComparison  st = some out) : xMv l y_Pl_keepForComparison b_Pl_keepForComparison 1 none rm_Pl_keepForComparison D (tyC cI) (WC ad cI) (LC ad) [.ref (ad 4)] st out := by
  intro sz
  refine xM_of (L := LC ad) (by decide) (Nat.le_of_ble_eq_true rfl) (fun p e s m below meth c hsz hr C => ?_)
  show j_v p l e rm_Pl_keepForComparison s m _ below meth c sz D (WC ad cI) (LC ad) out 1 (WC ad cI st) [(0, .ref (ad 4))] 0 []
  unfold f_Pl_keepForComparison at hf
  refine xj_aload_n C d_Pl_keepForComparison_0 rfl 0 rfl ?_
  refine xj_get C g_Pl_21 4 rfl rfl d_Pl_keepForComparison_1 ?_
  refine xj_aload_n C d_Pl_keepForComparison_4 rfl 0 rfl ?_
  refine xj_get C g_Pl_18 4 rfl rfl d_Pl_keepForComparison_5 ?_
  obtain ⟨o1, ho1, hf⟩ := xb_some hf
  refine xj_callVv (rest := []) C (c_Tt_copyFrom_pv_bs N ho1) Y_Tt_copyFrom i_Pl_57 7 rfl rfl (by decide) ⟨rfl, rfl⟩ rfl rfl (Nat.le_of_ble_eq_true rfl) d_Pl_keepForComparison_8 (fun q h => Or.inl h) ?_
  exact xj_vret C hr hf d_Pl_keepForComparison_11
set_option maxHeartbeats 4000000 in
set_option maxRecDepth 20000 in
theorem c_Pl_hasPlan {l : Launch} {D : va_G} {ad : Nat → Nat} {cI : ClassId} (N : (LC ad).Nodup) {st : St} {out : Int32 × St} (hf : f_Pl_hasPlan  st = some out) : xMi l y_Pl_hasPlan b_Pl_hasPlan 1 (some .boolean) rm_Pl_hasPlan D (tyC cI) (WC ad cI) (LC ad) [.ref (ad 4)] st out := by
  intro sz
  refine xM_of (L := LC ad) (by decide) (Nat.le_of_ble_eq_true rfl) (fun p e s m below meth c hsz hr C => ?_)
  show j_i p l e rm_Pl_hasPlan s m _ below meth c sz D (WC ad cI) (LC ad) out 1 (WC ad cI st) [(0, .ref (ad 4))] 0 []
  unfold f_Pl_hasPlan at hf
  refine xj_aload_n C d_Pl_hasPlan_0 rfl 0 rfl ?_
  refine xj_get C g_Pl_40 4 rfl rfl d_Pl_hasPlan_1 ?_
  obtain ⟨g1, hf⟩ := xb_guard hf
  exact xj_zret C hr (xb_narrow g1) hf d_Pl_hasPlan_4
set_option maxHeartbeats 4000000 in
set_option maxRecDepth 20000 in
theorem c_Pl_forget {l : Launch} {D : va_G} {ad : Nat → Nat} {cI : ClassId} (N : (LC ad).Nodup) {st : St} {out : St} (hf : f_Pl_forget  st = some out) : xMv l y_Pl_forget b_Pl_forget 1 none rm_Pl_forget D (tyC cI) (WC ad cI) (LC ad) [.ref (ad 4)] st out := by
  intro sz
  refine xM_of (L := LC ad) (by decide) (Nat.le_of_ble_eq_true rfl) (fun p e s m below meth c hsz hr C => ?_)
  show j_v p l e rm_Pl_forget s m _ below meth c sz D (WC ad cI) (LC ad) out 1 (WC ad cI st) [(0, .ref (ad 4))] 0 []
  unfold f_Pl_forget at hf
  refine xj_aload_n C d_Pl_forget_0 rfl 0 rfl ?_
  refine xj_iconst (v := 0) C d_Pl_forget_1 rfl ?_
  obtain ⟨s1, es1, hf⟩ := xlet_ex hf
  refine xj_put (ws' := WC ad cI s1) C g_Pl_40 gw_Pl_planned (WC_D N sz _) 4 rfl rfl rfl (Nat.le_of_ble_eq_true rfl) d_Pl_forget_2 (by rw [es1]; rfl) ?_
  exact xj_vret C hr hf d_Pl_forget_5
set_option maxHeartbeats 4000000 in
set_option maxRecDepth 20000 in
theorem c_Pl_waiting {l : Launch} {D : va_G} {ad : Nat → Nat} {cI : ClassId} (N : (LC ad).Nodup) {st : St} {out : Int32 × St} (hf : f_Pl_waiting  st = some out) : xMi l y_Pl_waiting b_Pl_waiting 1 (some .int) rm_Pl_waiting D (tyC cI) (WC ad cI) (LC ad) [.ref (ad 4)] st out := by
  intro sz
  refine xM_of (L := LC ad) (by decide) (Nat.le_of_ble_eq_true rfl) (fun p e s m below meth c hsz hr C => ?_)
  show j_i p l e rm_Pl_waiting s m _ below meth c sz D (WC ad cI) (LC ad) out 1 (WC ad cI st) [(0, .ref (ad 4))] 0 []
  unfold f_Pl_waiting at hf
  refine xj_aload_n C d_Pl_waiting_0 rfl 0 rfl ?_
  refine xj_get C g_Pl_18 4 rfl rfl d_Pl_waiting_1 ?_
  obtain ⟨o1, ho1, hf⟩ := xb_some hf
  refine xj_callVi (rest := []) C (c_Tt_waiting_bs N ho1) Y_Tt_waiting i_Pl_44 6 rfl rfl (by decide) ⟨rfl, rfl⟩ rfl rfl (Nat.le_of_ble_eq_true rfl) d_Pl_waiting_4 (fun q h => Or.inl h) ?_
  exact xj_iret C hr hf d_Pl_waiting_7
set_option maxHeartbeats 4000000 in
set_option maxRecDepth 20000 in
theorem c_Pl_over {l : Launch} {D : va_G} {ad : Nat → Nat} {cI : ClassId} (N : (LC ad).Nodup) {st : St} {out : Int32 × St} (hf : f_Pl_over  st = some out) : xMi l y_Pl_over b_Pl_over 1 (some .int) rm_Pl_over D (tyC cI) (WC ad cI) (LC ad) [.ref (ad 4)] st out := by
  intro sz
  refine xM_of (L := LC ad) (by decide) (Nat.le_of_ble_eq_true rfl) (fun p e s m below meth c hsz hr C => ?_)
  show j_i p l e rm_Pl_over s m _ below meth c sz D (WC ad cI) (LC ad) out 1 (WC ad cI st) [(0, .ref (ad 4))] 0 []
  unfold f_Pl_over at hf
  refine xj_aload_n C d_Pl_over_0 rfl 0 rfl ?_
  refine xj_get C g_Pl_24 4 rfl rfl d_Pl_over_1 ?_
  exact xj_iret C hr hf d_Pl_over_4
set_option maxHeartbeats 4000000 in
set_option maxRecDepth 20000 in
theorem c_Pl_setOver {l : Launch} {D : va_G} {ad : Nat → Nat} {cI : ClassId} (N : (LC ad).Nodup) {x1 : Int32} {st : St} {out : St} (hf : f_Pl_setOver x1 st = some out) : xMv l y_Pl_setOver b_Pl_setOver 2 none rm_Pl_setOver D (tyC cI) (WC ad cI) (LC ad) [.ref (ad 4), .int x1] st out := by
  intro sz
  refine xM_of (L := LC ad) (by decide) (Nat.le_of_ble_eq_true rfl) (fun p e s m below meth c hsz hr C => ?_)
  show j_v p l e rm_Pl_setOver s m _ below meth c sz D (WC ad cI) (LC ad) out 2 (WC ad cI st) [(0, .ref (ad 4)), (1, .int x1)] 0 []
  unfold f_Pl_setOver at hf
  refine xj_aload_n C d_Pl_setOver_0 rfl 0 rfl ?_
  refine xj_iload_n C d_Pl_setOver_1 rfl 1 rfl ?_
  obtain ⟨s1, es1, hf⟩ := xlet_ex hf
  refine xj_put (ws' := WC ad cI s1) C g_Pl_24 gw_Pl_over (WC_D N sz _) 4 rfl rfl rfl (Nat.le_of_ble_eq_true rfl) d_Pl_setOver_2 (by rw [es1]; rfl) ?_
  exact xj_vret C hr hf d_Pl_setOver_5
set_option maxHeartbeats 4000000 in
set_option maxRecDepth 20000 in
theorem c_Be_setGap {l : Launch} {D : va_G} {ad : Nat → Nat} {cI : ClassId} (N : (LC ad).Nodup) {x1 : Int32} {st : St} {out : St} (hf : f_Be_setGap x1 st = some out) : xMv l y_Be_setGap b_Be_setGap 2 none rm_Be_setGap D (tyC cI) (WC ad cI) (LC ad) [.ref (ad 3), .int x1] st out := by
  intro sz
  refine xM_of (L := LC ad) (by decide) (Nat.le_of_ble_eq_true rfl) (fun p e s m below meth c hsz hr C => ?_)
  show j_v p l e rm_Be_setGap s m _ below meth c sz D (WC ad cI) (LC ad) out 2 (WC ad cI st) [(0, .ref (ad 3)), (1, .int x1)] 0 []
  unfold f_Be_setGap at hf
  refine xj_aload_n C d_Be_setGap_0 rfl 0 rfl ?_
  refine xj_iload_n C d_Be_setGap_1 rfl 1 rfl ?_
  obtain ⟨s1, es1, hf⟩ := xlet_ex hf
  refine xj_put (ws' := WC ad cI s1) C g_Be_29 gw_Be_gap (WC_D N sz _) 3 rfl rfl rfl (Nat.le_of_ble_eq_true rfl) d_Be_setGap_2 (by rw [es1]; rfl) ?_
  exact xj_vret C hr hf d_Be_setGap_5
set_option maxHeartbeats 4000000 in
set_option maxRecDepth 20000 in
theorem c_Be_gap {l : Launch} {D : va_G} {ad : Nat → Nat} {cI : ClassId} (N : (LC ad).Nodup) {st : St} {out : Int32 × St} (hf : f_Be_gap  st = some out) : xMi l y_Be_gap b_Be_gap 1 (some .int) rm_Be_gap D (tyC cI) (WC ad cI) (LC ad) [.ref (ad 3)] st out := by
  intro sz
  refine xM_of (L := LC ad) (by decide) (Nat.le_of_ble_eq_true rfl) (fun p e s m below meth c hsz hr C => ?_)
  show j_i p l e rm_Be_gap s m _ below meth c sz D (WC ad cI) (LC ad) out 1 (WC ad cI st) [(0, .ref (ad 3))] 0 []
  unfold f_Be_gap at hf
  refine xj_aload_n C d_Be_gap_0 rfl 0 rfl ?_
  refine xj_get C g_Be_29 3 rfl rfl d_Be_gap_1 ?_
  exact xj_iret C hr hf d_Be_gap_4
set_option maxHeartbeats 4000000 in
set_option maxRecDepth 20000 in
theorem c_Ch_add {l : Launch} {D : va_G} {ad : Nat → Nat} {cI : ClassId} (N : (LC ad).Nodup) {x1 x2 x3 : Int32} {st : St} {out : Int32 × St} (hf : f_Ch_add x1 x2 x3 st = some out) : xMi l y_Ch_add b_Ch_add 5 (some .int) rm_Ch_add D (tyC cI) (WC ad cI) (LC ad) [.ref (ad 1), .int x1, .int x2, .int x3] st out := by
  intro sz
  refine xM_of (L := LC ad) (by decide) (Nat.le_of_ble_eq_true rfl) (fun p e s m below meth c hsz hr C => ?_)
  show j_i p l e rm_Ch_add s m _ below meth c sz D (WC ad cI) (LC ad) out 5 (WC ad cI st) [(0, .ref (ad 1)), (1, .int x1), (2, .int x2), (3, .int x3)] 0 []
  unfold f_Ch_add at hf
  refine xj_aload_n C d_Ch_add_0 rfl 0 rfl ?_
  refine xj_get C g_Ch_30 1 rfl rfl d_Ch_add_1 ?_
  refine xj_topi (fun v1 ev1 => ?_)
  have hf := xlet_at ev1 hf
  refine xj_istore C d_Ch_add_4 (by decide) rfl ?_
  refine xj_iload C d_Ch_add_6 0 rfl ?_
  refine xj_if_lt (tgt := 17) C d_Ch_add_8 (by decide) (fun h9 => ?_) (fun h9 => ?_)
  · have hf := xi_pos h9 hf
    refine xj_iconst (v := (-1)) C d_Ch_add_17 rfl ?_
    exact xj_iret C hr hf d_Ch_add_18
  · have hf := xi_neg h9 hf
    refine xj_iload C d_Ch_add_11 0 rfl ?_
    refine xj_iconst (v := 2) C d_Ch_add_13 rfl ?_
    refine xj_icmp_lt (tgt := 19) C d_Ch_add_14 (by decide) (fun h9 => ?_) (fun h9 => ?_)
    · have hf := xi_pos h9 hf
      refine xj_aload_n C d_Ch_add_19 rfl 1 rfl ?_
      refine xj_get C g_Ch_9 1 rfl rfl d_Ch_add_20 ?_
      refine xj_iload C d_Ch_add_23 0 rfl ?_
      refine xj_iload_n C d_Ch_add_25 rfl 2 rfl ?_
      obtain ⟨g2, hf⟩ := xb_guard hf
      obtain ⟨s3, es3, hf⟩ := xlet_ex hf
      refine xj_iast (ws' := WC ad cI s3) C (WC_D N sz _) 8 0 rfl rfl g2 d_Ch_add_26 (by rw [es3]; rfl) ?_
      refine xj_aload_n C d_Ch_add_27 rfl 1 rfl ?_
      refine xj_get C g_Ch_15 1 rfl rfl d_Ch_add_28 ?_
      refine xj_iload C d_Ch_add_31 0 rfl ?_
      refine xj_iload_n C d_Ch_add_33 rfl 3 rfl ?_
      obtain ⟨g4, hf⟩ := xb_guard hf
      obtain ⟨s5, es5, hf⟩ := xlet_ex hf
      refine xj_iast (ws' := WC ad cI s5) C (WC_D N sz _) 9 0 rfl rfl g4 d_Ch_add_34 (by rw [es5]; rfl) ?_
      refine xj_aload_n C d_Ch_add_35 rfl 1 rfl ?_
      refine xj_get C g_Ch_18 1 rfl rfl d_Ch_add_36 ?_
      refine xj_iload C d_Ch_add_39 0 rfl ?_
      refine xj_iload_n C d_Ch_add_41 rfl 4 rfl ?_
      obtain ⟨g6, hf⟩ := xb_guard hf
      obtain ⟨s7, es7, hf⟩ := xlet_ex hf
      refine xj_iast (ws' := WC ad cI s7) C (WC_D N sz _) 10 0 rfl rfl g6 d_Ch_add_42 (by rw [es7]; rfl) ?_
      refine xj_aload_n C d_Ch_add_43 rfl 1 rfl ?_
      refine xj_iload C d_Ch_add_44 0 rfl ?_
      refine xj_iconst (v := 1) C d_Ch_add_46 rfl ?_
      refine xj_iadd C d_Ch_add_47 ?_
      obtain ⟨s8, es8, hf⟩ := xlet_ex hf
      refine xj_put (ws' := WC ad cI s8) C g_Ch_30 gw_Ch_size (WC_D N sz _) 1 rfl rfl rfl (Nat.le_of_ble_eq_true rfl) d_Ch_add_48 (by rw [es8]; rfl) ?_
      refine xj_iload C d_Ch_add_51 0 rfl ?_
      exact xj_iret C hr hf d_Ch_add_53
    · have hf := xi_neg h9 hf
      refine xj_iconst (v := (-1)) C d_Ch_add_17 rfl ?_
      exact xj_iret C hr hf d_Ch_add_18
set_option maxHeartbeats 4000000 in
set_option maxRecDepth 20000 in
theorem c_Ch_addSpan {l : Launch} {D : va_G} {ad : Nat → Nat} {cI : ClassId} (N : (LC ad).Nodup) {x1 x2 x3 : Int32} {st : St} {out : Int32 × St} (hf : f_Ch_addSpan x1 x2 x3 st = some out) : xMi l y_Ch_addSpan b_Ch_addSpan 5 (some .boolean) rm_Ch_addSpan D (tyC cI) (WC ad cI) (LC ad) [.ref (ad 1), .int x1, .int x2, .int x3] st out := by
  intro sz
  refine xM_of (L := LC ad) (by decide) (Nat.le_of_ble_eq_true rfl) (fun p e s m below meth c hsz hr C => ?_)
  show j_i p l e rm_Ch_addSpan s m _ below meth c sz D (WC ad cI) (LC ad) out 5 (WC ad cI st) [(0, .ref (ad 1)), (1, .int x1), (2, .int x2), (3, .int x3)] 0 []
  unfold f_Ch_addSpan at hf
  refine xj_aload_n C d_Ch_addSpan_0 rfl 0 rfl ?_
  refine xj_get C g_Ch_34 1 rfl rfl d_Ch_addSpan_1 ?_
  refine xj_topi (fun v1 ev1 => ?_)
  have hf := xlet_at ev1 hf
  refine xj_istore C d_Ch_addSpan_4 (by decide) rfl ?_
  refine xj_iload C d_Ch_addSpan_6 0 rfl ?_
  refine xj_if_lt (tgt := 18) C d_Ch_addSpan_8 (by decide) (fun h9 => ?_) (fun h9 => ?_)
  · have hf := xi_pos h9 hf
    refine xj_iconst (v := 0) C d_Ch_addSpan_18 rfl ?_
    exact xj_zret C hr rfl hf d_Ch_addSpan_19
  · have hf := xi_neg h9 hf
    refine xj_iload C d_Ch_addSpan_11 0 rfl ?_
    refine xj_bipush (v := 8) C d_Ch_addSpan_13 rfl ?_
    refine xj_icmp_lt (tgt := 20) C d_Ch_addSpan_15 (by decide) (fun h9 => ?_) (fun h9 => ?_)
    · have hf := xi_pos h9 hf
      refine xj_aload_n C d_Ch_addSpan_20 rfl 1 rfl ?_
      refine xj_get C g_Ch_21 1 rfl rfl d_Ch_addSpan_21 ?_
      refine xj_iload C d_Ch_addSpan_24 0 rfl ?_
      refine xj_iload_n C d_Ch_addSpan_26 rfl 2 rfl ?_
      obtain ⟨g2, hf⟩ := xb_guard hf
      obtain ⟨s3, es3, hf⟩ := xlet_ex hf
      refine xj_iast (ws' := WC ad cI s3) C (WC_D N sz _) 11 0 rfl rfl g2 d_Ch_addSpan_27 (by rw [es3]; rfl) ?_
      refine xj_aload_n C d_Ch_addSpan_28 rfl 1 rfl ?_
      refine xj_get C g_Ch_24 1 rfl rfl d_Ch_addSpan_29 ?_
      refine xj_iload C d_Ch_addSpan_32 0 rfl ?_
      refine xj_iload_n C d_Ch_addSpan_34 rfl 3 rfl ?_
      obtain ⟨g4, hf⟩ := xb_guard hf
      obtain ⟨s5, es5, hf⟩ := xlet_ex hf
      refine xj_iast (ws' := WC ad cI s5) C (WC_D N sz _) 12 0 rfl rfl g4 d_Ch_addSpan_35 (by rw [es5]; rfl) ?_
      refine xj_aload_n C d_Ch_addSpan_36 rfl 1 rfl ?_
      refine xj_get C g_Ch_27 1 rfl rfl d_Ch_addSpan_37 ?_
      refine xj_iload C d_Ch_addSpan_40 0 rfl ?_
      refine xj_iload_n C d_Ch_addSpan_42 rfl 4 rfl ?_
      obtain ⟨g6, hf⟩ := xb_guard hf
      obtain ⟨s7, es7, hf⟩ := xlet_ex hf
      refine xj_iast (ws' := WC ad cI s7) C (WC_D N sz _) 13 0 rfl rfl g6 d_Ch_addSpan_43 (by rw [es7]; rfl) ?_
      refine xj_aload_n C d_Ch_addSpan_44 rfl 1 rfl ?_
      refine xj_iload C d_Ch_addSpan_45 0 rfl ?_
      refine xj_iconst (v := 1) C d_Ch_addSpan_47 rfl ?_
      refine xj_iadd C d_Ch_addSpan_48 ?_
      obtain ⟨s8, es8, hf⟩ := xlet_ex hf
      refine xj_put (ws' := WC ad cI s8) C g_Ch_34 gw_Ch_spans (WC_D N sz _) 1 rfl rfl rfl (Nat.le_of_ble_eq_true rfl) d_Ch_addSpan_49 (by rw [es8]; rfl) ?_
      refine xj_iconst (v := 1) C d_Ch_addSpan_52 rfl ?_
      exact xj_zret C hr rfl hf d_Ch_addSpan_53
    · have hf := xi_neg h9 hf
      refine xj_iconst (v := 0) C d_Ch_addSpan_18 rfl ?_
      exact xj_zret C hr rfl hf d_Ch_addSpan_19
