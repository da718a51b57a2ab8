set_option maxHeartbeats 4000000 in
set_option maxRecDepth 20000 in
theorem c_Mo_thrown {l : Launch} {D : va_G} {ad : Nat → Nat} {cI : ClassId × ClassId} (N : (LM ad).Nodup) {st : St} {out : Int32 × St} (hf : f_Mo_thrown  st = some out) : xMi l y_Mo_thrown b_Mo_thrown 1 (some .int) rm_Mo_thrown D (tyM cI) (WM ad cI) (LM ad) [.ref (ad 0)] st out := by
  intro sz
  refine xM_of (L := LM ad) (by decide) (Nat.le_of_ble_eq_true rfl) (fun p e s m below meth c hsz hr C => ?_)
  show j_i p l e rm_Mo_thrown s m _ below meth c sz D (WM ad cI) (LM ad) out 1 (WM ad cI st) [(0, .ref (ad 0))] 0 []
  unfold f_Mo_thrown at hf
  refine xj_aload_n C d_Mo_thrown_0 rfl 0 rfl ?_
  refine xj_get C g_Mo_69 0 rfl rfl d_Mo_thrown_1 ?_
  exact xj_iret C hr hf d_Mo_thrown_4
set_option maxHeartbeats 4000000 in
set_option maxRecDepth 20000 in
theorem c_Mo_in {l : Launch} {D : va_G} {ad : Nat → Nat} {cI : ClassId × ClassId} (N : (LM ad).Nodup) {x0 x1 x2 : Int32} {st : St} {out : Int32 × St} (hf : f_Mo_in x0 x1 x2 st = some out) : xMi l y_Mo_in b_Mo_in 3 (some .boolean) rm_Mo_in D (tyM cI) (WM ad cI) (LM ad) [.int x0, .int x1, .int x2] st out := by
  intro sz
  refine xM_of (L := LM ad) (by decide) (Nat.le_of_ble_eq_true rfl) (fun p e s m below meth c hsz hr C => ?_)
  show j_i p l e rm_Mo_in s m _ below meth c sz D (WM ad cI) (LM ad) out 3 (WM ad cI st) [(0, .int x0), (1, .int x1), (2, .int x2)] 0 []
  unfold f_Mo_in at hf
  refine xj_iload_n C d_Mo_in_0 rfl 0 rfl ?_
  refine xj_iload_n C d_Mo_in_1 rfl 1 rfl ?_
  refine xj_icmp_lt (tgt := 14) C d_Mo_in_2 (by decide) (fun h9 => ?_) (fun h9 => ?_)
  · have hf := xi_pos h9 hf
    refine xj_iconst (v := 0) C d_Mo_in_14 rfl ?_
    exact xj_zret C hr rfl hf d_Mo_in_15
  · have hf := xi_neg h9 hf
    refine xj_iload_n C d_Mo_in_5 rfl 0 rfl ?_
    refine xj_iload_n C d_Mo_in_6 rfl 2 rfl ?_
    refine xj_icmp_gt (tgt := 14) C d_Mo_in_7 (by decide) (fun h9 => ?_) (fun h9 => ?_)
    · have hf := xi_pos h9 hf
      refine xj_iconst (v := 0) C d_Mo_in_14 rfl ?_
      exact xj_zret C hr rfl hf d_Mo_in_15
    · have hf := xi_neg h9 hf
      refine xj_iconst (v := 1) C d_Mo_in_10 rfl ?_
      refine xj_goto (tgt := 15) C d_Mo_in_11 (by decide) ?_
      exact xj_zret C hr rfl hf d_Mo_in_15
set_option maxHeartbeats 4000000 in
set_option maxRecDepth 20000 in
theorem c_Mo_isChamber {l : Launch} {D : va_G} {ad : Nat → Nat} {cI : ClassId × ClassId} (N : (LM ad).Nodup) {x1 : Int32} {st : St} {out : Int32 × St} (hf : f_Mo_isChamber x1 st = some out) : xMi l y_Mo_isChamber b_Mo_isChamber 2 (some .boolean) rm_Mo_isChamber D (tyM cI) (WM ad cI) (LM ad) [.ref (ad 0), .int x1] st out := by
  intro sz
  refine xM_of (L := LM ad) (by decide) (Nat.le_of_ble_eq_true rfl) (fun p e s m below meth c hsz hr C => ?_)
  show j_i p l e rm_Mo_isChamber s m _ below meth c sz D (WM ad cI) (LM ad) out 2 (WM ad cI st) [(0, .ref (ad 0)), (1, .int x1)] 0 []
  unfold f_Mo_isChamber at hf
  refine xj_iload_n C d_Mo_isChamber_0 rfl 1 rfl ?_
  refine xj_if_lt (tgt := 16) C d_Mo_isChamber_1 (by decide) (fun h9 => ?_) (fun h9 => ?_)
  · have hf := xi_pos h9 hf
    refine xj_iconst (v := 0) C d_Mo_isChamber_16 rfl ?_
    exact xj_zret C hr rfl hf d_Mo_isChamber_17
  · have hf := xi_neg h9 hf
    refine xj_iload_n C d_Mo_isChamber_4 rfl 1 rfl ?_
    refine xj_aload_n C d_Mo_isChamber_5 rfl 0 rfl ?_
    refine xj_get C g_Mo_72 0 rfl rfl d_Mo_isChamber_6 ?_
    refine xj_icmp_ge (tgt := 16) C d_Mo_isChamber_9 (by decide) (fun h9 => ?_) (fun h9 => ?_)
    · have hf := xi_pos h9 hf
      refine xj_iconst (v := 0) C d_Mo_isChamber_16 rfl ?_
      exact xj_zret C hr rfl hf d_Mo_isChamber_17
    · have hf := xi_neg h9 hf
      refine xj_iconst (v := 1) C d_Mo_isChamber_12 rfl ?_
      refine xj_goto (tgt := 17) C d_Mo_isChamber_13 (by decide) ?_
      exact xj_zret C hr rfl hf d_Mo_isChamber_17
set_option maxHeartbeats 4000000 in
set_option maxRecDepth 20000 in
theorem c_Mo_isShip {l : Launch} {D : va_G} {ad : Nat → Nat} {cI : ClassId × ClassId} (N : (LM ad).Nodup) {x1 : Int32} {st : St} {out : Int32 × St} (hf : f_Mo_isShip x1 st = some out) : xMi l y_Mo_isShip b_Mo_isShip 2 (some .boolean) rm_Mo_isShip D (tyM cI) (WM ad cI) (LM ad) [.ref (ad 0), .int x1] st out := by
  intro sz
  refine xM_of (L := LM ad) (by decide) (Nat.le_of_ble_eq_true rfl) (fun p e s m below meth c hsz hr C => ?_)
  show j_i p l e rm_Mo_isShip s m _ below meth c sz D (WM ad cI) (LM ad) out 2 (WM ad cI st) [(0, .ref (ad 0)), (1, .int x1)] 0 []
  unfold f_Mo_isShip at hf
  refine xj_iload_n C d_Mo_isShip_0 rfl 1 rfl ?_
  refine xj_if_lt (tgt := 16) C d_Mo_isShip_1 (by decide) (fun h9 => ?_) (fun h9 => ?_)
  · have hf := xi_pos h9 hf
    refine xj_iconst (v := 0) C d_Mo_isShip_16 rfl ?_
    exact xj_zret C hr rfl hf d_Mo_isShip_17
  · have hf := xi_neg h9 hf
    refine xj_iload_n C d_Mo_isShip_4 rfl 1 rfl ?_
    refine xj_aload_n C d_Mo_isShip_5 rfl 0 rfl ?_
    refine xj_get C g_Mo_75 0 rfl rfl d_Mo_isShip_6 ?_
    refine xj_icmp_ge (tgt := 16) C d_Mo_isShip_9 (by decide) (fun h9 => ?_) (fun h9 => ?_)
    · have hf := xi_pos h9 hf
      refine xj_iconst (v := 0) C d_Mo_isShip_16 rfl ?_
      exact xj_zret C hr rfl hf d_Mo_isShip_17
    · have hf := xi_neg h9 hf
      refine xj_iconst (v := 1) C d_Mo_isShip_12 rfl ?_
      refine xj_goto (tgt := 17) C d_Mo_isShip_13 (by decide) ?_
      exact xj_zret C hr rfl hf d_Mo_isShip_17
set_option maxHeartbeats 4000000 in
set_option maxRecDepth 20000 in
theorem w_Mo_chamber_47 {p : Program} {l : Launch} {e : Env} {s : State} {m : MethodId} {args : Array Value} {below : List Frame} {meth : Method} {c : Code} {sz : Nat} {D : va_G} {ad : Nat → Nat} {cI : ClassId × ClassId} {out : Int32 × St} (N : (LM ad).Nodup) (C : xC p s m args meth c (xA (LM ad) sz) D 4 (tyM cI) b_Mo_chamber R_Mo) (hr : meth.sig.returnType = (some .int)) (x1 x2 x3 y0 : Int32) (st : St) (hf : f_Mo_chamber_47 x1 x2 x3 y0 st = some out) : j_i p l e rm_Mo_chamber s m args below meth c sz D (WM ad cI) (LM ad) out 4 (WM ad cI st) [(0, .ref (ad 0)), (1, .int x1), (2, .int x2), (3, .int x3)] 47 [.int y0, .ref (ad 0)] := by
  unfold f_Mo_chamber_47 at hf
  obtain ⟨s2, es2, hf⟩ := xlet_ex hf
  refine xj_put (ws' := WM ad cI s2) C g_Mo_69 gw_Mo_thrown (WM_D N sz _) 0 rfl rfl rfl (Nat.le_of_ble_eq_true rfl) d_Mo_chamber_47 (by rw [es2]; rfl) ?_
  refine xj_aload_n C d_Mo_chamber_50 rfl 0 rfl ?_
  refine xj_get C g_Mo_69 0 rfl rfl d_Mo_chamber_51 ?_
  refine xj_if_le (tgt := 59) C d_Mo_chamber_54 (by decide) (fun h9 => ?_) (fun h9 => ?_)
  · have hf := xi_pos h9 hf
    refine xj_aload_n C d_Mo_chamber_59 rfl 0 rfl ?_
    refine xj_get C g_Mo_13 0 rfl rfl d_Mo_chamber_60 ?_
    refine xj_aload_n C d_Mo_chamber_63 rfl 0 rfl ?_
    refine xj_get C g_Mo_72 0 rfl rfl d_Mo_chamber_64 ?_
    refine xj_iload_n C d_Mo_chamber_67 rfl 1 rfl ?_
    obtain ⟨g3, hf⟩ := xb_guard hf
    obtain ⟨s4, es4, hf⟩ := xlet_ex hf
    refine xj_iast (ws' := WM ad cI s4) C (WM_D N sz _) 1 0 rfl rfl g3 d_Mo_chamber_68 (by rw [es4]; rfl) ?_
    refine xj_aload_n C d_Mo_chamber_69 rfl 0 rfl ?_
    refine xj_get C g_Mo_17 0 rfl rfl d_Mo_chamber_70 ?_
    refine xj_aload_n C d_Mo_chamber_73 rfl 0 rfl ?_
    refine xj_get C g_Mo_72 0 rfl rfl d_Mo_chamber_74 ?_
    refine xj_iload_n C d_Mo_chamber_77 rfl 2 rfl ?_
    obtain ⟨g5, hf⟩ := xb_guard hf
    obtain ⟨s6, es6, hf⟩ := xlet_ex hf
    refine xj_iast (ws' := WM ad cI s6) C (WM_D N sz _) 2 0 rfl rfl g5 d_Mo_chamber_78 (by rw [es6]; rfl) ?_
    refine xj_aload_n C d_Mo_chamber_79 rfl 0 rfl ?_
    refine xj_get C g_Mo_20 0 rfl rfl d_Mo_chamber_80 ?_
    refine xj_aload_n C d_Mo_chamber_83 rfl 0 rfl ?_
    refine xj_get C g_Mo_72 0 rfl rfl d_Mo_chamber_84 ?_
    refine xj_iload_n C d_Mo_chamber_87 rfl 3 rfl ?_
    obtain ⟨g7, hf⟩ := xb_guard hf
    obtain ⟨s8, es8, hf⟩ := xlet_ex hf
    refine xj_iast (ws' := WM ad cI s8) C (WM_D N sz _) 3 0 rfl rfl g7 d_Mo_chamber_88 (by rw [es8]; rfl) ?_
    refine xj_aload_n C d_Mo_chamber_89 rfl 0 rfl ?_
    refine xj_dup C d_Mo_chamber_90 rfl ?_
    refine xj_get C g_Mo_72 0 rfl rfl d_Mo_chamber_91 ?_
    refine xj_iconst (v := 1) C d_Mo_chamber_94 rfl ?_
    refine xj_iadd C d_Mo_chamber_95 ?_
    obtain ⟨s9, es9, hf⟩ := xlet_ex hf
    refine xj_put (ws' := WM ad cI s9) C g_Mo_72 gw_Mo_chambers (WM_D N sz _) 0 rfl rfl rfl (Nat.le_of_ble_eq_true rfl) d_Mo_chamber_96 (by rw [es9]; rfl) ?_
    refine xj_aload_n C d_Mo_chamber_99 rfl 0 rfl ?_
    refine xj_iconst (v := 0) C d_Mo_chamber_100 rfl ?_
    obtain ⟨s10, es10, hf⟩ := xlet_ex hf
    refine xj_put (ws' := WM ad cI s10) C g_Mo_82 gw_Mo_isPlan (WM_D N sz _) 0 rfl rfl rfl (Nat.le_of_ble_eq_true rfl) d_Mo_chamber_101 (by rw [es10]; rfl) ?_
    refine xj_aload_n C d_Mo_chamber_104 rfl 0 rfl ?_
    refine xj_get C g_Mo_72 0 rfl rfl d_Mo_chamber_105 ?_
    refine xj_iconst (v := 1) C d_Mo_chamber_108 rfl ?_
    refine xj_isub C d_Mo_chamber_109 ?_
    exact xj_iret C hr hf d_Mo_chamber_110
  · have hf := xi_neg h9 hf
    refine xj_iconst (v := 0) C d_Mo_chamber_57 rfl ?_
    exact xj_iret C hr hf d_Mo_chamber_58
set_option maxHeartbeats 4000000 in
set_option maxRecDepth 20000 in
theorem w_Mo_chamber_30 {p : Program} {l : Launch} {e : Env} {s : State} {m : MethodId} {args : Array Value} {below : List Frame} {meth : Method} {c : Code} {sz : Nat} {D : va_G} {ad : Nat → Nat} {cI : ClassId × ClassId} {out : Int32 × St} (N : (LM ad).Nodup) (C : xC p s m args meth c (xA (LM ad) sz) D 4 (tyM cI) b_Mo_chamber R_Mo) (hr : meth.sig.returnType = (some .int)) (x1 x2 x3 : Int32) (st : St) (hf : f_Mo_chamber_30 x1 x2 x3 st = some out) : j_i p l e rm_Mo_chamber s m args below meth c sz D (WM ad cI) (LM ad) out 4 (WM ad cI st) [(0, .ref (ad 0)), (1, .int x1), (2, .int x2), (3, .int x3)] 30 [.ref (ad 0)] := by
  unfold f_Mo_chamber_30 at hf
  refine xj_iconst (v := 1) C d_Mo_chamber_30 rfl ?_
  refine xj_goto (tgt := 47) C d_Mo_chamber_31 (by decide) ?_
  exact xj_lv [0, 1, 2, 3] rfl (w_Mo_chamber_47 N C hr x1 x2 x3 1 st hf)
set_option maxHeartbeats 4000000 in
set_option maxRecDepth 20000 in
theorem c_Mo_chamber {l : Launch} {D : va_G} {ad : Nat → Nat} {cI : ClassId × ClassId} (N : (LM ad).Nodup) {x1 x2 x3 : Int32} {st : St} {out : Int32 × St} (hf : f_Mo_chamber x1 x2 x3 st = some out) : xMi l y_Mo_chamber b_Mo_chamber 4 (some .int) rm_Mo_chamber D (tyM cI) (WM ad cI) (LM ad) [.ref (ad 0), .int x1, .int x2, .int x3] st out := by
  intro sz
  refine xM_of (L := LM ad) (by decide) (Nat.le_of_ble_eq_true rfl) (fun p e s m below meth c hsz hr C => ?_)
  show j_i p l e rm_Mo_chamber s m _ below meth c sz D (WM ad cI) (LM ad) out 4 (WM ad cI st) [(0, .ref (ad 0)), (1, .int x1), (2, .int x2), (3, .int x3)] 0 []
  unfold f_Mo_chamber at hf
  refine xj_aload_n C d_Mo_chamber_0 rfl 0 rfl ?_
  refine xj_iload_n C d_Mo_chamber_1 rfl 1 rfl ?_
  refine xj_iconst (v := 1) C d_Mo_chamber_2 rfl ?_
  refine xj_bipush (v := 8) C d_Mo_chamber_3 rfl ?_
  obtain ⟨o1, ho1, hf⟩ := xb_some hf
  refine xj_callSi (rest := [.ref (ad 0)]) C (c_Mo_in N ho1) Y_Mo_in i_Mo_78 (by decide) ⟨rfl, rfl⟩ rfl rfl (Nat.le_of_ble_eq_true rfl) d_Mo_chamber_5 (fun q h => Or.inl h) ?_
  refine xj_if_eq (tgt := 30) C d_Mo_chamber_8 (by decide) (fun h9 => ?_) (fun h9 => ?_)
  · have hf := xi_pos h9 hf
    exact xj_lv [0, 1, 2, 3] rfl (w_Mo_chamber_30 N C hr x1 x2 x3 o1.2 hf)
  · have hf := xi_neg h9 hf
    refine xj_iload_n C d_Mo_chamber_11 rfl 2 rfl ?_
    refine xj_iconst (v := 1) C d_Mo_chamber_12 rfl ?_
    refine xj_iconst (v := 3) C d_Mo_chamber_13 rfl ?_
    obtain ⟨o11, ho11, hf⟩ := xb_some hf
    refine xj_callSi (rest := [.ref (ad 0)]) C (c_Mo_in N ho11) Y_Mo_in i_Mo_78 (by decide) ⟨rfl, rfl⟩ rfl rfl (Nat.le_of_ble_eq_true rfl) d_Mo_chamber_14 (fun q h => Or.inl h) ?_
    refine xj_if_eq (tgt := 30) C d_Mo_chamber_17 (by decide) (fun h9 => ?_) (fun h9 => ?_)
    · have hf := xi_pos h9 hf
      exact xj_lv [0, 1, 2, 3] rfl (w_Mo_chamber_30 N C hr x1 x2 x3 o11.2 hf)
    · have hf := xi_neg h9 hf
      refine xj_iload_n C d_Mo_chamber_20 rfl 3 rfl ?_
      refine xj_iconst (v := 1) C d_Mo_chamber_21 rfl ?_
      refine xj_bipush (v := 60) C d_Mo_chamber_22 rfl ?_
      obtain ⟨o12, ho12, hf⟩ := xb_some hf
      refine xj_callSi (rest := [.ref (ad 0)]) C (c_Mo_in N ho12) Y_Mo_in i_Mo_78 (by decide) ⟨rfl, rfl⟩ rfl rfl (Nat.le_of_ble_eq_true rfl) d_Mo_chamber_24 (fun q h => Or.inl h) ?_
      refine xj_if_ne (tgt := 34) C d_Mo_chamber_27 (by decide) (fun h9 => ?_) (fun h9 => ?_)
      · have hf := xi_neg h9 hf
        refine xj_aload_n C d_Mo_chamber_34 rfl 0 rfl ?_
        refine xj_get C g_Mo_72 0 rfl rfl d_Mo_chamber_35 ?_
        refine xj_iconst (v := 2) C d_Mo_chamber_38 rfl ?_
        refine xj_icmp_ne (tgt := 46) C d_Mo_chamber_39 (by decide) (fun h9 => ?_) (fun h9 => ?_)
        · have hf := xi_neg h9 hf
          refine xj_iconst (v := 0) C d_Mo_chamber_46 rfl ?_
          exact xj_lv [0, 1, 2, 3] rfl (w_Mo_chamber_47 N C hr x1 x2 x3 0 o12.2 hf)
        · have hf := xi_pos h9 hf
          refine xj_iconst (v := 2) C d_Mo_chamber_42 rfl ?_
          refine xj_goto (tgt := 47) C d_Mo_chamber_43 (by decide) ?_
          exact xj_lv [0, 1, 2, 3] rfl (w_Mo_chamber_47 N C hr x1 x2 x3 2 o12.2 hf)
      · have hf := xi_pos h9 hf
        exact xj_lv [0, 1, 2, 3] rfl (w_Mo_chamber_30 N C hr x1 x2 x3 o12.2 hf)
set_option maxHeartbeats 4000000 in
set_option maxRecDepth 20000 in
theorem w_Mo_ship_68 {p : Program} {l : Launch} {e : Env} {s : State} {m : MethodId} {args : Array Value} {below : List Frame} {meth : Method} {c : Code} {sz : Nat} {D : va_G} {ad : Nat → Nat} {cI : ClassId × ClassId} {out : Int32 × St} (N : (LM ad).Nodup) (C : xC p s m args meth c (xA (LM ad) sz) D 6 (tyM cI) b_Mo_ship R_Mo) (hr : meth.sig.returnType = (some .int)) (x1 x2 x3 x4 x5 y0 : Int32) (st : St) (hf : f_Mo_ship_68 x1 x2 x3 x4 x5 y0 st = some out) : j_i p l e rm_Mo_ship s m args below meth c sz D (WM ad cI) (LM ad) out 6 (WM ad cI st) [(0, .ref (ad 0)), (1, .int x1), (2, .int x2), (3, .int x3), (4, .int x4), (5, .int x5)] 68 [.int y0, .ref (ad 0)] := by
  unfold f_Mo_ship_68 at hf
  obtain ⟨s2, es2, hf⟩ := xlet_ex hf
  refine xj_put (ws' := WM ad cI s2) C g_Mo_69 gw_Mo_thrown (WM_D N sz _) 0 rfl rfl rfl (Nat.le_of_ble_eq_true rfl) d_Mo_ship_68 (by rw [es2]; rfl) ?_
  refine xj_aload_n C d_Mo_ship_71 rfl 0 rfl ?_
  refine xj_get C g_Mo_69 0 rfl rfl d_Mo_ship_72 ?_
  refine xj_if_le (tgt := 80) C d_Mo_ship_75 (by decide) (fun h9 => ?_) (fun h9 => ?_)
  · have hf := xi_pos h9 hf
    refine xj_aload_n C d_Mo_ship_80 rfl 0 rfl ?_
    refine xj_get C g_Mo_32 0 rfl rfl d_Mo_ship_81 ?_
    refine xj_aload_n C d_Mo_ship_84 rfl 0 rfl ?_
    refine xj_get C g_Mo_75 0 rfl rfl d_Mo_ship_85 ?_
    refine xj_iload_n C d_Mo_ship_88 rfl 1 rfl ?_
    obtain ⟨g3, hf⟩ := xb_guard hf
    obtain ⟨s4, es4, hf⟩ := xlet_ex hf
    refine xj_iast (ws' := WM ad cI s4) C (WM_D N sz _) 7 0 rfl rfl g3 d_Mo_ship_89 (by rw [es4]; rfl) ?_
    refine xj_aload_n C d_Mo_ship_90 rfl 0 rfl ?_
    refine xj_get C g_Mo_35 0 rfl rfl d_Mo_ship_91 ?_
    refine xj_aload_n C d_Mo_ship_94 rfl 0 rfl ?_
    refine xj_get C g_Mo_75 0 rfl rfl d_Mo_ship_95 ?_
    refine xj_iload_n C d_Mo_ship_98 rfl 2 rfl ?_
    obtain ⟨g5, hf⟩ := xb_guard hf
    obtain ⟨s6, es6, hf⟩ := xlet_ex hf
    refine xj_iast (ws' := WM ad cI s6) C (WM_D N sz _) 8 0 rfl rfl g5 d_Mo_ship_99 (by rw [es6]; rfl) ?_
    refine xj_aload_n C d_Mo_ship_100 rfl 0 rfl ?_
    refine xj_get C g_Mo_38 0 rfl rfl d_Mo_ship_101 ?_
    refine xj_aload_n C d_Mo_ship_104 rfl 0 rfl ?_
    refine xj_get C g_Mo_75 0 rfl rfl d_Mo_ship_105 ?_
    refine xj_iload_n C d_Mo_ship_108 rfl 3 rfl ?_
    obtain ⟨g7, hf⟩ := xb_guard hf
    obtain ⟨s8, es8, hf⟩ := xlet_ex hf
    refine xj_iast (ws' := WM ad cI s8) C (WM_D N sz _) 9 0 rfl rfl g7 d_Mo_ship_109 (by rw [es8]; rfl) ?_
    refine xj_aload_n C d_Mo_ship_110 rfl 0 rfl ?_
    refine xj_get C g_Mo_41 0 rfl rfl d_Mo_ship_111 ?_
    refine xj_aload_n C d_Mo_ship_114 rfl 0 rfl ?_
    refine xj_get C g_Mo_75 0 rfl rfl d_Mo_ship_115 ?_
    refine xj_iload C d_Mo_ship_118 4 rfl ?_
    obtain ⟨g9, hf⟩ := xb_guard hf
    obtain ⟨s10, es10, hf⟩ := xlet_ex hf
    refine xj_iast (ws' := WM ad cI s10) C (WM_D N sz _) 10 0 rfl rfl g9 d_Mo_ship_120 (by rw [es10]; rfl) ?_
    refine xj_aload_n C d_Mo_ship_121 rfl 0 rfl ?_
    refine xj_get C g_Mo_44 0 rfl rfl d_Mo_ship_122 ?_
    refine xj_aload_n C d_Mo_ship_125 rfl 0 rfl ?_
    refine xj_get C g_Mo_75 0 rfl rfl d_Mo_ship_126 ?_
    refine xj_iload C d_Mo_ship_129 5 rfl ?_
    obtain ⟨g11, hf⟩ := xb_guard hf
    obtain ⟨s12, es12, hf⟩ := xlet_ex hf
    refine xj_iast (ws' := WM ad cI s12) C (WM_D N sz _) 11 0 rfl rfl g11 d_Mo_ship_131 (by rw [es12]; rfl) ?_
    refine xj_aload_n C d_Mo_ship_132 rfl 0 rfl ?_
    refine xj_dup C d_Mo_ship_133 rfl ?_
    refine xj_get C g_Mo_75 0 rfl rfl d_Mo_ship_134 ?_
    refine xj_iconst (v := 1) C d_Mo_ship_137 rfl ?_
    refine xj_iadd C d_Mo_ship_138 ?_
    obtain ⟨s13, es13, hf⟩ := xlet_ex hf
    refine xj_put (ws' := WM ad cI s13) C g_Mo_75 gw_Mo_ships (WM_D N sz _) 0 rfl rfl rfl (Nat.le_of_ble_eq_true rfl) d_Mo_ship_139 (by rw [es13]; rfl) ?_
    refine xj_aload_n C d_Mo_ship_142 rfl 0 rfl ?_
    refine xj_iconst (v := 0) C d_Mo_ship_143 rfl ?_
    obtain ⟨s14, es14, hf⟩ := xlet_ex hf
    refine xj_put (ws' := WM ad cI s14) C g_Mo_82 gw_Mo_isPlan (WM_D N sz _) 0 rfl rfl rfl (Nat.le_of_ble_eq_true rfl) d_Mo_ship_144 (by rw [es14]; rfl) ?_
    refine xj_aload_n C d_Mo_ship_147 rfl 0 rfl ?_
    refine xj_get C g_Mo_75 0 rfl rfl d_Mo_ship_148 ?_
    refine xj_iconst (v := 1) C d_Mo_ship_151 rfl ?_
    refine xj_isub C d_Mo_ship_152 ?_
    exact xj_iret C hr hf d_Mo_ship_153
  · have hf := xi_neg h9 hf
    refine xj_iconst (v := 0) C d_Mo_ship_78 rfl ?_
    exact xj_iret C hr hf d_Mo_ship_79
set_option maxHeartbeats 4000000 in
set_option maxRecDepth 20000 in
theorem w_Mo_ship_51 {p : Program} {l : Launch} {e : Env} {s : State} {m : MethodId} {args : Array Value} {below : List Frame} {meth : Method} {c : Code} {sz : Nat} {D : va_G} {ad : Nat → Nat} {cI : ClassId × ClassId} {out : Int32 × St} (N : (LM ad).Nodup) (C : xC p s m args meth c (xA (LM ad) sz) D 6 (tyM cI) b_Mo_ship R_Mo) (hr : meth.sig.returnType = (some .int)) (x1 x2 x3 x4 x5 : Int32) (st : St) (hf : f_Mo_ship_51 x1 x2 x3 x4 x5 st = some out) : j_i p l e rm_Mo_ship s m args below meth c sz D (WM ad cI) (LM ad) out 6 (WM ad cI st) [(0, .ref (ad 0)), (1, .int x1), (2, .int x2), (3, .int x3), (4, .int x4), (5, .int x5)] 51 [.ref (ad 0)] := by
  unfold f_Mo_ship_51 at hf
  refine xj_iconst (v := 1) C d_Mo_ship_51 rfl ?_
  refine xj_goto (tgt := 68) C d_Mo_ship_52 (by decide) ?_
  exact xj_lv [0, 1, 2, 3, 4, 5] rfl (w_Mo_ship_68 N C hr x1 x2 x3 x4 x5 1 st hf)
set_option maxHeartbeats 4000000 in
set_option maxRecDepth 20000 in
theorem c_Mo_ship {l : Launch} {D : va_G} {ad : Nat → Nat} {cI : ClassId × ClassId} (N : (LM ad).Nodup) {x1 x2 x3 x4 x5 : Int32} {st : St} {out : Int32 × St} (hf : f_Mo_ship x1 x2 x3 x4 x5 st = some out) : xMi l y_Mo_ship b_Mo_ship 6 (some .int) rm_Mo_ship D (tyM cI) (WM ad cI) (LM ad) [.ref (ad 0), .int x1, .int x2, .int x3, .int x4, .int x5] st out := by
  intro sz
  refine xM_of (L := LM ad) (by decide) (Nat.le_of_ble_eq_true rfl) (fun p e s m below meth c hsz hr C => ?_)
  show j_i p l e rm_Mo_ship s m _ below meth c sz D (WM ad cI) (LM ad) out 6 (WM ad cI st) [(0, .ref (ad 0)), (1, .int x1), (2, .int x2), (3, .int x3), (4, .int x4), (5, .int x5)] 0 []
  unfold f_Mo_ship at hf
  refine xj_aload_n C d_Mo_ship_0 rfl 0 rfl ?_
  refine xj_iload_n C d_Mo_ship_1 rfl 1 rfl ?_
  refine xj_iconst (v := 1) C d_Mo_ship_2 rfl ?_
  refine xj_bipush (v := 8) C d_Mo_ship_3 rfl ?_
  obtain ⟨o1, ho1, hf⟩ := xb_some hf
  refine xj_callSi (rest := [.ref (ad 0)]) C (c_Mo_in N ho1) Y_Mo_in i_Mo_78 (by decide) ⟨rfl, rfl⟩ rfl rfl (Nat.le_of_ble_eq_true rfl) d_Mo_ship_5 (fun q h => Or.inl h) ?_
  refine xj_if_eq (tgt := 51) C d_Mo_ship_8 (by decide) (fun h9 => ?_) (fun h9 => ?_)
  · have hf := xi_pos h9 hf
    exact xj_lv [0, 1, 2, 3, 4, 5] rfl (w_Mo_ship_51 N C hr x1 x2 x3 x4 x5 o1.2 hf)
  · have hf := xi_neg h9 hf
    refine xj_iload_n C d_Mo_ship_11 rfl 2 rfl ?_
    refine xj_iconst (v := 1) C d_Mo_ship_12 rfl ?_
    refine xj_iconst (v := 3) C d_Mo_ship_13 rfl ?_
    obtain ⟨o15, ho15, hf⟩ := xb_some hf
    refine xj_callSi (rest := [.ref (ad 0)]) C (c_Mo_in N ho15) Y_Mo_in i_Mo_78 (by decide) ⟨rfl, rfl⟩ rfl rfl (Nat.le_of_ble_eq_true rfl) d_Mo_ship_14 (fun q h => Or.inl h) ?_
    refine xj_if_eq (tgt := 51) C d_Mo_ship_17 (by decide) (fun h9 => ?_) (fun h9 => ?_)
    · have hf := xi_pos h9 hf
      exact xj_lv [0, 1, 2, 3, 4, 5] rfl (w_Mo_ship_51 N C hr x1 x2 x3 x4 x5 o15.2 hf)
    · have hf := xi_neg h9 hf
      refine xj_iload_n C d_Mo_ship_20 rfl 3 rfl ?_
      refine xj_iconst (v := 0) C d_Mo_ship_21 rfl ?_
      refine xj_sipush (v := 1000) C d_Mo_ship_22 rfl ?_
      obtain ⟨o16, ho16, hf⟩ := xb_some hf
      refine xj_callSi (rest := [.ref (ad 0)]) C (c_Mo_in N ho16) Y_Mo_in i_Mo_78 (by decide) ⟨rfl, rfl⟩ rfl rfl (Nat.le_of_ble_eq_true rfl) d_Mo_ship_25 (fun q h => Or.inl h) ?_
      refine xj_if_eq (tgt := 51) C d_Mo_ship_28 (by decide) (fun h9 => ?_) (fun h9 => ?_)
      · have hf := xi_pos h9 hf
        exact xj_lv [0, 1, 2, 3, 4, 5] rfl (w_Mo_ship_51 N C hr x1 x2 x3 x4 x5 o16.2 hf)
      · have hf := xi_neg h9 hf
        refine xj_iload C d_Mo_ship_31 4 rfl ?_
        refine xj_iconst (v := 0) C d_Mo_ship_33 rfl ?_
        refine xj_iconst (v := 1) C d_Mo_ship_34 rfl ?_
        obtain ⟨o17, ho17, hf⟩ := xb_some hf
        refine xj_callSi (rest := [.ref (ad 0)]) C (c_Mo_in N ho17) Y_Mo_in i_Mo_78 (by decide) ⟨rfl, rfl⟩ rfl rfl (Nat.le_of_ble_eq_true rfl) d_Mo_ship_35 (fun q h => Or.inl h) ?_
        refine xj_if_eq (tgt := 51) C d_Mo_ship_38 (by decide) (fun h9 => ?_) (fun h9 => ?_)
        · have hf := xi_pos h9 hf
          exact xj_lv [0, 1, 2, 3, 4, 5] rfl (w_Mo_ship_51 N C hr x1 x2 x3 x4 x5 o17.2 hf)
        · have hf := xi_neg h9 hf
          refine xj_iload C d_Mo_ship_41 5 rfl ?_
          refine xj_iconst (v := 0) C d_Mo_ship_43 rfl ?_
          refine xj_iconst (v := 2) C d_Mo_ship_44 rfl ?_
          obtain ⟨o18, ho18, hf⟩ := xb_some hf
          refine xj_callSi (rest := [.ref (ad 0)]) C (c_Mo_in N ho18) Y_Mo_in i_Mo_78 (by decide) ⟨rfl, rfl⟩ rfl rfl (Nat.le_of_ble_eq_true rfl) d_Mo_ship_45 (fun q h => Or.inl h) ?_
          refine xj_if_ne (tgt := 55) C d_Mo_ship_48 (by decide) (fun h9 => ?_) (fun h9 => ?_)
          · have hf := xi_neg h9 hf
            refine xj_aload_n C d_Mo_ship_55 rfl 0 rfl ?_
            refine xj_get C g_Mo_75 0 rfl rfl d_Mo_ship_56 ?_
            refine xj_iconst (v := 4) C d_Mo_ship_59 rfl ?_
            refine xj_icmp_ne (tgt := 67) C d_Mo_ship_60 (by decide) (fun h9 => ?_) (fun h9 => ?_)
            · have hf := xi_neg h9 hf
              refine xj_iconst (v := 0) C d_Mo_ship_67 rfl ?_
              exact xj_lv [0, 1, 2, 3, 4, 5] rfl (w_Mo_ship_68 N C hr x1 x2 x3 x4 x5 0 o18.2 hf)
            · have hf := xi_pos h9 hf
              refine xj_iconst (v := 2) C d_Mo_ship_63 rfl ?_
              refine xj_goto (tgt := 68) C d_Mo_ship_64 (by decide) ?_
              exact xj_lv [0, 1, 2, 3, 4, 5] rfl (w_Mo_ship_68 N C hr x1 x2 x3 x4 x5 2 o18.2 hf)
          · have hf := xi_pos h9 hf
            exact xj_lv [0, 1, 2, 3, 4, 5] rfl (w_Mo_ship_51 N C hr x1 x2 x3 x4 x5 o18.2 hf)
set_option maxHeartbeats 4000000 in
set_option maxRecDepth 20000 in
theorem c_Mo_closed {l : Launch} {D : va_G} {ad : Nat → Nat} {cI : ClassId × ClassId} (N : (LM ad).Nodup) {x1 x2 x3 : Int32} {st : St} {out : Int32 × St} (hf : f_Mo_closed x1 x2 x3 st = some out) : xMi l y_Mo_closed b_Mo_closed 4 (some .boolean) rm_Mo_closed D (tyM cI) (WM ad cI) (LM ad) [.ref (ad 0), .int x1, .int x2, .int x3] st out := by
  intro sz
  refine xM_of (L := LM ad) (by decide) (Nat.le_of_ble_eq_true rfl) (fun p e s m below meth c hsz hr C => ?_)
  show j_i p l e rm_Mo_closed s m _ below meth c sz D (WM ad cI) (LM ad) out 4 (WM ad cI st) [(0, .ref (ad 0)), (1, .int x1), (2, .int x2), (3, .int x3)] 0 []
  unfold f_Mo_closed at hf
  refine xj_aload_n C d_Mo_closed_0 rfl 0 rfl ?_
  refine xj_iconst (v := 0) C d_Mo_closed_1 rfl ?_
  obtain ⟨s1, es1, hf⟩ := xlet_ex hf
  refine xj_put (ws' := WM ad cI s1) C g_Mo_69 gw_Mo_thrown (WM_D N sz _) 0 rfl rfl rfl (Nat.le_of_ble_eq_true rfl) d_Mo_closed_2 (by rw [es1]; rfl) ?_
  refine xj_aload_n C d_Mo_closed_5 rfl 0 rfl ?_
  refine xj_iload_n C d_Mo_closed_6 rfl 1 rfl ?_
  obtain ⟨o2, ho2, hf⟩ := xb_some hf
  refine xj_callVi (rest := []) C (c_Mo_isChamber N ho2) Y_Mo_isChamber i_Mo_86 0 rfl rfl (by decide) ⟨rfl, rfl⟩ rfl rfl (Nat.le_of_ble_eq_true rfl) d_Mo_closed_7 (fun q h => Or.inl h) ?_
  refine xj_if_eq (tgt := 49) C d_Mo_closed_10 (by decide) (fun h9 => ?_) (fun h9 => ?_)
  · have hf := xi_pos h9 hf
    refine xj_iconst (v := 0) C d_Mo_closed_49 rfl ?_
    exact xj_zret C hr rfl hf d_Mo_closed_50
  · have hf := xi_neg h9 hf
    refine xj_iload_n C d_Mo_closed_13 rfl 2 rfl ?_
    refine xj_iconst (v := 0) C d_Mo_closed_14 rfl ?_
    refine xj_sipush (v := 10000) C d_Mo_closed_15 rfl ?_
    obtain ⟨o3, ho3, hf⟩ := xb_some hf
    refine xj_callSi (rest := []) C (c_Mo_in N ho3) Y_Mo_in i_Mo_78 (by decide) ⟨rfl, rfl⟩ rfl rfl (Nat.le_of_ble_eq_true rfl) d_Mo_closed_18 (fun q h => Or.inl h) ?_
    refine xj_if_eq (tgt := 49) C d_Mo_closed_21 (by decide) (fun h9 => ?_) (fun h9 => ?_)
    · have hf := xi_pos h9 hf
      refine xj_iconst (v := 0) C d_Mo_closed_49 rfl ?_
      exact xj_zret C hr rfl hf d_Mo_closed_50
    · have hf := xi_neg h9 hf
      refine xj_iload_n C d_Mo_closed_24 rfl 3 rfl ?_
      refine xj_iconst (v := 0) C d_Mo_closed_25 rfl ?_
      refine xj_sipush (v := 10000) C d_Mo_closed_26 rfl ?_
      obtain ⟨o4, ho4, hf⟩ := xb_some hf
      refine xj_callSi (rest := []) C (c_Mo_in N ho4) Y_Mo_in i_Mo_78 (by decide) ⟨rfl, rfl⟩ rfl rfl (Nat.le_of_ble_eq_true rfl) d_Mo_closed_29 (fun q h => Or.inl h) ?_
      refine xj_if_eq (tgt := 49) C d_Mo_closed_32 (by decide) (fun h9 => ?_) (fun h9 => ?_)
      · have hf := xi_pos h9 hf
        refine xj_iconst (v := 0) C d_Mo_closed_49 rfl ?_
        exact xj_zret C hr rfl hf d_Mo_closed_50
      · have hf := xi_neg h9 hf
        refine xj_iload_n C d_Mo_closed_35 rfl 2 rfl ?_
        refine xj_iload_n C d_Mo_closed_36 rfl 3 rfl ?_
        refine xj_icmp_ge (tgt := 49) C d_Mo_closed_37 (by decide) (fun h9 => ?_) (fun h9 => ?_)
        · have hf := xi_pos h9 hf
          refine xj_iconst (v := 0) C d_Mo_closed_49 rfl ?_
          exact xj_zret C hr rfl hf d_Mo_closed_50
        · have hf := xi_neg h9 hf
          refine xj_aload_n C d_Mo_closed_40 rfl 0 rfl ?_
          refine xj_get C g_Mo_90 0 rfl rfl d_Mo_closed_41 ?_
          refine xj_bipush (v := 8) C d_Mo_closed_44 rfl ?_
          refine xj_icmp_ne (tgt := 51) C d_Mo_closed_46 (by decide) (fun h9 => ?_) (fun h9 => ?_)
          · have hf := xi_neg h9 hf
            refine xj_aload_n C d_Mo_closed_51 rfl 0 rfl ?_
            refine xj_get C g_Mo_23 0 rfl rfl d_Mo_closed_52 ?_
            refine xj_aload_n C d_Mo_closed_55 rfl 0 rfl ?_
            refine xj_get C g_Mo_90 0 rfl rfl d_Mo_closed_56 ?_
            refine xj_iload_n C d_Mo_closed_59 rfl 1 rfl ?_
            obtain ⟨g5, hf⟩ := xb_guard hf
            obtain ⟨s6, es6, hf⟩ := xlet_ex hf
            refine xj_iast (ws' := WM ad cI s6) C (WM_D N sz _) 4 0 rfl rfl g5 d_Mo_closed_60 (by rw [es6]; rfl) ?_
            refine xj_aload_n C d_Mo_closed_61 rfl 0 rfl ?_
            refine xj_get C g_Mo_26 0 rfl rfl d_Mo_closed_62 ?_
            refine xj_aload_n C d_Mo_closed_65 rfl 0 rfl ?_
            refine xj_get C g_Mo_90 0 rfl rfl d_Mo_closed_66 ?_
            refine xj_iload_n C d_Mo_closed_69 rfl 2 rfl ?_
            obtain ⟨g7, hf⟩ := xb_guard hf
            obtain ⟨s8, es8, hf⟩ := xlet_ex hf
            refine xj_iast (ws' := WM ad cI s8) C (WM_D N sz _) 5 0 rfl rfl g7 d_Mo_closed_70 (by rw [es8]; rfl) ?_
            refine xj_aload_n C d_Mo_closed_71 rfl 0 rfl ?_
            refine xj_get C g_Mo_29 0 rfl rfl d_Mo_closed_72 ?_
            refine xj_aload_n C d_Mo_closed_75 rfl 0 rfl ?_
            refine xj_get C g_Mo_90 0 rfl rfl d_Mo_closed_76 ?_
            refine xj_iload_n C d_Mo_closed_79 rfl 3 rfl ?_
            obtain ⟨g9, hf⟩ := xb_guard hf
            obtain ⟨s10, es10, hf⟩ := xlet_ex hf
            refine xj_iast (ws' := WM ad cI s10) C (WM_D N sz _) 6 0 rfl rfl g9 d_Mo_closed_80 (by rw [es10]; rfl) ?_
            refine xj_aload_n C d_Mo_closed_81 rfl 0 rfl ?_
            refine xj_dup C d_Mo_closed_82 rfl ?_
            refine xj_get C g_Mo_90 0 rfl rfl d_Mo_closed_83 ?_
            refine xj_iconst (v := 1) C d_Mo_closed_86 rfl ?_
            refine xj_iadd C d_Mo_closed_87 ?_
            obtain ⟨s11, es11, hf⟩ := xlet_ex hf
            refine xj_put (ws' := WM ad cI s11) C g_Mo_90 gw_Mo_spans (WM_D N sz _) 0 rfl rfl rfl (Nat.le_of_ble_eq_true rfl) d_Mo_closed_88 (by rw [es11]; rfl) ?_
            refine xj_aload_n C d_Mo_closed_91 rfl 0 rfl ?_
            refine xj_iconst (v := 0) C d_Mo_closed_92 rfl ?_
            obtain ⟨s12, es12, hf⟩ := xlet_ex hf
            refine xj_put (ws' := WM ad cI s12) C g_Mo_82 gw_Mo_isPlan (WM_D N sz _) 0 rfl rfl rfl (Nat.le_of_ble_eq_true rfl) d_Mo_closed_93 (by rw [es12]; rfl) ?_
            refine xj_iconst (v := 1) C d_Mo_closed_96 rfl ?_
            exact xj_zret C hr rfl hf d_Mo_closed_97
          · have hf := xi_pos h9 hf
            refine xj_iconst (v := 0) C d_Mo_closed_49 rfl ?_
            exact xj_zret C hr rfl hf d_Mo_closed_50
set_option maxHeartbeats 4000000 in
set_option maxRecDepth 20000 in
theorem c_Mo_rule {l : Launch} {D : va_G} {ad : Nat → Nat} {cI : ClassId × ClassId} (N : (LM ad).Nodup) {x1 x2 : Int32} {st : St} {out : Int32 × St} (hf : f_Mo_rule x1 x2 st = some out) : xMi l y_Mo_rule b_Mo_rule 3 (some .boolean) rm_Mo_rule D (tyM cI) (WM ad cI) (LM ad) [.ref (ad 0), .int x1, .int x2] st out := by
  intro sz
  refine xM_of (L := LM ad) (by decide) (Nat.le_of_ble_eq_true rfl) (fun p e s m below meth c hsz hr C => ?_)
  show j_i p l e rm_Mo_rule s m _ below meth c sz D (WM ad cI) (LM ad) out 3 (WM ad cI st) [(0, .ref (ad 0)), (1, .int x1), (2, .int x2)] 0 []
  unfold f_Mo_rule at hf
  refine xj_aload_n C d_Mo_rule_0 rfl 0 rfl ?_
  refine xj_iconst (v := 0) C d_Mo_rule_1 rfl ?_
  obtain ⟨s1, es1, hf⟩ := xlet_ex hf
  refine xj_put (ws' := WM ad cI s1) C g_Mo_69 gw_Mo_thrown (WM_D N sz _) 0 rfl rfl rfl (Nat.le_of_ble_eq_true rfl) d_Mo_rule_2 (by rw [es1]; rfl) ?_
  refine xj_iload_n C d_Mo_rule_5 rfl 1 rfl ?_
  refine xj_iconst (v := 0) C d_Mo_rule_6 rfl ?_
  refine xj_iconst (v := 3) C d_Mo_rule_7 rfl ?_
  obtain ⟨o2, ho2, hf⟩ := xb_some hf
  refine xj_callSi (rest := []) C (c_Mo_in N ho2) Y_Mo_in i_Mo_78 (by decide) ⟨rfl, rfl⟩ rfl rfl (Nat.le_of_ble_eq_true rfl) d_Mo_rule_8 (fun q h => Or.inl h) ?_
  refine xj_if_eq (tgt := 23) C d_Mo_rule_11 (by decide) (fun h9 => ?_) (fun h9 => ?_)
  · have hf := xi_pos h9 hf
    refine xj_iconst (v := 0) C d_Mo_rule_23 rfl ?_
    exact xj_zret C hr rfl hf d_Mo_rule_24
  · have hf := xi_neg h9 hf
    refine xj_iload_n C d_Mo_rule_14 rfl 2 rfl ?_
    refine xj_iconst (v := 0) C d_Mo_rule_15 rfl ?_
    refine xj_iconst (v := 3) C d_Mo_rule_16 rfl ?_
    obtain ⟨o3, ho3, hf⟩ := xb_some hf
    refine xj_callSi (rest := []) C (c_Mo_in N ho3) Y_Mo_in i_Mo_78 (by decide) ⟨rfl, rfl⟩ rfl rfl (Nat.le_of_ble_eq_true rfl) d_Mo_rule_17 (fun q h => Or.inl h) ?_
    refine xj_if_ne (tgt := 25) C d_Mo_rule_20 (by decide) (fun h9 => ?_) (fun h9 => ?_)
    · have hf := xi_neg h9 hf
      refine xj_aload_n C d_Mo_rule_25 rfl 0 rfl ?_
      refine xj_iload_n C d_Mo_rule_26 rfl 1 rfl ?_
      obtain ⟨s4, es4, hf⟩ := xlet_ex hf
      refine xj_put (ws' := WM ad cI s4) C g_Mo_93 gw_Mo_gap (WM_D N sz _) 0 rfl rfl rfl (Nat.le_of_ble_eq_true rfl) d_Mo_rule_27 (by rw [es4]; rfl) ?_
      refine xj_aload_n C d_Mo_rule_30 rfl 0 rfl ?_
      refine xj_iload_n C d_Mo_rule_31 rfl 2 rfl ?_
      obtain ⟨s5, es5, hf⟩ := xlet_ex hf
      refine xj_put (ws' := WM ad cI s5) C g_Mo_7 gw_Mo_over (WM_D N sz _) 0 rfl rfl rfl (Nat.le_of_ble_eq_true rfl) d_Mo_rule_32 (by rw [es5]; rfl) ?_
      refine xj_aload_n C d_Mo_rule_35 rfl 0 rfl ?_
      refine xj_iconst (v := 0) C d_Mo_rule_36 rfl ?_
      obtain ⟨s6, es6, hf⟩ := xlet_ex hf
      refine xj_put (ws' := WM ad cI s6) C g_Mo_82 gw_Mo_isPlan (WM_D N sz _) 0 rfl rfl rfl (Nat.le_of_ble_eq_true rfl) d_Mo_rule_37 (by rw [es6]; rfl) ?_
      refine xj_iconst (v := 1) C d_Mo_rule_40 rfl ?_
      exact xj_zret C hr rfl hf d_Mo_rule_41
    · have hf := xi_pos h9 hf
      refine xj_iconst (v := 0) C d_Mo_rule_23 rfl ?_
      exact xj_zret C hr rfl hf d_Mo_rule_24
set_option maxHeartbeats 4000000 in
set_option maxRecDepth 20000 in
theorem w_Mo_mayLie_227 {p : Program} {l : Launch} {e : Env} {s : State} {m : MethodId} {args : Array Value} {below : List Frame} {meth : Method} {c : Code} {sz : Nat} {D : va_G} {ad : Nat → Nat} {cI : ClassId × ClassId} {out : Int32 × St} (N : (LM ad).Nodup) (C : xC p s m args meth c (xA (LM ad) sz) D 11 (tyM cI) b_Mo_mayLie R_Mo) (hr : meth.sig.returnType = (some .boolean)) {K97 : Int32 → Int32 → Int32 → Int32 → Int32 → St → Option (Int32 × St)} (hK97 : ∀ (x2 x3 x5 x6 x7 : Int32) (st : St), K97 x2 x3 x5 x6 x7 st = some out → j_i p l e rm_Mo_mayLie s m args below meth c sz D (WM ad cI) (LM ad) out 11 (WM ad cI st) [(0, .ref (ad 0)), (2, .int x2), (3, .int x3), (5, .int x5), (6, .int x6), (7, .int x7)] 97 []) (x2 x3 x5 x6 x7 : Int32) (st : St) (hf : f_Mo_mayLie_227 K97 x2 x3 x5 x6 x7 st = some out) : j_i p l e rm_Mo_mayLie s m args below meth c sz D (WM ad cI) (LM ad) out 11 (WM ad cI st) [(0, .ref (ad 0)), (2, .int x2), (3, .int x3), (5, .int x5), (6, .int x6), (7, .int x7)] 227 [] := by
  unfold f_Mo_mayLie_227 at hf
  refine xj_iinc (v := x7 + 1) (j := 5) C d_Mo_mayLie_227 rfl rfl (by decide) rfl ?_
  refine xj_goto (tgt := 97) C d_Mo_mayLie_230 (by decide) ?_
  exact xj_lv [1, 2, 3, 4, 5, 0] rfl (hK97 x2 x3 x5 x6 (x7 + 1) st hf)
set_option maxHeartbeats 4000000 in
set_option maxRecDepth 20000 in
theorem w_Mo_mayLie_208 {p : Program} {l : Launch} {e : Env} {s : State} {m : MethodId} {args : Array Value} {below : List Frame} {meth : Method} {c : Code} {sz : Nat} {D : va_G} {ad : Nat → Nat} {cI : ClassId × ClassId} {out : Int32 × St} (N : (LM ad).Nodup) (C : xC p s m args meth c (xA (LM ad) sz) D 11 (tyM cI) b_Mo_mayLie R_Mo) (hr : meth.sig.returnType = (some .boolean)) {K97 : Int32 → Int32 → Int32 → Int32 → Int32 → St → Option (Int32 × St)} (hK97 : ∀ (x2 x3 x5 x6 x7 : Int32) (st : St), K97 x2 x3 x5 x6 x7 st = some out → j_i p l e rm_Mo_mayLie s m args below meth c sz D (WM ad cI) (LM ad) out 11 (WM ad cI st) [(0, .ref (ad 0)), (2, .int x2), (3, .int x3), (5, .int x5), (6, .int x6), (7, .int x7)] 97 []) (x2 x3 x5 x6 x7 y0 : Int32) (st : St) (hf : f_Mo_mayLie_208 K97 x2 x3 x5 x6 x7 y0 st = some out) : j_i p l e rm_Mo_mayLie s m args below meth c sz D (WM ad cI) (LM ad) out 11 (WM ad cI st) [(0, .ref (ad 0)), (2, .int x2), (3, .int x3), (5, .int x5), (6, .int x6), (7, .int x7)] 208 [.int y0] := by
  unfold f_Mo_mayLie_208 at hf
  refine xj_istore C d_Mo_mayLie_208 (by decide) rfl ?_
  refine xj_iload_n C d_Mo_mayLie_210 rfl 2 rfl ?_
  refine xj_iload C d_Mo_mayLie_211 6 rfl ?_
  refine xj_ishr C d_Mo_mayLie_213 ?_
  refine xj_iconst (v := 1) C d_Mo_mayLie_214 rfl ?_
  refine xj_iand C d_Mo_mayLie_215 ?_
  refine xj_iconst (v := 1) C d_Mo_mayLie_216 rfl ?_
  refine xj_icmp_ne (tgt := 227) C d_Mo_mayLie_217 (by decide) (fun h9 => ?_) (fun h9 => ?_)
  · have hf := xi_neg h9 hf
    exact xj_lv [1, 2, 3, 4, 5, 6] rfl (w_Mo_mayLie_227 N C hr hK97 x2 x3 x5 x6 x7 st hf)
  · have hf := xi_pos h9 hf
    refine xj_iload C d_Mo_mayLie_220 0 rfl ?_
    refine xj_if_ne (tgt := 227) C d_Mo_mayLie_222 (by decide) (fun h9 => ?_) (fun h9 => ?_)
    · have hf := xi_neg h9 hf
      exact xj_lv [1, 2, 3, 4, 5, 6] rfl (w_Mo_mayLie_227 N C hr hK97 x2 x3 x5 x6 x7 st hf)
    · have hf := xi_pos h9 hf
      refine xj_iconst (v := 0) C d_Mo_mayLie_225 rfl ?_
      exact xj_zret C hr rfl hf d_Mo_mayLie_226
set_option maxHeartbeats 4000000 in
set_option maxRecDepth 20000 in
theorem w_Mo_mayLie_203 {p : Program} {l : Launch} {e : Env} {s : State} {m : MethodId} {args : Array Value} {below : List Frame} {meth : Method} {c : Code} {sz : Nat} {D : va_G} {ad : Nat → Nat} {cI : ClassId × ClassId} {out : Int32 × St} (N : (LM ad).Nodup) (C : xC p s m args meth c (xA (LM ad) sz) D 11 (tyM cI) b_Mo_mayLie R_Mo) (hr : meth.sig.returnType = (some .boolean)) {K97 : Int32 → Int32 → Int32 → Int32 → Int32 → St → Option (Int32 × St)} (hK97 : ∀ (x2 x3 x5 x6 x7 : Int32) (st : St), K97 x2 x3 x5 x6 x7 st = some out → j_i p l e rm_Mo_mayLie s m args below meth c sz D (WM ad cI) (LM ad) out 11 (WM ad cI st) [(0, .ref (ad 0)), (2, .int x2), (3, .int x3), (5, .int x5), (6, .int x6), (7, .int x7)] 97 []) (x2 x3 x5 x6 x7 : Int32) (st : St) (hf : f_Mo_mayLie_203 K97 x2 x3 x5 x6 x7 st = some out) : j_i p l e rm_Mo_mayLie s m args below meth c sz D (WM ad cI) (LM ad) out 11 (WM ad cI st) [(0, .ref (ad 0)), (2, .int x2), (3, .int x3), (5, .int x5), (6, .int x6), (7, .int x7)] 203 [] := by
  unfold f_Mo_mayLie_203 at hf
  refine xj_iconst (v := 1) C d_Mo_mayLie_203 rfl ?_
  refine xj_goto (tgt := 208) C d_Mo_mayLie_204 (by decide) ?_
  exact xj_lv [0, 1, 2, 3, 4, 5] rfl (w_Mo_mayLie_208 N C hr hK97 x2 x3 x5 x6 x7 1 st hf)
set_option maxHeartbeats 4000000 in
set_option maxRecDepth 20000 in
theorem wb_Mo_mayLie_97 {p : Program} {l : Launch} {e : Env} {s : State} {m : MethodId} {args : Array Value} {below : List Frame} {meth : Method} {c : Code} {sz : Nat} {D : va_G} {ad : Nat → Nat} {cI : ClassId × ClassId} {out : Int32 × St} (N : (LM ad).Nodup) (C : xC p s m args meth c (xA (LM ad) sz) D 11 (tyM cI) b_Mo_mayLie R_Mo) (hr : meth.sig.returnType = (some .boolean)) {K97 : Int32 → Int32 → Int32 → Int32 → Int32 → St → Option (Int32 × St)} (hK97 : ∀ (x2 x3 x5 x6 x7 : Int32) (st : St), K97 x2 x3 x5 x6 x7 st = some out → j_i p l e rm_Mo_mayLie s m args below meth c sz D (WM ad cI) (LM ad) out 11 (WM ad cI st) [(0, .ref (ad 0)), (2, .int x2), (3, .int x3), (5, .int x5), (6, .int x6), (7, .int x7)] 97 []) (x2 x3 x5 x6 x7 : Int32) (st : St) (hf : b_Mo_mayLie_97 K97 x2 x3 x5 x6 x7 st = some out) : j_i p l e rm_Mo_mayLie s m args below meth c sz D (WM ad cI) (LM ad) out 11 (WM ad cI st) [(0, .ref (ad 0)), (2, .int x2), (3, .int x3), (5, .int x5), (6, .int x6), (7, .int x7)] 97 [] := by
  unfold b_Mo_mayLie_97 at hf
  refine xj_iload C d_Mo_mayLie_97 5 rfl ?_
  refine xj_iload_n C d_Mo_mayLie_99 rfl 2 rfl ?_
  refine xj_icmp_ge (tgt := 233) C d_Mo_mayLie_100 (by decide) (fun h9 => ?_) (fun h9 => ?_)
  · have hf := xi_pos h9 hf
    refine xj_iconst (v := 1) C d_Mo_mayLie_233 rfl ?_
    exact xj_zret C hr rfl hf d_Mo_mayLie_234
  · have hf := xi_neg h9 hf
    refine xj_aload_n C d_Mo_mayLie_103 rfl 0 rfl ?_
    refine xj_get C g_Mo_47 0 rfl rfl d_Mo_mayLie_104 ?_
    refine xj_iload C d_Mo_mayLie_107 5 rfl ?_
    obtain ⟨g9, hf⟩ := xb_guard hf
    refine xj_iald C 12 0 rfl rfl g9 d_Mo_mayLie_109 ?_
    refine xj_iconst (v := 3) C d_Mo_mayLie_110 rfl ?_
    refine xj_idiv C d_Mo_mayLie_111 (by decide) ?_
    refine xj_topi (fun v10 ev10 => ?_)
    have hf := xlet_at ev10 hf
    refine xj_istore C d_Mo_mayLie_112 (by decide) rfl ?_
    refine xj_aload_n C d_Mo_mayLie_114 rfl 1 rfl ?_
    refine xj_get C g_Mo_47 0 rfl rfl d_Mo_mayLie_115 ?_
    refine xj_iload C d_Mo_mayLie_118 6 rfl ?_
    obtain ⟨g11, hf⟩ := xb_guard hf
    refine xj_iald C 12 0 rfl rfl g11 d_Mo_mayLie_120 ?_
    refine xj_iconst (v := 3) C d_Mo_mayLie_121 rfl ?_
    refine xj_irem C d_Mo_mayLie_122 (by decide) ?_
    refine xj_topi (fun v12 ev12 => ?_)
    have hf := xlet_at ev12 hf
    refine xj_istore C d_Mo_mayLie_123 (by decide) rfl ?_
    refine xj_iload C d_Mo_mayLie_125 5 rfl ?_
    refine xj_aload_n C d_Mo_mayLie_127 rfl 2 rfl ?_
    refine xj_get C g_Mo_32 0 rfl rfl d_Mo_mayLie_128 ?_
    refine xj_iload_n C d_Mo_mayLie_131 rfl 4 rfl ?_
    obtain ⟨g13, hf⟩ := xb_guard hf
    refine xj_iald C 7 0 rfl rfl g13 d_Mo_mayLie_132 ?_
    refine xj_iadd C d_Mo_mayLie_133 ?_
    refine xj_aload_n C d_Mo_mayLie_134 rfl 2 rfl ?_
    refine xj_get C g_Mo_93 0 rfl rfl d_Mo_mayLie_135 ?_
    refine xj_iadd C d_Mo_mayLie_138 ?_
    refine xj_iload C d_Mo_mayLie_139 1 rfl ?_
    refine xj_icmp_le (tgt := 203) C d_Mo_mayLie_141 (by decide) (fun h9 => ?_) (fun h9 => ?_)
    · have hf := xi_pos h9 hf
      exact xj_lv [2, 3, 4, 5, 6, 7] rfl (w_Mo_mayLie_203 N C hr hK97 x2 x3 x5 x6 x7 st hf)
    · have hf := xi_neg h9 hf
      refine xj_iload C d_Mo_mayLie_144 1 rfl ?_
      refine xj_aload_n C d_Mo_mayLie_146 rfl 2 rfl ?_
      refine xj_get C g_Mo_32 0 rfl rfl d_Mo_mayLie_147 ?_
      refine xj_iload C d_Mo_mayLie_150 7 rfl ?_
      obtain ⟨g14, hf⟩ := xb_guard hf
      refine xj_iald C 7 0 rfl rfl g14 d_Mo_mayLie_152 ?_
      refine xj_iadd C d_Mo_mayLie_153 ?_
      refine xj_aload_n C d_Mo_mayLie_154 rfl 2 rfl ?_
      refine xj_get C g_Mo_93 0 rfl rfl d_Mo_mayLie_155 ?_
      refine xj_iadd C d_Mo_mayLie_158 ?_
      refine xj_iload C d_Mo_mayLie_159 5 rfl ?_
      refine xj_icmp_le (tgt := 203) C d_Mo_mayLie_161 (by decide) (fun h9 => ?_) (fun h9 => ?_)
      · have hf := xi_pos h9 hf
        exact xj_lv [2, 3, 4, 5, 6, 7] rfl (w_Mo_mayLie_203 N C hr hK97 x2 x3 x5 x6 x7 st hf)
      · have hf := xi_neg h9 hf
        refine xj_iload C d_Mo_mayLie_164 6 rfl ?_
        refine xj_aload_n C d_Mo_mayLie_166 rfl 2 rfl ?_
        refine xj_get C g_Mo_35 0 rfl rfl d_Mo_mayLie_167 ?_
        refine xj_iload_n C d_Mo_mayLie_170 rfl 4 rfl ?_
        obtain ⟨g15, hf⟩ := xb_guard hf
        refine xj_iald C 8 0 rfl rfl g15 d_Mo_mayLie_171 ?_
        refine xj_iadd C d_Mo_mayLie_172 ?_
        refine xj_aload_n C d_Mo_mayLie_173 rfl 2 rfl ?_
        refine xj_get C g_Mo_93 0 rfl rfl d_Mo_mayLie_174 ?_
        refine xj_iadd C d_Mo_mayLie_177 ?_
        refine xj_iload C d_Mo_mayLie_178 0 rfl ?_
        refine xj_icmp_le (tgt := 203) C d_Mo_mayLie_180 (by decide) (fun h9 => ?_) (fun h9 => ?_)
        · have hf := xi_pos h9 hf
          exact xj_lv [2, 3, 4, 5, 6, 7] rfl (w_Mo_mayLie_203 N C hr hK97 x2 x3 x5 x6 x7 st hf)
        · have hf := xi_neg h9 hf
          refine xj_iload C d_Mo_mayLie_183 0 rfl ?_
          refine xj_aload_n C d_Mo_mayLie_185 rfl 2 rfl ?_
          refine xj_get C g_Mo_35 0 rfl rfl d_Mo_mayLie_186 ?_
          refine xj_iload C d_Mo_mayLie_189 7 rfl ?_
          obtain ⟨g16, hf⟩ := xb_guard hf
          refine xj_iald C 8 0 rfl rfl g16 d_Mo_mayLie_191 ?_
          refine xj_iadd C d_Mo_mayLie_192 ?_
          refine xj_aload_n C d_Mo_mayLie_193 rfl 2 rfl ?_
          refine xj_get C g_Mo_93 0 rfl rfl d_Mo_mayLie_194 ?_
          refine xj_iadd C d_Mo_mayLie_197 ?_
          refine xj_iload C d_Mo_mayLie_198 6 rfl ?_
          refine xj_icmp_gt (tgt := 207) C d_Mo_mayLie_200 (by decide) (fun h9 => ?_) (fun h9 => ?_)
          · have hf := xi_pos h9 hf
            refine xj_iconst (v := 0) C d_Mo_mayLie_207 rfl ?_
            exact xj_lv [2, 3, 4, 5, 6, 7] rfl (w_Mo_mayLie_208 N C hr hK97 x2 x3 x5 x6 x7 0 st hf)
          · have hf := xi_neg h9 hf
            exact xj_lv [2, 3, 4, 5, 6, 7] rfl (w_Mo_mayLie_203 N C hr hK97 x2 x3 x5 x6 x7 st hf)
set_option maxHeartbeats 4000000 in
set_option maxRecDepth 20000 in
theorem w_Mo_mayLie_97 {p : Program} {l : Launch} {e : Env} {s : State} {m : MethodId} {args : Array Value} {below : List Frame} {meth : Method} {c : Code} {sz : Nat} {D : va_G} {ad : Nat → Nat} {cI : ClassId × ClassId} {out : Int32 × St} (N : (LM ad).Nodup) (C : xC p s m args meth c (xA (LM ad) sz) D 11 (tyM cI) b_Mo_mayLie R_Mo) (hr : meth.sig.returnType = (some .boolean)) (n : Nat) : ∀ (x2 x3 x5 x6 x7 : Int32) (st : St), f_Mo_mayLie_97 n x2 x3 x5 x6 x7 st = some out → j_i p l e rm_Mo_mayLie s m args below meth c sz D (WM ad cI) (LM ad) out 11 (WM ad cI st) [(0, .ref (ad 0)), (2, .int x2), (3, .int x3), (5, .int x5), (6, .int x6), (7, .int x7)] 97 [] := by
  induction n with
  | zero => intro x2 x3 x5 x6 x7 st hf; exact absurd (show (none : Option (Int32 × St)) = some out from hf) (fun h => by cases h)
  | succ n ih => intro x2 x3 x5 x6 x7 st hf; exact wb_Mo_mayLie_97 N C hr ih x2 x3 x5 x6 x7 st hf
set_option maxHeartbeats 4000000 in
set_option maxRecDepth 20000 in
theorem w_Mo_mayLie_94 {p : Program} {l : Launch} {e : Env} {s : State} {m : MethodId} {args : Array Value} {below : List Frame} {meth : Method} {c : Code} {sz : Nat} {D : va_G} {ad : Nat → Nat} {cI : ClassId × ClassId} {out : Int32 × St} (N : (LM ad).Nodup) (C : xC p s m args meth c (xA (LM ad) sz) D 11 (tyM cI) b_Mo_mayLie R_Mo) (hr : meth.sig.returnType = (some .boolean)) (x2 x3 x5 x6 : Int32) (st : St) (hf : f_Mo_mayLie_94 x2 x3 x5 x6 st = some out) : j_i p l e rm_Mo_mayLie s m args below meth c sz D (WM ad cI) (LM ad) out 11 (WM ad cI st) [(0, .ref (ad 0)), (2, .int x2), (3, .int x3), (5, .int x5), (6, .int x6)] 94 [] := by
  unfold f_Mo_mayLie_94 at hf
  refine xj_iconst (v := 0) C d_Mo_mayLie_94 rfl ?_
  refine xj_istore C d_Mo_mayLie_95 (by decide) rfl ?_
  exact xj_lv [1, 2, 3, 4, 5, 0] rfl (w_Mo_mayLie_97 N C hr 40 x2 x3 x5 x6 0 st hf)
set_option maxHeartbeats 4000000 in
set_option maxRecDepth 20000 in
theorem w_Mo_mayLie_64 {p : Program} {l : Launch} {e : Env} {s : State} {m : MethodId} {args : Array Value} {below : List Frame} {meth : Method} {c : Code} {sz : Nat} {D : va_G} {ad : Nat → Nat} {cI : ClassId × ClassId} {out : Int32 × St} (N : (LM ad).Nodup) (C : xC p s m args meth c (xA (LM ad) sz) D 11 (tyM cI) b_Mo_mayLie R_Mo) (hr : meth.sig.returnType = (some .boolean)) (x1 x2 x3 x5 x6 : Int32) (st : St) (hf : f_Mo_mayLie_64 x1 x2 x3 x5 x6 st = some out) : j_i p l e rm_Mo_mayLie s m args below meth c sz D (WM ad cI) (LM ad) out 11 (WM ad cI st) [(0, .ref (ad 0)), (1, .int x1), (2, .int x2), (3, .int x3), (5, .int x5), (6, .int x6)] 64 [] := by
  unfold f_Mo_mayLie_64 at hf
  refine xj_aload_n C d_Mo_mayLie_64 rfl 0 rfl ?_
  refine xj_get C g_Mo_44 0 rfl rfl d_Mo_mayLie_65 ?_
  refine xj_iload_n C d_Mo_mayLie_68 rfl 3 rfl ?_
  obtain ⟨g8, hf⟩ := xb_guard hf
  refine xj_iald C 11 0 rfl rfl g8 d_Mo_mayLie_69 ?_
  refine xj_iconst (v := 1) C d_Mo_mayLie_70 rfl ?_
  refine xj_icmp_ne (tgt := 94) C d_Mo_mayLie_71 (by decide) (fun h9 => ?_) (fun h9 => ?_)
  · have hf := xi_neg h9 hf
    exact xj_lv [0, 2, 3, 4, 5] rfl (w_Mo_mayLie_94 N C hr x2 x3 x5 x6 st hf)
  · have hf := xi_pos h9 hf
    refine xj_iload C d_Mo_mayLie_74 5 rfl ?_
    refine xj_aload_n C d_Mo_mayLie_76 rfl 0 rfl ?_
    refine xj_get C g_Mo_35 0 rfl rfl d_Mo_mayLie_77 ?_
    refine xj_iload_n C d_Mo_mayLie_80 rfl 3 rfl ?_
    obtain ⟨g17, hf⟩ := xb_guard hf
    refine xj_iald C 8 0 rfl rfl g17 d_Mo_mayLie_81 ?_
    refine xj_iadd C d_Mo_mayLie_82 ?_
    refine xj_aload_n C d_Mo_mayLie_83 rfl 0 rfl ?_
    refine xj_get C g_Mo_17 0 rfl rfl d_Mo_mayLie_84 ?_
    refine xj_iload_n C d_Mo_mayLie_87 rfl 1 rfl ?_
    obtain ⟨g18, hf⟩ := xb_guard hf
    refine xj_iald C 2 0 rfl rfl g18 d_Mo_mayLie_88 ?_
    refine xj_icmp_eq (tgt := 94) C d_Mo_mayLie_89 (by decide) (fun h9 => ?_) (fun h9 => ?_)
    · have hf := xi_pos h9 hf
      exact xj_lv [0, 2, 3, 4, 5] rfl (w_Mo_mayLie_94 N C hr x2 x3 x5 x6 st hf)
    · have hf := xi_neg h9 hf
      refine xj_iconst (v := 0) C d_Mo_mayLie_92 rfl ?_
      exact xj_zret C hr rfl hf d_Mo_mayLie_93
set_option maxHeartbeats 4000000 in
set_option maxRecDepth 20000 in
theorem c_Mo_mayLie {l : Launch} {D : va_G} {ad : Nat → Nat} {cI : ClassId × ClassId} (N : (LM ad).Nodup) {x1 x2 x3 x4 : Int32} {st : St} {out : Int32 × St} (hf : f_Mo_mayLie x1 x2 x3 x4 st = some out) : xMi l y_Mo_mayLie b_Mo_mayLie 11 (some .boolean) rm_Mo_mayLie D (tyM cI) (WM ad cI) (LM ad) [.ref (ad 0), .int x1, .int x2, .int x3, .int x4] st out := by
  intro sz
  refine xM_of (L := LM ad) (by decide) (Nat.le_of_ble_eq_true rfl) (fun p e s m below meth c hsz hr C => ?_)
  show j_i p l e rm_Mo_mayLie s m _ below meth c sz D (WM ad cI) (LM ad) out 11 (WM ad cI st) [(0, .ref (ad 0)), (1, .int x1), (2, .int x2), (3, .int x3), (4, .int x4)] 0 []
  unfold f_Mo_mayLie at hf
  refine xj_iload C d_Mo_mayLie_0 4 rfl ?_
  refine xj_iconst (v := 3) C d_Mo_mayLie_2 rfl ?_
  refine xj_idiv C d_Mo_mayLie_3 (by decide) ?_
  refine xj_topi (fun v1 ev1 => ?_)
  have hf := xlet_at ev1 hf
  refine xj_istore C d_Mo_mayLie_4 (by decide) rfl ?_
  refine xj_iload C d_Mo_mayLie_6 5 rfl ?_
  refine xj_iconst (v := 3) C d_Mo_mayLie_8 rfl ?_
  refine xj_irem C d_Mo_mayLie_9 (by decide) ?_
  refine xj_topi (fun v2 ev2 => ?_)
  have hf := xlet_at ev2 hf
  refine xj_istore C d_Mo_mayLie_10 (by decide) rfl ?_
  refine xj_iload C d_Mo_mayLie_12 1 rfl ?_
  refine xj_aload_n C d_Mo_mayLie_14 rfl 2 rfl ?_
  refine xj_get C g_Mo_32 0 rfl rfl d_Mo_mayLie_15 ?_
  refine xj_iload_n C d_Mo_mayLie_18 rfl 5 rfl ?_
  obtain ⟨g3, hf⟩ := xb_guard hf
  refine xj_iald C 7 0 rfl rfl g3 d_Mo_mayLie_19 ?_
  refine xj_iadd C d_Mo_mayLie_20 ?_
  refine xj_aload_n C d_Mo_mayLie_21 rfl 2 rfl ?_
  refine xj_get C g_Mo_13 0 rfl rfl d_Mo_mayLie_22 ?_
  refine xj_iload_n C d_Mo_mayLie_25 rfl 3 rfl ?_
  obtain ⟨g4, hf⟩ := xb_guard hf
  refine xj_iald C 1 0 rfl rfl g4 d_Mo_mayLie_26 ?_
  refine xj_icmp_gt (tgt := 48) C d_Mo_mayLie_27 (by decide) (fun h9 => ?_) (fun h9 => ?_)
  · have hf := xi_pos h9 hf
    refine xj_iconst (v := 0) C d_Mo_mayLie_48 rfl ?_
    exact xj_zret C hr rfl hf d_Mo_mayLie_49
  · have hf := xi_neg h9 hf
    refine xj_iload C d_Mo_mayLie_30 0 rfl ?_
    refine xj_aload_n C d_Mo_mayLie_32 rfl 2 rfl ?_
    refine xj_get C g_Mo_35 0 rfl rfl d_Mo_mayLie_33 ?_
    refine xj_iload_n C d_Mo_mayLie_36 rfl 5 rfl ?_
    obtain ⟨g5, hf⟩ := xb_guard hf
    refine xj_iald C 8 0 rfl rfl g5 d_Mo_mayLie_37 ?_
    refine xj_iadd C d_Mo_mayLie_38 ?_
    refine xj_aload_n C d_Mo_mayLie_39 rfl 2 rfl ?_
    refine xj_get C g_Mo_17 0 rfl rfl d_Mo_mayLie_40 ?_
    refine xj_iload_n C d_Mo_mayLie_43 rfl 3 rfl ?_
    obtain ⟨g6, hf⟩ := xb_guard hf
    refine xj_iald C 2 0 rfl rfl g6 d_Mo_mayLie_44 ?_
    refine xj_icmp_le (tgt := 50) C d_Mo_mayLie_45 (by decide) (fun h9 => ?_) (fun h9 => ?_)
    · have hf := xi_pos h9 hf
      refine xj_aload_n C d_Mo_mayLie_50 rfl 2 rfl ?_
      refine xj_get C g_Mo_44 0 rfl rfl d_Mo_mayLie_51 ?_
      refine xj_iload_n C d_Mo_mayLie_54 rfl 5 rfl ?_
      obtain ⟨g7, hf⟩ := xb_guard hf
      refine xj_iald C 11 0 rfl rfl g7 d_Mo_mayLie_55 ?_
      refine xj_if_ne (tgt := 64) C d_Mo_mayLie_56 (by decide) (fun h9 => ?_) (fun h9 => ?_)
      · have hf := xi_neg h9 hf
        exact xj_lv [2, 3, 4, 5, 1, 0] rfl (w_Mo_mayLie_64 N C hr x1 x2 x3 v1 v2 st hf)
      · have hf := xi_pos h9 hf
        refine xj_iload C d_Mo_mayLie_59 0 rfl ?_
        refine xj_if_gt (tgt := 92) C d_Mo_mayLie_61 (by decide) (fun h9 => ?_) (fun h9 => ?_)
        · have hf := xi_pos h9 hf
          refine xj_iconst (v := 0) C d_Mo_mayLie_92 rfl ?_
          exact xj_zret C hr rfl hf d_Mo_mayLie_93
        · have hf := xi_neg h9 hf
          exact xj_lv [2, 3, 4, 5, 1, 0] rfl (w_Mo_mayLie_64 N C hr x1 x2 x3 v1 v2 st hf)
    · have hf := xi_neg h9 hf
      refine xj_iconst (v := 0) C d_Mo_mayLie_48 rfl ?_
      exact xj_zret C hr rfl hf d_Mo_mayLie_49
set_option maxHeartbeats 4000000 in
set_option maxRecDepth 20000 in
theorem w_Mo_lay_145 {p : Program} {l : Launch} {e : Env} {s : State} {m : MethodId} {args : Array Value} {below : List Frame} {meth : Method} {c : Code} {sz : Nat} {D : va_G} {ad : Nat → Nat} {cI : ClassId × ClassId} {out : Int32 × St} (N : (LM ad).Nodup) (C : xC p s m args meth c (xA (LM ad) sz) D 7 (tyM cI) b_Mo_lay R_Mo) (hr : meth.sig.returnType = (some .boolean)) (x3 : Int32) (st : St) (hf : f_Mo_lay_145 x3 st = some out) : j_i p l e rm_Mo_lay s m args below meth c sz D (WM ad cI) (LM ad) out 7 (WM ad cI st) [(0, .ref (ad 0)), (3, .int x3)] 145 [] := by
  unfold f_Mo_lay_145 at hf
  refine xj_iload_n C d_Mo_lay_145 rfl 1 rfl ?_
  refine xj_aload_n C d_Mo_lay_146 rfl 0 rfl ?_
  refine xj_get C g_Mo_75 0 rfl rfl d_Mo_lay_147 ?_
  refine xj_icmp_ne (tgt := 157) C d_Mo_lay_150 (by decide) (fun h9 => ?_) (fun h9 => ?_)
  · have hf := xi_neg h9 hf
    refine xj_iconst (v := 0) C d_Mo_lay_157 rfl ?_
    exact xj_zret C hr rfl hf d_Mo_lay_158
  · have hf := xi_pos h9 hf
    refine xj_iconst (v := 1) C d_Mo_lay_153 rfl ?_
    refine xj_goto (tgt := 158) C d_Mo_lay_154 (by decide) ?_
    exact xj_zret C hr rfl hf d_Mo_lay_158
set_option maxHeartbeats 4000000 in
set_option maxRecDepth 20000 in
theorem w_Mo_lay_142 {p : Program} {l : Launch} {e : Env} {s : State} {m : MethodId} {args : Array Value} {below : List Frame} {meth : Method} {c : Code} {sz : Nat} {D : va_G} {ad : Nat → Nat} {cI : ClassId × ClassId} {out : Int32 × St} (N : (LM ad).Nodup) (C : xC p s m args meth c (xA (LM ad) sz) D 7 (tyM cI) b_Mo_lay R_Mo) (hr : meth.sig.returnType = (some .boolean)) {K9 : Int32 → Int32 → Int32 → St → Option (Int32 × St)} (hK9 : ∀ (x1 x2 x3 : Int32) (st : St), K9 x1 x2 x3 st = some out → j_i p l e rm_Mo_lay s m args below meth c sz D (WM ad cI) (LM ad) out 7 (WM ad cI st) [(0, .ref (ad 0)), (1, .int x1), (2, .int x2), (3, .int x3)] 9 []) (x1 x2 x3 : Int32) (st : St) (hf : f_Mo_lay_142 K9 x1 x2 x3 st = some out) : j_i p l e rm_Mo_lay s m args below meth c sz D (WM ad cI) (LM ad) out 7 (WM ad cI st) [(0, .ref (ad 0)), (1, .int x1), (2, .int x2), (3, .int x3)] 142 [] := by
  unfold f_Mo_lay_142 at hf
  refine xj_goto (tgt := 9) C d_Mo_lay_142 (by decide) ?_
  exact xj_lv [0, 1, 2, 3] rfl (hK9 x1 x2 x3 st hf)
set_option maxHeartbeats 4000000 in
set_option maxRecDepth 20000 in
theorem w_Mo_lay_128 {p : Program} {l : Launch} {e : Env} {s : State} {m : MethodId} {args : Array Value} {below : List Frame} {meth : Method} {c : Code} {sz : Nat} {D : va_G} {ad : Nat → Nat} {cI : ClassId × ClassId} {out : Int32 × St} (N : (LM ad).Nodup) (C : xC p s m args meth c (xA (LM ad) sz) D 7 (tyM cI) b_Mo_lay R_Mo) (hr : meth.sig.returnType = (some .boolean)) {K9 : Int32 → Int32 → Int32 → St → Option (Int32 × St)} (hK9 : ∀ (x1 x2 x3 : Int32) (st : St), K9 x1 x2 x3 st = some out → j_i p l e rm_Mo_lay s m args below meth c sz D (WM ad cI) (LM ad) out 7 (WM ad cI st) [(0, .ref (ad 0)), (1, .int x1), (2, .int x2), (3, .int x3)] 9 []) (x1 x2 x6 y0 y1 : Int32) (st : St) (hf : f_Mo_lay_128 K9 x1 x2 x6 y0 y1 st = some out) : j_i p l e rm_Mo_lay s m args below meth c sz D (WM ad cI) (LM ad) out 7 (WM ad cI st) [(0, .ref (ad 0)), (1, .int x1), (2, .int x2), (6, .int x6)] 128 [.int y0, .int y1] := by
  unfold f_Mo_lay_128 at hf
  refine xj_iadd C d_Mo_lay_128 ?_
  refine xj_topi (fun v7 ev7 => ?_)
  have hf := xlet_at ev7 hf
  refine xj_istore_n C d_Mo_lay_129 rfl (by decide) rfl ?_
  refine xj_iload C d_Mo_lay_130 4 rfl ?_
  refine xj_if_eq (tgt := 142) C d_Mo_lay_132 (by decide) (fun h9 => ?_) (fun h9 => ?_)
  · have hf := xi_pos h9 hf
    exact xj_lv [1, 2, 3, 0] rfl (w_Mo_lay_142 N C hr hK9 x1 x2 v7 st hf)
  · have hf := xi_neg h9 hf
    refine xj_aload_n C d_Mo_lay_135 rfl 1 rfl ?_
    refine xj_get C g_Mo_47 0 rfl rfl d_Mo_lay_136 ?_
    refine xj_iload_n C d_Mo_lay_139 rfl 0 rfl ?_
    refine xj_iconst (v := (-1)) C d_Mo_lay_140 rfl ?_
    obtain ⟨g8, hf⟩ := xb_guard hf
    obtain ⟨s9, es9, hf⟩ := xlet_ex hf
    refine xj_iast (ws' := WM ad cI s9) C (WM_D N sz _) 12 0 rfl rfl g8 d_Mo_lay_141 (by rw [es9]; rfl) ?_
    exact xj_lv [1, 2, 3, 0] rfl (w_Mo_lay_142 N C hr hK9 x1 x2 v7 s9 hf)
set_option maxHeartbeats 4000000 in
set_option maxRecDepth 20000 in
theorem w_Mo_lay_107 {p : Program} {l : Launch} {e : Env} {s : State} {m : MethodId} {args : Array Value} {below : List Frame} {meth : Method} {c : Code} {sz : Nat} {D : va_G} {ad : Nat → Nat} {cI : ClassId × ClassId} {out : Int32 × St} (N : (LM ad).Nodup) (C : xC p s m args meth c (xA (LM ad) sz) D 7 (tyM cI) b_Mo_lay R_Mo) (hr : meth.sig.returnType = (some .boolean)) {K9 : Int32 → Int32 → Int32 → St → Option (Int32 × St)} (hK9 : ∀ (x1 x2 x3 : Int32) (st : St), K9 x1 x2 x3 st = some out → j_i p l e rm_Mo_lay s m args below meth c sz D (WM ad cI) (LM ad) out 7 (WM ad cI st) [(0, .ref (ad 0)), (1, .int x1), (2, .int x2), (3, .int x3)] 9 []) (x1 x2 x3 x4 y0 : Int32) (st : St) (hf : f_Mo_lay_107 K9 x1 x2 x3 x4 y0 st = some out) : j_i p l e rm_Mo_lay s m args below meth c sz D (WM ad cI) (LM ad) out 7 (WM ad cI st) [(0, .ref (ad 0)), (1, .int x1), (2, .int x2), (3, .int x3), (4, .int x4)] 107 [.int y0] := by
  unfold f_Mo_lay_107 at hf
  refine xj_istore C d_Mo_lay_107 (by decide) rfl ?_
  refine xj_aload_n C d_Mo_lay_109 rfl 1 rfl ?_
  refine xj_get C g_Mo_47 0 rfl rfl d_Mo_lay_110 ?_
  refine xj_iload_n C d_Mo_lay_113 rfl 4 rfl ?_
  refine xj_iload C d_Mo_lay_114 5 rfl ?_
  obtain ⟨g5, hf⟩ := xb_guard hf
  obtain ⟨s6, es6, hf⟩ := xlet_ex hf
  refine xj_iast (ws' := WM ad cI s6) C (WM_D N sz _) 12 0 rfl rfl g5 d_Mo_lay_116 (by rw [es6]; rfl) ?_
  refine xj_iload_n C d_Mo_lay_117 rfl 4 rfl ?_
  refine xj_iload C d_Mo_lay_118 0 rfl ?_
  refine xj_if_eq (tgt := 127) C d_Mo_lay_120 (by decide) (fun h9 => ?_) (fun h9 => ?_)
  · have hf := xi_pos h9 hf
    refine xj_iconst (v := (-1)) C d_Mo_lay_127 rfl ?_
    exact xj_lv [1, 2, 3, 0] rfl (w_Mo_lay_128 N C hr hK9 x1 x2 y0 (-1) x3 s6 hf)
  · have hf := xi_neg h9 hf
    refine xj_iconst (v := 1) C d_Mo_lay_123 rfl ?_
    refine xj_goto (tgt := 128) C d_Mo_lay_124 (by decide) ?_
    exact xj_lv [1, 2, 3, 0] rfl (w_Mo_lay_128 N C hr hK9 x1 x2 y0 1 x3 s6 hf)
set_option maxHeartbeats 4000000 in
set_option maxRecDepth 20000 in
theorem w_Mo_lay_99 {p : Program} {l : Launch} {e : Env} {s : State} {m : MethodId} {args : Array Value} {below : List Frame} {meth : Method} {c : Code} {sz : Nat} {D : va_G} {ad : Nat → Nat} {cI : ClassId × ClassId} {out : Int32 × St} (N : (LM ad).Nodup) (C : xC p s m args meth c (xA (LM ad) sz) D 7 (tyM cI) b_Mo_lay R_Mo) (hr : meth.sig.returnType = (some .boolean)) {K9 : Int32 → Int32 → Int32 → St → Option (Int32 × St)} (hK9 : ∀ (x1 x2 x3 : Int32) (st : St), K9 x1 x2 x3 st = some out → j_i p l e rm_Mo_lay s m args below meth c sz D (WM ad cI) (LM ad) out 7 (WM ad cI st) [(0, .ref (ad 0)), (1, .int x1), (2, .int x2), (3, .int x3)] 9 []) (x1 x2 x3 x4 y0 y1 : Int32) (st : St) (hf : f_Mo_lay_99 K9 x1 x2 x3 x4 y0 y1 st = some out) : j_i p l e rm_Mo_lay s m args below meth c sz D (WM ad cI) (LM ad) out 7 (WM ad cI st) [(0, .ref (ad 0)), (1, .int x1), (2, .int x2), (3, .int x3), (4, .int x4)] 99 [.int y0, .int y1] := by
  unfold f_Mo_lay_99 at hf
  refine xj_icmp_ge (tgt := 106) C d_Mo_lay_99 (by decide) (fun h9 => ?_) (fun h9 => ?_)
  · have hf := xi_pos h9 hf
    refine xj_iconst (v := 0) C d_Mo_lay_106 rfl ?_
    exact xj_lv [0, 1, 2, 3, 4] rfl (w_Mo_lay_107 N C hr hK9 x1 x2 x3 x4 0 st hf)
  · have hf := xi_neg h9 hf
    refine xj_iconst (v := 1) C d_Mo_lay_102 rfl ?_
    refine xj_goto (tgt := 107) C d_Mo_lay_103 (by decide) ?_
    exact xj_lv [0, 1, 2, 3, 4] rfl (w_Mo_lay_107 N C hr hK9 x1 x2 x3 x4 1 st hf)
set_option maxHeartbeats 4000000 in
set_option maxRecDepth 20000 in
theorem w_Mo_lay_86 {p : Program} {l : Launch} {e : Env} {s : State} {m : MethodId} {args : Array Value} {below : List Frame} {meth : Method} {c : Code} {sz : Nat} {D : va_G} {ad : Nat → Nat} {cI : ClassId × ClassId} {out : Int32 × St} (N : (LM ad).Nodup) (C : xC p s m args meth c (xA (LM ad) sz) D 7 (tyM cI) b_Mo_lay R_Mo) (hr : meth.sig.returnType = (some .boolean)) {K9 : Int32 → Int32 → Int32 → St → Option (Int32 × St)} (hK9 : ∀ (x1 x2 x3 : Int32) (st : St), K9 x1 x2 x3 st = some out → j_i p l e rm_Mo_lay s m args below meth c sz D (WM ad cI) (LM ad) out 7 (WM ad cI st) [(0, .ref (ad 0)), (1, .int x1), (2, .int x2), (3, .int x3)] 9 []) (x1 x2 x3 x4 x5 : Int32) (st : St) (hf : f_Mo_lay_86 K9 x1 x2 x3 x4 x5 st = some out) : j_i p l e rm_Mo_lay s m args below meth c sz D (WM ad cI) (LM ad) out 7 (WM ad cI st) [(0, .ref (ad 0)), (1, .int x1), (2, .int x2), (3, .int x3), (4, .int x4), (5, .int x5)] 86 [] := by
  unfold f_Mo_lay_86 at hf
  refine xj_iload C d_Mo_lay_86 4 rfl ?_
  refine xj_iload C d_Mo_lay_88 5 rfl ?_
  refine xj_if_eq (tgt := 98) C d_Mo_lay_90 (by decide) (fun h9 => ?_) (fun h9 => ?_)
  · have hf := xi_pos h9 hf
    refine xj_iconst (v := 1) C d_Mo_lay_98 rfl ?_
    exact xj_lv [0, 1, 2, 3, 4] rfl (w_Mo_lay_99 N C hr hK9 x1 x2 x3 x4 1 x4 st hf)
  · have hf := xi_neg h9 hf
    refine xj_bipush (v := 24) C d_Mo_lay_93 rfl ?_
    refine xj_goto (tgt := 99) C d_Mo_lay_95 (by decide) ?_
    exact xj_lv [0, 1, 2, 3, 4] rfl (w_Mo_lay_99 N C hr hK9 x1 x2 x3 x4 24 x4 st hf)
