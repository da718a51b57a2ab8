set_option maxHeartbeats 4000000 in
set_option maxRecDepth 20000 in
theorem wb_Mo_search_71 {p : Program} {l : Launch} {e : Env} {s : State} {m : MethodId} {args : Array Value} {below : List Frame} {meth : Method} {c : Code} {sz : Nat} {D : va_G} {ad : Nat → Nat} {cI : ClassId × ClassId} {out : Int32 × St} (N : (LM ad).Nodup) (C : xC p s m args meth c (xA (LM ad) sz) D 7 (tyM cI) b_Mo_search R_Mo) (hr : meth.sig.returnType = (some .int)) {K71 : Int32 → Int32 → Int32 → St → Option (Int32 × St)} (hK71 : ∀ (x1 x2 x3 : Int32) (st : St), K71 x1 x2 x3 st = some out → j_i p l e rm_Mo_search s m args below meth c sz D (WM ad cI) (LM ad) out 7 (WM ad cI st) [(0, .ref (ad 0)), (1, .int x1), (2, .int x2), (3, .int x3)] 71 []) (x1 x2 x3 : Int32) (st : St) (hf : b_Mo_search_71 K71 x1 x2 x3 st = some out) : j_i p l e rm_Mo_search s m args below meth c sz D (WM ad cI) (LM ad) out 7 (WM ad cI st) [(0, .ref (ad 0)), (1, .int x1), (2, .int x2), (3, .int x3)] 71 [] := by
  unfold b_Mo_search_71 at hf
  refine xj_iload_n C d_Mo_search_71 rfl 3 rfl ?_
  refine xj_aload_n C d_Mo_search_72 rfl 0 rfl ?_
  refine xj_get C g_Mo_75 0 rfl rfl d_Mo_search_73 ?_
  refine xj_icmp_ge (tgt := 94) C d_Mo_search_76 (by decide) (fun h9 => ?_) (fun h9 => ?_)
  · have hf := xi_pos h9 hf
    refine xj_iconst (v := 0) C d_Mo_search_94 rfl ?_
    refine xj_istore_n C d_Mo_search_95 rfl (by decide) rfl ?_
    exact xj_lv [1, 2, 3, 0] rfl (w_Mo_search_96 N C hr 5000 x1 x2 0 st hf)
  · have hf := xi_neg h9 hf
    refine xj_iload_n C d_Mo_search_79 rfl 2 rfl ?_
    refine xj_iconst (v := 4) C d_Mo_search_80 rfl ?_
    refine xj_aload_n C d_Mo_search_81 rfl 0 rfl ?_
    refine xj_get C g_Mo_72 0 rfl rfl d_Mo_search_82 ?_
    refine xj_imul C d_Mo_search_85 ?_
    refine xj_imul C d_Mo_search_86 ?_
    refine xj_topi (fun v15 ev15 => ?_)
    have hf := xlet_at ev15 hf
    refine xj_istore_n C d_Mo_search_87 rfl (by decide) rfl ?_
    refine xj_iinc (v := x3 + 1) (j := 3) C d_Mo_search_88 rfl rfl (by decide) rfl ?_
    refine xj_goto (tgt := 71) C d_Mo_search_91 (by decide) ?_
    exact xj_lv [2, 3, 1, 0] rfl (hK71 x1 v15 (x3 + 1) st hf)
set_option maxHeartbeats 4000000 in
set_option maxRecDepth 20000 in
theorem w_Mo_search_71 {p : Program} {l : Launch} {e : Env} {s : State} {m : MethodId} {args : Array Value} {below : List Frame} {meth : Method} {c : Code} {sz : Nat} {D : va_G} {ad : Nat → Nat} {cI : ClassId × ClassId} {out : Int32 × St} (N : (LM ad).Nodup) (C : xC p s m args meth c (xA (LM ad) sz) D 7 (tyM cI) b_Mo_search R_Mo) (hr : meth.sig.returnType = (some .int)) (n : Nat) : ∀ (x1 x2 x3 : Int32) (st : St), f_Mo_search_71 n x1 x2 x3 st = some out → j_i p l e rm_Mo_search s m args below meth c sz D (WM ad cI) (LM ad) out 7 (WM ad cI st) [(0, .ref (ad 0)), (1, .int x1), (2, .int x2), (3, .int x3)] 71 [] := by
  induction n with
  | zero => intro x1 x2 x3 st hf; exact absurd (show (none : Option (Int32 × St)) = some out from hf) (fun h => by cases h)
  | succ n ih => intro x1 x2 x3 st hf; exact wb_Mo_search_71 N C hr ih x1 x2 x3 st hf
set_option maxHeartbeats 4000000 in
set_option maxRecDepth 20000 in
theorem w_Mo_search_57 {p : Program} {l : Launch} {e : Env} {s : State} {m : MethodId} {args : Array Value} {below : List Frame} {meth : Method} {c : Code} {sz : Nat} {D : va_G} {ad : Nat → Nat} {cI : ClassId × ClassId} {out : Int32 × St} (N : (LM ad).Nodup) (C : xC p s m args meth c (xA (LM ad) sz) D 7 (tyM cI) b_Mo_search R_Mo) (hr : meth.sig.returnType = (some .int)) {K2 : Int32 → St → Option (Int32 × St)} (hK2 : ∀ (x1 : Int32) (st : St), K2 x1 st = some out → j_i p l e rm_Mo_search s m args below meth c sz D (WM ad cI) (LM ad) out 7 (WM ad cI st) [(0, .ref (ad 0)), (1, .int x1)] 2 []) (x1 y0 y1 : Int32) (st : St) (hf : f_Mo_search_57 K2 x1 y0 y1 st = some out) : j_i p l e rm_Mo_search s m args below meth c sz D (WM ad cI) (LM ad) out 7 (WM ad cI st) [(0, .ref (ad 0)), (1, .int x1)] 57 [.int y0, .int y1, .ref (ad 13)] := by
  unfold f_Mo_search_57 at hf
  obtain ⟨g16, hf⟩ := xb_guard hf
  obtain ⟨s17, es17, hf⟩ := xlet_ex hf
  refine xj_zast (ws' := WM ad cI s17) C (WM_D N sz _) 13 1 rfl rfl g16 d_Mo_search_57 (by rw [es17]; rfl) ?_
  refine xj_iinc (v := x1 + 1) (j := 1) C d_Mo_search_58 rfl rfl (by decide) rfl ?_
  refine xj_goto (tgt := 2) C d_Mo_search_61 (by decide) ?_
  exact xj_lv [1, 0] rfl (hK2 (x1 + 1) s17 hf)
set_option maxHeartbeats 4000000 in
set_option maxRecDepth 20000 in
theorem w_Mo_search_56 {p : Program} {l : Launch} {e : Env} {s : State} {m : MethodId} {args : Array Value} {below : List Frame} {meth : Method} {c : Code} {sz : Nat} {D : va_G} {ad : Nat → Nat} {cI : ClassId × ClassId} {out : Int32 × St} (N : (LM ad).Nodup) (C : xC p s m args meth c (xA (LM ad) sz) D 7 (tyM cI) b_Mo_search R_Mo) (hr : meth.sig.returnType = (some .int)) {K2 : Int32 → St → Option (Int32 × St)} (hK2 : ∀ (x1 : Int32) (st : St), K2 x1 st = some out → j_i p l e rm_Mo_search s m args below meth c sz D (WM ad cI) (LM ad) out 7 (WM ad cI st) [(0, .ref (ad 0)), (1, .int x1)] 2 []) (x1 y0 : Int32) (st : St) (hf : f_Mo_search_56 K2 x1 y0 st = some out) : j_i p l e rm_Mo_search s m args below meth c sz D (WM ad cI) (LM ad) out 7 (WM ad cI st) [(0, .ref (ad 0)), (1, .int x1)] 56 [.int y0, .ref (ad 13)] := by
  unfold f_Mo_search_56 at hf
  refine xj_iconst (v := 0) C d_Mo_search_56 rfl ?_
  exact xj_lv [0, 1] rfl (w_Mo_search_57 N C hr hK2 x1 0 y0 st hf)
set_option maxHeartbeats 4000000 in
set_option maxRecDepth 20000 in
theorem wb_Mo_search_2 {p : Program} {l : Launch} {e : Env} {s : State} {m : MethodId} {args : Array Value} {below : List Frame} {meth : Method} {c : Code} {sz : Nat} {D : va_G} {ad : Nat → Nat} {cI : ClassId × ClassId} {out : Int32 × St} (N : (LM ad).Nodup) (C : xC p s m args meth c (xA (LM ad) sz) D 7 (tyM cI) b_Mo_search R_Mo) (hr : meth.sig.returnType = (some .int)) {K2 : Int32 → St → Option (Int32 × St)} (hK2 : ∀ (x1 : Int32) (st : St), K2 x1 st = some out → j_i p l e rm_Mo_search s m args below meth c sz D (WM ad cI) (LM ad) out 7 (WM ad cI st) [(0, .ref (ad 0)), (1, .int x1)] 2 []) (x1 : Int32) (st : St) (hf : b_Mo_search_2 K2 x1 st = some out) : j_i p l e rm_Mo_search s m args below meth c sz D (WM ad cI) (LM ad) out 7 (WM ad cI st) [(0, .ref (ad 0)), (1, .int x1)] 2 [] := by
  unfold b_Mo_search_2 at hf
  refine xj_iload_n C d_Mo_search_2 rfl 1 rfl ?_
  refine xj_bipush (v := 32) C d_Mo_search_3 rfl ?_
  refine xj_icmp_ge (tgt := 64) C d_Mo_search_5 (by decide) (fun h9 => ?_) (fun h9 => ?_)
  · have hf := xi_pos h9 hf
    refine xj_ldc (v := 1000000000) C k_Mo_121 d_Mo_search_64 ?_
    refine xj_istore_n C d_Mo_search_66 rfl (by decide) rfl ?_
    refine xj_iconst (v := 1) C d_Mo_search_67 rfl ?_
    refine xj_istore_n C d_Mo_search_68 rfl (by decide) rfl ?_
    refine xj_iconst (v := 0) C d_Mo_search_69 rfl ?_
    refine xj_istore_n C d_Mo_search_70 rfl (by decide) rfl ?_
    exact xj_lv [3, 2, 1, 0] rfl (w_Mo_search_71 N C hr 40 1000000000 1 0 st hf)
  · have hf := xi_neg h9 hf
    refine xj_aload_n C d_Mo_search_8 rfl 0 rfl ?_
    refine xj_get C g_Mo_50 0 rfl rfl d_Mo_search_9 ?_
    refine xj_iload_n C d_Mo_search_12 rfl 1 rfl ?_
    refine xj_iload_n C d_Mo_search_13 rfl 1 rfl ?_
    refine xj_bipush (v := 16) C d_Mo_search_14 rfl ?_
    refine xj_idiv C d_Mo_search_16 (by decide) ?_
    refine xj_aload_n C d_Mo_search_17 rfl 0 rfl ?_
    refine xj_get C g_Mo_72 0 rfl rfl d_Mo_search_18 ?_
    refine xj_icmp_ge (tgt := 56) C d_Mo_search_21 (by decide) (fun h9 => ?_) (fun h9 => ?_)
    · have hf := xi_pos h9 hf
      exact xj_lv [0, 1] rfl (w_Mo_search_56 N C hr hK2 x1 x1 st hf)
    · have hf := xi_neg h9 hf
      refine xj_iload_n C d_Mo_search_24 rfl 1 rfl ?_
      refine xj_bipush (v := 16) C d_Mo_search_25 rfl ?_
      refine xj_irem C d_Mo_search_27 (by decide) ?_
      refine xj_iconst (v := 1) C d_Mo_search_28 rfl ?_
      refine xj_aload_n C d_Mo_search_29 rfl 0 rfl ?_
      refine xj_get C g_Mo_75 0 rfl rfl d_Mo_search_30 ?_
      refine xj_ishl C d_Mo_search_33 ?_
      refine xj_icmp_ge (tgt := 56) C d_Mo_search_34 (by decide) (fun h9 => ?_) (fun h9 => ?_)
      · have hf := xi_pos h9 hf
        exact xj_lv [0, 1] rfl (w_Mo_search_56 N C hr hK2 x1 x1 st hf)
      · have hf := xi_neg h9 hf
        refine xj_aload_n C d_Mo_search_37 rfl 0 rfl ?_
        refine xj_iload_n C d_Mo_search_38 rfl 1 rfl ?_
        refine xj_bipush (v := 16) C d_Mo_search_39 rfl ?_
        refine xj_idiv C d_Mo_search_41 (by decide) ?_
        refine xj_iload_n C d_Mo_search_42 rfl 1 rfl ?_
        refine xj_bipush (v := 16) C d_Mo_search_43 rfl ?_
        refine xj_irem C d_Mo_search_45 (by decide) ?_
        obtain ⟨o18, ho18, hf⟩ := xb_some hf
        refine xj_callVi (rest := [.int x1, .ref (ad 13)]) C (c_Mo_lay N ho18) Y_Mo_lay i_Mo_100 0 rfl rfl (by decide) ⟨rfl, rfl⟩ rfl rfl (Nat.le_of_ble_eq_true rfl) d_Mo_search_46 (fun q h => Or.inl h) ?_
        refine xj_if_eq (tgt := 56) C d_Mo_search_49 (by decide) (fun h9 => ?_) (fun h9 => ?_)
        · have hf := xi_pos h9 hf
          exact xj_lv [0, 1] rfl (w_Mo_search_56 N C hr hK2 x1 x1 o18.2 hf)
        · have hf := xi_neg h9 hf
          refine xj_iconst (v := 1) C d_Mo_search_52 rfl ?_
          refine xj_goto (tgt := 57) C d_Mo_search_53 (by decide) ?_
          exact xj_lv [0, 1] rfl (w_Mo_search_57 N C hr hK2 x1 1 x1 o18.2 hf)
set_option maxHeartbeats 4000000 in
set_option maxRecDepth 20000 in
theorem w_Mo_search_2 {p : Program} {l : Launch} {e : Env} {s : State} {m : MethodId} {args : Array Value} {below : List Frame} {meth : Method} {c : Code} {sz : Nat} {D : va_G} {ad : Nat → Nat} {cI : ClassId × ClassId} {out : Int32 × St} (N : (LM ad).Nodup) (C : xC p s m args meth c (xA (LM ad) sz) D 7 (tyM cI) b_Mo_search R_Mo) (hr : meth.sig.returnType = (some .int)) (n : Nat) : ∀ (x1 : Int32) (st : St), f_Mo_search_2 n x1 st = some out → j_i p l e rm_Mo_search s m args below meth c sz D (WM ad cI) (LM ad) out 7 (WM ad cI st) [(0, .ref (ad 0)), (1, .int x1)] 2 [] := by
  induction n with
  | zero => intro x1 st hf; exact absurd (show (none : Option (Int32 × St)) = some out from hf) (fun h => by cases h)
  | succ n ih => intro x1 st hf; exact wb_Mo_search_2 N C hr ih x1 st hf
set_option maxHeartbeats 4000000 in
set_option maxRecDepth 20000 in
theorem c_Mo_search {l : Launch} {D : va_G} {ad : Nat → Nat} {cI : ClassId × ClassId} (N : (LM ad).Nodup) {st : St} {out : Int32 × St} (hf : f_Mo_search  st = some out) : xMi l y_Mo_search b_Mo_search 7 (some .int) rm_Mo_search D (tyM cI) (WM ad cI) (LM ad) [.ref (ad 0)] st out := by
  intro sz
  refine xM_of (L := LM ad) (by decide) (Nat.le_of_ble_eq_true rfl) (fun p e s m below meth c hsz hr C => ?_)
  show j_i p l e rm_Mo_search s m _ below meth c sz D (WM ad cI) (LM ad) out 7 (WM ad cI st) [(0, .ref (ad 0))] 0 []
  unfold f_Mo_search at hf
  refine xj_iconst (v := 0) C d_Mo_search_0 rfl ?_
  refine xj_istore_n C d_Mo_search_1 rfl (by decide) rfl ?_
  exact xj_lv [1, 0] rfl (w_Mo_search_2 N C hr 40 0 st hf)
set_option maxHeartbeats 4000000 in
set_option maxRecDepth 20000 in
theorem w_Mo_plan_20 {p : Program} {l : Launch} {e : Env} {s : State} {m : MethodId} {args : Array Value} {below : List Frame} {meth : Method} {c : Code} {sz : Nat} {D : va_G} {ad : Nat → Nat} {cI : ClassId × ClassId} {out : Int32 × St} (N : (LM ad).Nodup) (C : xC p s m args meth c (xA (LM ad) sz) D 2 (tyM cI) b_Mo_plan R_Mo) (hr : meth.sig.returnType = (some .int)) (x1 y0 : Int32) (st : St) (hf : f_Mo_plan_20 x1 y0 st = some out) : j_i p l e rm_Mo_plan s m args below meth c sz D (WM ad cI) (LM ad) out 2 (WM ad cI st) [(1, .int x1)] 20 [.int y0, .ref (ad 0)] := by
  unfold f_Mo_plan_20 at hf
  obtain ⟨g3, hf⟩ := xb_guard hf
  obtain ⟨s4, es4, hf⟩ := xlet_ex hf
  refine xj_put (ws' := WM ad cI s4) C g_Mo_82 gw_Mo_isPlan (WM_D N sz _) 0 rfl (xb_narrow g3) (xb_fits g3) (Nat.le_of_ble_eq_true rfl) d_Mo_plan_20 (by rw [es4]; rfl) ?_
  refine xj_iload_n C d_Mo_plan_23 rfl 0 rfl ?_
  exact xj_iret C hr hf d_Mo_plan_24
set_option maxHeartbeats 4000000 in
set_option maxRecDepth 20000 in
theorem c_Mo_plan {l : Launch} {D : va_G} {ad : Nat → Nat} {cI : ClassId × ClassId} (N : (LM ad).Nodup) {st : St} {out : Int32 × St} (hf : f_Mo_plan  st = some out) : xMi l y_Mo_plan b_Mo_plan 2 (some .int) rm_Mo_plan D (tyM cI) (WM ad cI) (LM ad) [.ref (ad 0)] st out := by
  intro sz
  refine xM_of (L := LM ad) (by decide) (Nat.le_of_ble_eq_true rfl) (fun p e s m below meth c hsz hr C => ?_)
  show j_i p l e rm_Mo_plan s m _ below meth c sz D (WM ad cI) (LM ad) out 2 (WM ad cI st) [(0, .ref (ad 0))] 0 []
  unfold f_Mo_plan at hf
  refine xj_aload_n C d_Mo_plan_0 rfl 0 rfl ?_
  refine xj_iconst (v := 0) C d_Mo_plan_1 rfl ?_
  obtain ⟨s1, es1, hf⟩ := xlet_ex hf
  refine xj_put (ws' := WM ad cI s1) C g_Mo_69 gw_Mo_thrown (WM_D N sz _) 0 rfl rfl rfl (Nat.le_of_ble_eq_true rfl) d_Mo_plan_2 (by rw [es1]; rfl) ?_
  refine xj_aload_n C d_Mo_plan_5 rfl 0 rfl ?_
  obtain ⟨o2, ho2, hf⟩ := xb_some hf
  refine xj_callVi (rest := []) C (c_Mo_search N ho2) Y_Mo_search i_Mo_134 0 rfl rfl (by decide) ⟨rfl, rfl⟩ rfl rfl (Nat.le_of_ble_eq_true rfl) d_Mo_plan_6 (fun q h => Or.inl h) ?_
  refine xj_istore_n C d_Mo_plan_9 rfl (by decide) rfl ?_
  refine xj_aload_n C d_Mo_plan_10 rfl 1 rfl ?_
  refine xj_iload_n C d_Mo_plan_11 rfl 0 rfl ?_
  refine xj_if_lt (tgt := 19) C d_Mo_plan_12 (by decide) (fun h9 => ?_) (fun h9 => ?_)
  · have hf := xi_pos h9 hf
    refine xj_iconst (v := 0) C d_Mo_plan_19 rfl ?_
    exact xj_lv [0] rfl (w_Mo_plan_20 N C hr o2.1 0 o2.2 hf)
  · have hf := xi_neg h9 hf
    refine xj_iconst (v := 1) C d_Mo_plan_15 rfl ?_
    refine xj_goto (tgt := 20) C d_Mo_plan_16 (by decide) ?_
    exact xj_lv [0] rfl (w_Mo_plan_20 N C hr o2.1 1 o2.2 hf)
set_option maxHeartbeats 4000000 in
set_option maxRecDepth 20000 in
theorem w_Mo_shipsOf_30 {p : Program} {l : Launch} {e : Env} {s : State} {m : MethodId} {args : Array Value} {below : List Frame} {meth : Method} {c : Code} {sz : Nat} {D : va_G} {ad : Nat → Nat} {cI : ClassId × ClassId} {out : Int32 × St} (N : (LM ad).Nodup) (C : xC p s m args meth c (xA (LM ad) sz) D 4 (tyM cI) b_Mo_shipsOf R_Mo) (hr : meth.sig.returnType = (some .int)) {K4 : Int32 → Int32 → Int32 → St → Option (Int32 × St)} (hK4 : ∀ (x1 x2 x3 : Int32) (st : St), K4 x1 x2 x3 st = some out → j_i p l e rm_Mo_shipsOf s m args below meth c sz D (WM ad cI) (LM ad) out 4 (WM ad cI st) [(0, .ref (ad 0)), (1, .int x1), (2, .int x2), (3, .int x3)] 4 []) (x1 x3 y0 y1 : Int32) (st : St) (hf : f_Mo_shipsOf_30 K4 x1 x3 y0 y1 st = some out) : j_i p l e rm_Mo_shipsOf s m args below meth c sz D (WM ad cI) (LM ad) out 4 (WM ad cI st) [(0, .ref (ad 0)), (1, .int x1), (3, .int x3)] 30 [.int y0, .int y1] := by
  unfold f_Mo_shipsOf_30 at hf
  refine xj_iadd C d_Mo_shipsOf_30 ?_
  refine xj_topi (fun v2 ev2 => ?_)
  have hf := xlet_at ev2 hf
  refine xj_istore_n C d_Mo_shipsOf_31 rfl (by decide) rfl ?_
  refine xj_iinc (v := x3 + 1) (j := 3) C d_Mo_shipsOf_32 rfl rfl (by decide) rfl ?_
  refine xj_goto (tgt := 4) C d_Mo_shipsOf_35 (by decide) ?_
  exact xj_lv [2, 3, 1, 0] rfl (hK4 x1 v2 (x3 + 1) st hf)
set_option maxHeartbeats 4000000 in
set_option maxRecDepth 20000 in
theorem wb_Mo_shipsOf_4 {p : Program} {l : Launch} {e : Env} {s : State} {m : MethodId} {args : Array Value} {below : List Frame} {meth : Method} {c : Code} {sz : Nat} {D : va_G} {ad : Nat → Nat} {cI : ClassId × ClassId} {out : Int32 × St} (N : (LM ad).Nodup) (C : xC p s m args meth c (xA (LM ad) sz) D 4 (tyM cI) b_Mo_shipsOf R_Mo) (hr : meth.sig.returnType = (some .int)) {K4 : Int32 → Int32 → Int32 → St → Option (Int32 × St)} (hK4 : ∀ (x1 x2 x3 : Int32) (st : St), K4 x1 x2 x3 st = some out → j_i p l e rm_Mo_shipsOf s m args below meth c sz D (WM ad cI) (LM ad) out 4 (WM ad cI st) [(0, .ref (ad 0)), (1, .int x1), (2, .int x2), (3, .int x3)] 4 []) (x1 x2 x3 : Int32) (st : St) (hf : b_Mo_shipsOf_4 K4 x1 x2 x3 st = some out) : j_i p l e rm_Mo_shipsOf s m args below meth c sz D (WM ad cI) (LM ad) out 4 (WM ad cI st) [(0, .ref (ad 0)), (1, .int x1), (2, .int x2), (3, .int x3)] 4 [] := by
  unfold b_Mo_shipsOf_4 at hf
  refine xj_iload_n C d_Mo_shipsOf_4 rfl 3 rfl ?_
  refine xj_aload_n C d_Mo_shipsOf_5 rfl 0 rfl ?_
  refine xj_get C g_Mo_75 0 rfl rfl d_Mo_shipsOf_6 ?_
  refine xj_icmp_ge (tgt := 38) C d_Mo_shipsOf_9 (by decide) (fun h9 => ?_) (fun h9 => ?_)
  · have hf := xi_pos h9 hf
    refine xj_iload_n C d_Mo_shipsOf_38 rfl 2 rfl ?_
    exact xj_iret C hr hf d_Mo_shipsOf_39
  · have hf := xi_neg h9 hf
    refine xj_iload_n C d_Mo_shipsOf_12 rfl 2 rfl ?_
    refine xj_aload_n C d_Mo_shipsOf_13 rfl 0 rfl ?_
    refine xj_get C g_Mo_60 0 rfl rfl d_Mo_shipsOf_14 ?_
    refine xj_iload_n C d_Mo_shipsOf_17 rfl 3 rfl ?_
    obtain ⟨g1, hf⟩ := xb_guard hf
    refine xj_iald C 16 0 rfl rfl g1 d_Mo_shipsOf_18 ?_
    refine xj_iload_n C d_Mo_shipsOf_19 rfl 1 rfl ?_
    refine xj_icmp_ne (tgt := 29) C d_Mo_shipsOf_20 (by decide) (fun h9 => ?_) (fun h9 => ?_)
    · have hf := xi_neg h9 hf
      refine xj_iconst (v := 0) C d_Mo_shipsOf_29 rfl ?_
      exact xj_lv [0, 1, 3] rfl (w_Mo_shipsOf_30 N C hr hK4 x1 x3 0 x2 st hf)
    · have hf := xi_pos h9 hf
      refine xj_iconst (v := 1) C d_Mo_shipsOf_23 rfl ?_
      refine xj_iload_n C d_Mo_shipsOf_24 rfl 3 rfl ?_
      refine xj_ishl C d_Mo_shipsOf_25 ?_
      refine xj_goto (tgt := 30) C d_Mo_shipsOf_26 (by decide) ?_
      exact xj_lv [0, 1, 3] rfl (w_Mo_shipsOf_30 N C hr hK4 x1 x3 (1 <<< (x3 &&& 31)) x2 st hf)
set_option maxHeartbeats 4000000 in
set_option maxRecDepth 20000 in
theorem w_Mo_shipsOf_4 {p : Program} {l : Launch} {e : Env} {s : State} {m : MethodId} {args : Array Value} {below : List Frame} {meth : Method} {c : Code} {sz : Nat} {D : va_G} {ad : Nat → Nat} {cI : ClassId × ClassId} {out : Int32 × St} (N : (LM ad).Nodup) (C : xC p s m args meth c (xA (LM ad) sz) D 4 (tyM cI) b_Mo_shipsOf R_Mo) (hr : meth.sig.returnType = (some .int)) (n : Nat) : ∀ (x1 x2 x3 : Int32) (st : St), f_Mo_shipsOf_4 n x1 x2 x3 st = some out → j_i p l e rm_Mo_shipsOf s m args below meth c sz D (WM ad cI) (LM ad) out 4 (WM ad cI st) [(0, .ref (ad 0)), (1, .int x1), (2, .int x2), (3, .int x3)] 4 [] := by
  induction n with
  | zero => intro x1 x2 x3 st hf; exact absurd (show (none : Option (Int32 × St)) = some out from hf) (fun h => by cases h)
  | succ n ih => intro x1 x2 x3 st hf; exact wb_Mo_shipsOf_4 N C hr ih x1 x2 x3 st hf
set_option maxHeartbeats 4000000 in
set_option maxRecDepth 20000 in
theorem c_Mo_shipsOf {l : Launch} {D : va_G} {ad : Nat → Nat} {cI : ClassId × ClassId} (N : (LM ad).Nodup) {x1 : Int32} {st : St} {out : Int32 × St} (hf : f_Mo_shipsOf x1 st = some out) : xMi l y_Mo_shipsOf b_Mo_shipsOf 4 (some .int) rm_Mo_shipsOf D (tyM cI) (WM ad cI) (LM ad) [.ref (ad 0), .int x1] st out := by
  intro sz
  refine xM_of (L := LM ad) (by decide) (Nat.le_of_ble_eq_true rfl) (fun p e s m below meth c hsz hr C => ?_)
  show j_i p l e rm_Mo_shipsOf s m _ below meth c sz D (WM ad cI) (LM ad) out 4 (WM ad cI st) [(0, .ref (ad 0)), (1, .int x1)] 0 []
  unfold f_Mo_shipsOf at hf
  refine xj_iconst (v := 0) C d_Mo_shipsOf_0 rfl ?_
  refine xj_istore_n C d_Mo_shipsOf_1 rfl (by decide) rfl ?_
  refine xj_iconst (v := 0) C d_Mo_shipsOf_2 rfl ?_
  refine xj_istore_n C d_Mo_shipsOf_3 rfl (by decide) rfl ?_
  exact xj_lv [2, 3, 1, 0] rfl (w_Mo_shipsOf_4 N C hr 40 x1 0 0 st hf)
set_option maxHeartbeats 4000000 in
set_option maxRecDepth 20000 in
theorem w_Mo_of_35 {p : Program} {l : Launch} {e : Env} {s : State} {m : MethodId} {args : Array Value} {below : List Frame} {meth : Method} {c : Code} {sz : Nat} {D : va_G} {ad : Nat → Nat} {cI : ClassId × ClassId} {out : Int32 × St} (N : (LM ad).Nodup) (C : xC p s m args meth c (xA (LM ad) sz) D 4 (tyM cI) b_Mo_of R_Mo) (hr : meth.sig.returnType = (some .int)) (x1 x2 y0 : Int32) (st : St) (hf : f_Mo_of_35 x1 x2 y0 st = some out) : j_i p l e rm_Mo_of s m args below meth c sz D (WM ad cI) (LM ad) out 4 (WM ad cI st) [(0, .ref (ad 0)), (1, .int x1), (2, .int x2)] 35 [.int y0, .ref (ad 0)] := by
  unfold f_Mo_of_35 at hf
  obtain ⟨s2, es2, hf⟩ := xlet_ex hf
  refine xj_put (ws' := WM ad cI s2) C g_Mo_69 gw_Mo_thrown (WM_D N sz _) 0 rfl rfl rfl (Nat.le_of_ble_eq_true rfl) d_Mo_of_35 (by rw [es2]; rfl) ?_
  refine xj_aload_n C d_Mo_of_38 rfl 0 rfl ?_
  refine xj_get C g_Mo_69 0 rfl rfl d_Mo_of_39 ?_
  refine xj_if_le (tgt := 47) C d_Mo_of_42 (by decide) (fun h9 => ?_) (fun h9 => ?_)
  · have hf := xi_pos h9 hf
    refine xj_aload_n C d_Mo_of_47 rfl 0 rfl ?_
    refine xj_aload_n C d_Mo_of_48 rfl 0 rfl ?_
    refine xj_get C g_Mo_60 0 rfl rfl d_Mo_of_49 ?_
    refine xj_iload_n C d_Mo_of_52 rfl 1 rfl ?_
    obtain ⟨g3, hf⟩ := xb_guard hf
    refine xj_iald C 16 0 rfl rfl g3 d_Mo_of_53 ?_
    refine xj_iconst (v := 4) C d_Mo_of_54 rfl ?_
    refine xj_idiv C d_Mo_of_55 (by decide) ?_
    refine xj_aload_n C d_Mo_of_56 rfl 0 rfl ?_
    refine xj_aload_n C d_Mo_of_57 rfl 0 rfl ?_
    refine xj_get C g_Mo_60 0 rfl rfl d_Mo_of_58 ?_
    refine xj_iload_n C d_Mo_of_61 rfl 1 rfl ?_
    obtain ⟨g4, hf⟩ := xb_guard hf
    refine xj_iald C 16 0 rfl rfl g4 d_Mo_of_62 ?_
    obtain ⟨o5, ho5, hf⟩ := xb_some hf
    refine xj_callVi (rest := [.int ((s2.2 15 x1.toNatClampNeg) / 4), .ref (ad 0)]) C (c_Mo_shipsOf N ho5) Y_Mo_shipsOf i_Mo_140 0 rfl rfl (by decide) ⟨rfl, rfl⟩ rfl rfl (Nat.le_of_ble_eq_true rfl) d_Mo_of_63 (fun q h => Or.inl h) ?_
    obtain ⟨o6, ho6, hf⟩ := xb_some hf
    refine xj_callVi (rest := []) C (c_Mo_lay N ho6) Y_Mo_lay i_Mo_100 0 rfl rfl (by decide) ⟨rfl, rfl⟩ rfl rfl (Nat.le_of_ble_eq_true rfl) d_Mo_of_66 (fun q h => Or.inl h) ?_
    refine xj_istore_n C d_Mo_of_69 rfl (by decide) rfl ?_
    refine xj_iload_n C d_Mo_of_70 rfl 3 rfl ?_
    by_cases h09 : x2 = 0
    · have hf := xi_pos h09 hf
      refine xj_tableIn (tgt := 108) C d_Mo_of_71 (by rw [h09]; decide) (by rw [h09]; decide) (by rw [h09]; rfl) (by decide) ?_
      refine xj_aload_n C d_Mo_of_108 rfl 1 rfl ?_
      refine xj_get C g_Mo_60 0 rfl rfl d_Mo_of_109 ?_
      refine xj_iload_n C d_Mo_of_112 rfl 2 rfl ?_
      obtain ⟨g7, hf⟩ := xb_guard hf
      refine xj_iald C 16 0 rfl rfl g7 d_Mo_of_113 ?_
      refine xj_iconst (v := 4) C d_Mo_of_114 rfl ?_
      refine xj_idiv C d_Mo_of_115 (by decide) ?_
      exact xj_iret C hr hf d_Mo_of_116
    have hf := xi_neg h09 hf
    by_cases h19 : x2 = 1
    · have hf := xi_pos h19 hf
      refine xj_tableIn (tgt := 117) C d_Mo_of_71 (by rw [h19]; decide) (by rw [h19]; decide) (by rw [h19]; rfl) (by decide) ?_
      refine xj_aload_n C d_Mo_of_117 rfl 1 rfl ?_
      refine xj_get C g_Mo_60 0 rfl rfl d_Mo_of_118 ?_
      refine xj_iload_n C d_Mo_of_121 rfl 2 rfl ?_
      obtain ⟨g8, hf⟩ := xb_guard hf
      refine xj_iald C 16 0 rfl rfl g8 d_Mo_of_122 ?_
      refine xj_iconst (v := 4) C d_Mo_of_123 rfl ?_
      refine xj_irem C d_Mo_of_124 (by decide) ?_
      exact xj_iret C hr hf d_Mo_of_125
    have hf := xi_neg h19 hf
    by_cases h29 : x2 = 2
    · have hf := xi_pos h29 hf
      refine xj_tableIn (tgt := 126) C d_Mo_of_71 (by rw [h29]; decide) (by rw [h29]; decide) (by rw [h29]; rfl) (by decide) ?_
      refine xj_aload_n C d_Mo_of_126 rfl 1 rfl ?_
      refine xj_get C g_Mo_63 0 rfl rfl d_Mo_of_127 ?_
      refine xj_iload_n C d_Mo_of_130 rfl 2 rfl ?_
      obtain ⟨g9, hf⟩ := xb_guard hf
      refine xj_iald C 17 0 rfl rfl g9 d_Mo_of_131 ?_
      exact xj_iret C hr hf d_Mo_of_132
    have hf := xi_neg h29 hf
    by_cases h39 : x2 = 3
    · have hf := xi_pos h39 hf
      refine xj_tableIn (tgt := 133) C d_Mo_of_71 (by rw [h39]; decide) (by rw [h39]; decide) (by rw [h39]; rfl) (by decide) ?_
      refine xj_iload_n C d_Mo_of_133 rfl 0 rfl ?_
      refine xj_if_eq (tgt := 148) C d_Mo_of_134 (by decide) (fun h9 => ?_) (fun h9 => ?_)
      · have hf := xi_pos h9 hf
        refine xj_iconst (v := (-1)) C d_Mo_of_148 rfl ?_
        exact xj_iret C hr hf d_Mo_of_149
      · have hf := xi_neg h9 hf
        refine xj_aload_n C d_Mo_of_137 rfl 1 rfl ?_
        refine xj_get C g_Mo_47 0 rfl rfl d_Mo_of_138 ?_
        refine xj_iload_n C d_Mo_of_141 rfl 2 rfl ?_
        obtain ⟨g10, hf⟩ := xb_guard hf
        refine xj_iald C 12 0 rfl rfl g10 d_Mo_of_142 ?_
        refine xj_iconst (v := 3) C d_Mo_of_143 rfl ?_
        refine xj_idiv C d_Mo_of_144 (by decide) ?_
        refine xj_goto (tgt := 149) C d_Mo_of_145 (by decide) ?_
        exact xj_iret C hr hf d_Mo_of_149
    have hf := xi_neg h39 hf
    by_cases h49 : x2 = 4
    · have hf := xi_pos h49 hf
      refine xj_tableIn (tgt := 150) C d_Mo_of_71 (by rw [h49]; decide) (by rw [h49]; decide) (by rw [h49]; rfl) (by decide) ?_
      refine xj_iload_n C d_Mo_of_150 rfl 0 rfl ?_
      refine xj_if_eq (tgt := 165) C d_Mo_of_151 (by decide) (fun h9 => ?_) (fun h9 => ?_)
      · have hf := xi_pos h9 hf
        refine xj_iconst (v := (-1)) C d_Mo_of_165 rfl ?_
        exact xj_iret C hr hf d_Mo_of_166
      · have hf := xi_neg h9 hf
        refine xj_aload_n C d_Mo_of_154 rfl 1 rfl ?_
        refine xj_get C g_Mo_47 0 rfl rfl d_Mo_of_155 ?_
        refine xj_iload_n C d_Mo_of_158 rfl 2 rfl ?_
        obtain ⟨g11, hf⟩ := xb_guard hf
        refine xj_iald C 12 0 rfl rfl g11 d_Mo_of_159 ?_
        refine xj_iconst (v := 3) C d_Mo_of_160 rfl ?_
        refine xj_irem C d_Mo_of_161 (by decide) ?_
        refine xj_goto (tgt := 166) C d_Mo_of_162 (by decide) ?_
        exact xj_iret C hr hf d_Mo_of_166
    have hf := xi_neg h49 hf
    by_cases h59 : x2 = 5
    · have hf := xi_pos h59 hf
      refine xj_tableIn (tgt := 167) C d_Mo_of_71 (by rw [h59]; decide) (by rw [h59]; decide) (by rw [h59]; rfl) (by decide) ?_
      refine xj_aload_n C d_Mo_of_167 rfl 1 rfl ?_
      refine xj_get C g_Mo_63 0 rfl rfl d_Mo_of_168 ?_
      refine xj_iload_n C d_Mo_of_171 rfl 2 rfl ?_
      obtain ⟨g12, hf⟩ := xb_guard hf
      refine xj_iald C 17 0 rfl rfl g12 d_Mo_of_172 ?_
      refine xj_aload_n C d_Mo_of_173 rfl 1 rfl ?_
      refine xj_get C g_Mo_38 0 rfl rfl d_Mo_of_174 ?_
      refine xj_iload_n C d_Mo_of_177 rfl 2 rfl ?_
      obtain ⟨g13, hf⟩ := xb_guard hf
      refine xj_iald C 9 0 rfl rfl g13 d_Mo_of_178 ?_
      refine xj_isub C d_Mo_of_179 ?_
      exact xj_iret C hr hf d_Mo_of_180
    have hf := xi_neg h59 hf
    refine xj_tableOut (tgt := 181) C d_Mo_of_71 (xsw_out 6 (by decide) (fun k hk => by rcases xlt_6 hk with rfl | rfl | rfl | rfl | rfl | rfl <;> assumption)) (by decide) ?_
    refine xj_aload_n C d_Mo_of_181 rfl 1 rfl ?_
    refine xj_iload_n C d_Mo_of_182 rfl 2 rfl ?_
    refine xj_iconst (v := 0) C d_Mo_of_183 rfl ?_
    obtain ⟨o14, ho14, hf⟩ := xb_some hf
    refine xj_callVi (rest := []) C (c_Mo_overtaken N ho14) Y_Mo_overtaken i_Mo_122 0 rfl rfl (by decide) ⟨rfl, rfl⟩ rfl rfl (Nat.le_of_ble_eq_true rfl) d_Mo_of_184 (fun q h => Or.inl h) ?_
    exact xj_iret C hr hf d_Mo_of_187
  · have hf := xi_neg h9 hf
    refine xj_iconst (v := 0) C d_Mo_of_45 rfl ?_
    exact xj_iret C hr hf d_Mo_of_46
set_option maxHeartbeats 4000000 in
set_option maxRecDepth 20000 in
theorem w_Mo_of_19 {p : Program} {l : Launch} {e : Env} {s : State} {m : MethodId} {args : Array Value} {below : List Frame} {meth : Method} {c : Code} {sz : Nat} {D : va_G} {ad : Nat → Nat} {cI : ClassId × ClassId} {out : Int32 × St} (N : (LM ad).Nodup) (C : xC p s m args meth c (xA (LM ad) sz) D 4 (tyM cI) b_Mo_of R_Mo) (hr : meth.sig.returnType = (some .int)) (x1 x2 : Int32) (st : St) (hf : f_Mo_of_19 x1 x2 st = some out) : j_i p l e rm_Mo_of s m args below meth c sz D (WM ad cI) (LM ad) out 4 (WM ad cI st) [(0, .ref (ad 0)), (1, .int x1), (2, .int x2)] 19 [.ref (ad 0)] := by
  unfold f_Mo_of_19 at hf
  refine xj_iconst (v := 1) C d_Mo_of_19 rfl ?_
  refine xj_goto (tgt := 35) C d_Mo_of_20 (by decide) ?_
  exact xj_lv [0, 1, 2] rfl (w_Mo_of_35 N C hr x1 x2 1 st hf)
set_option maxHeartbeats 4000000 in
set_option maxRecDepth 20000 in
theorem c_Mo_of {l : Launch} {D : va_G} {ad : Nat → Nat} {cI : ClassId × ClassId} (N : (LM ad).Nodup) {x1 x2 : Int32} {st : St} {out : Int32 × St} (hf : f_Mo_of x1 x2 st = some out) : xMi l y_Mo_of b_Mo_of 4 (some .int) rm_Mo_of D (tyM cI) (WM ad cI) (LM ad) [.ref (ad 0), .int x1, .int x2] st out := by
  intro sz
  refine xM_of (L := LM ad) (by decide) (Nat.le_of_ble_eq_true rfl) (fun p e s m below meth c hsz hr C => ?_)
  show j_i p l e rm_Mo_of s m _ below meth c sz D (WM ad cI) (LM ad) out 4 (WM ad cI st) [(0, .ref (ad 0)), (1, .int x1), (2, .int x2)] 0 []
  unfold f_Mo_of at hf
  refine xj_aload_n C d_Mo_of_0 rfl 0 rfl ?_
  refine xj_aload_n C d_Mo_of_1 rfl 0 rfl ?_
  refine xj_iload_n C d_Mo_of_2 rfl 1 rfl ?_
  obtain ⟨o1, ho1, hf⟩ := xb_some hf
  refine xj_callVi (rest := [.ref (ad 0)]) C (c_Mo_isShip N ho1) Y_Mo_isShip i_Mo_137 0 rfl rfl (by decide) ⟨rfl, rfl⟩ rfl rfl (Nat.le_of_ble_eq_true rfl) d_Mo_of_3 (fun q h => Or.inl h) ?_
  refine xj_if_eq (tgt := 19) C d_Mo_of_6 (by decide) (fun h9 => ?_) (fun h9 => ?_)
  · have hf := xi_pos h9 hf
    exact xj_lv [0, 1, 2] rfl (w_Mo_of_19 N C hr x1 x2 o1.2 hf)
  · have hf := xi_neg h9 hf
    refine xj_iload_n C d_Mo_of_9 rfl 2 rfl ?_
    refine xj_iconst (v := 0) C d_Mo_of_10 rfl ?_
    refine xj_bipush (v := 6) C d_Mo_of_11 rfl ?_
    obtain ⟨o15, ho15, hf⟩ := xb_some hf
    refine xj_callSi (rest := [.ref (ad 0)]) C (c_Mo_in N ho15) Y_Mo_in i_Mo_78 (by decide) ⟨rfl, rfl⟩ rfl rfl (Nat.le_of_ble_eq_true rfl) d_Mo_of_13 (fun q h => Or.inl h) ?_
    refine xj_if_ne (tgt := 23) C d_Mo_of_16 (by decide) (fun h9 => ?_) (fun h9 => ?_)
    · have hf := xi_neg h9 hf
      refine xj_aload_n C d_Mo_of_23 rfl 0 rfl ?_
      refine xj_get C g_Mo_82 0 rfl rfl d_Mo_of_24 ?_
      refine xj_if_eq (tgt := 34) C d_Mo_of_27 (by decide) (fun h9 => ?_) (fun h9 => ?_)
      · have hf := xi_pos h9 hf
        refine xj_iconst (v := 2) C d_Mo_of_34 rfl ?_
        exact xj_lv [0, 1, 2] rfl (w_Mo_of_35 N C hr x1 x2 2 o15.2 hf)
      · have hf := xi_neg h9 hf
        refine xj_iconst (v := 0) C d_Mo_of_30 rfl ?_
        refine xj_goto (tgt := 35) C d_Mo_of_31 (by decide) ?_
        exact xj_lv [0, 1, 2] rfl (w_Mo_of_35 N C hr x1 x2 0 o15.2 hf)
    · have hf := xi_pos h9 hf
      exact xj_lv [0, 1, 2] rfl (w_Mo_of_19 N C hr x1 x2 o15.2 hf)
set_option maxHeartbeats 4000000 in
set_option maxRecDepth 20000 in
theorem w_Mo_run_68 {p : Program} {l : Launch} {e : Env} {s : State} {m : MethodId} {args : Array Value} {below : List Frame} {meth : Method} {c : Code} {sz : Nat} {D : va_G} {ad : Nat → Nat} {cI : ClassId × ClassId} {out : Int32 × St} (N : (LM ad).Nodup) (C : xC p s m args meth c (xA (LM ad) sz) D 5 (tyM cI) b_Mo_run R_Mo) (hr : meth.sig.returnType = (some .int)) (x3 y0 : Int32) (st : St) (hf : f_Mo_run_68 x3 y0 st = some out) : j_i p l e rm_Mo_run s m args below meth c sz D (WM ad cI) (LM ad) out 5 (WM ad cI st) [(0, .ref (ad 0)), (3, .int x3)] 68 [.int y0] := by
  unfold f_Mo_run_68 at hf
  refine xj_istore C d_Mo_run_68 (by decide) rfl ?_
  refine xj_iload C d_Mo_run_70 0 rfl ?_
  refine xj_if_ne (tgt := 77) C d_Mo_run_72 (by decide) (fun h9 => ?_) (fun h9 => ?_)
  · have hf := xi_neg h9 hf
    refine xj_iload_n C d_Mo_run_77 rfl 2 rfl ?_
    refine xj_if_ne (tgt := 94) C d_Mo_run_78 (by decide) (fun h9 => ?_) (fun h9 => ?_)
    · have hf := xi_neg h9 hf
      refine xj_iload_n C d_Mo_run_94 rfl 2 rfl ?_
      refine xj_iconst (v := 1) C d_Mo_run_95 rfl ?_
      refine xj_icmp_ne (tgt := 112) C d_Mo_run_96 (by decide) (fun h9 => ?_) (fun h9 => ?_)
      · have hf := xi_neg h9 hf
        refine xj_iload C d_Mo_run_112 0 rfl ?_
        exact xj_iret C hr hf d_Mo_run_114
      · have hf := xi_pos h9 hf
        refine xj_aload_n C d_Mo_run_99 rfl 1 rfl ?_
        refine xj_get C g_Mo_41 0 rfl rfl d_Mo_run_100 ?_
        refine xj_iload C d_Mo_run_103 0 rfl ?_
        obtain ⟨o4, ho4, hf⟩ := xb_some hf
        refine xj_callSi (rest := [.ref (ad 10)]) C (c_Mo_first N ho4) Y_Mo_first i_Mo_104 (by decide) ⟨rfl, rfl⟩ rfl rfl (Nat.le_of_ble_eq_true rfl) d_Mo_run_105 (fun q h => Or.inl h) ?_
        obtain ⟨g5, hf⟩ := xb_guard hf
        refine xj_iald C 10 0 rfl rfl g5 d_Mo_run_108 ?_
        refine xj_goto (tgt := 114) C d_Mo_run_109 (by decide) ?_
        exact xj_iret C hr hf d_Mo_run_114
    · have hf := xi_pos h9 hf
      refine xj_aload_n C d_Mo_run_81 rfl 1 rfl ?_
      refine xj_get C g_Mo_63 0 rfl rfl d_Mo_run_82 ?_
      refine xj_iload C d_Mo_run_85 0 rfl ?_
      obtain ⟨o6, ho6, hf⟩ := xb_some hf
      refine xj_callSi (rest := [.ref (ad 17)]) C (c_Mo_first N ho6) Y_Mo_first i_Mo_104 (by decide) ⟨rfl, rfl⟩ rfl rfl (Nat.le_of_ble_eq_true rfl) d_Mo_run_87 (fun q h => Or.inl h) ?_
      obtain ⟨g7, hf⟩ := xb_guard hf
      refine xj_iald C 17 0 rfl rfl g7 d_Mo_run_90 ?_
      refine xj_goto (tgt := 114) C d_Mo_run_91 (by decide) ?_
      exact xj_iret C hr hf d_Mo_run_114
  · have hf := xi_pos h9 hf
    refine xj_iconst (v := (-1)) C d_Mo_run_75 rfl ?_
    exact xj_iret C hr hf d_Mo_run_76
set_option maxHeartbeats 4000000 in
set_option maxRecDepth 20000 in
theorem w_Mo_run_34 {p : Program} {l : Launch} {e : Env} {s : State} {m : MethodId} {args : Array Value} {below : List Frame} {meth : Method} {c : Code} {sz : Nat} {D : va_G} {ad : Nat → Nat} {cI : ClassId × ClassId} {out : Int32 × St} (N : (LM ad).Nodup) (C : xC p s m args meth c (xA (LM ad) sz) D 5 (tyM cI) b_Mo_run R_Mo) (hr : meth.sig.returnType = (some .int)) (x1 x2 x3 y0 : Int32) (st : St) (hf : f_Mo_run_34 x1 x2 x3 y0 st = some out) : j_i p l e rm_Mo_run s m args below meth c sz D (WM ad cI) (LM ad) out 5 (WM ad cI st) [(0, .ref (ad 0)), (1, .int x1), (2, .int x2), (3, .int x3)] 34 [.int y0, .ref (ad 0)] := by
  unfold f_Mo_run_34 at hf
  obtain ⟨s2, es2, hf⟩ := xlet_ex hf
  refine xj_put (ws' := WM ad cI s2) C g_Mo_69 gw_Mo_thrown (WM_D N sz _) 0 rfl rfl rfl (Nat.le_of_ble_eq_true rfl) d_Mo_run_34 (by rw [es2]; rfl) ?_
  refine xj_aload_n C d_Mo_run_37 rfl 0 rfl ?_
  refine xj_get C g_Mo_69 0 rfl rfl d_Mo_run_38 ?_
  refine xj_if_le (tgt := 46) C d_Mo_run_41 (by decide) (fun h9 => ?_) (fun h9 => ?_)
  · have hf := xi_pos h9 hf
    refine xj_iload_n C d_Mo_run_46 rfl 2 rfl ?_
    refine xj_iconst (v := 0) C d_Mo_run_47 rfl ?_
    refine xj_iconst (v := 3) C d_Mo_run_48 rfl ?_
    obtain ⟨o3, ho3, hf⟩ := xb_some hf
    refine xj_callSi (rest := []) C (c_Mo_in N ho3) Y_Mo_in i_Mo_78 (by decide) ⟨rfl, rfl⟩ rfl rfl (Nat.le_of_ble_eq_true rfl) d_Mo_run_49 (fun q h => Or.inl h) ?_
    refine xj_if_eq (tgt := 67) C d_Mo_run_52 (by decide) (fun h9 => ?_) (fun h9 => ?_)
    · have hf := xi_pos h9 hf
      refine xj_iconst (v := 0) C d_Mo_run_67 rfl ?_
      exact xj_lv [0, 3] rfl (w_Mo_run_68 N C hr x3 0 o3.2 hf)
    · have hf := xi_neg h9 hf
      refine xj_aload_n C d_Mo_run_55 rfl 0 rfl ?_
      refine xj_iconst (v := 4) C d_Mo_run_56 rfl ?_
      refine xj_iload_n C d_Mo_run_57 rfl 1 rfl ?_
      refine xj_imul C d_Mo_run_58 ?_
      refine xj_iload_n C d_Mo_run_59 rfl 2 rfl ?_
      refine xj_iadd C d_Mo_run_60 ?_
      obtain ⟨o8, ho8, hf⟩ := xb_some hf
      refine xj_callVi (rest := []) C (c_Mo_shipsOf N ho8) Y_Mo_shipsOf i_Mo_140 0 rfl rfl (by decide) ⟨rfl, rfl⟩ rfl rfl (Nat.le_of_ble_eq_true rfl) d_Mo_run_61 (fun q h => Or.inl h) ?_
      refine xj_goto (tgt := 68) C d_Mo_run_64 (by decide) ?_
      exact xj_lv [0, 3] rfl (w_Mo_run_68 N C hr x3 o8.1 o8.2 hf)
  · have hf := xi_neg h9 hf
    refine xj_iconst (v := 0) C d_Mo_run_44 rfl ?_
    exact xj_iret C hr hf d_Mo_run_45
set_option maxHeartbeats 4000000 in
set_option maxRecDepth 20000 in
theorem w_Mo_run_18 {p : Program} {l : Launch} {e : Env} {s : State} {m : MethodId} {args : Array Value} {below : List Frame} {meth : Method} {c : Code} {sz : Nat} {D : va_G} {ad : Nat → Nat} {cI : ClassId × ClassId} {out : Int32 × St} (N : (LM ad).Nodup) (C : xC p s m args meth c (xA (LM ad) sz) D 5 (tyM cI) b_Mo_run R_Mo) (hr : meth.sig.returnType = (some .int)) (x1 x2 x3 : Int32) (st : St) (hf : f_Mo_run_18 x1 x2 x3 st = some out) : j_i p l e rm_Mo_run s m args below meth c sz D (WM ad cI) (LM ad) out 5 (WM ad cI st) [(0, .ref (ad 0)), (1, .int x1), (2, .int x2), (3, .int x3)] 18 [.ref (ad 0)] := by
  unfold f_Mo_run_18 at hf
  refine xj_iconst (v := 1) C d_Mo_run_18 rfl ?_
  refine xj_goto (tgt := 34) C d_Mo_run_19 (by decide) ?_
  exact xj_lv [0, 1, 2, 3] rfl (w_Mo_run_34 N C hr x1 x2 x3 1 st hf)
set_option maxHeartbeats 4000000 in
set_option maxRecDepth 20000 in
theorem c_Mo_run {l : Launch} {D : va_G} {ad : Nat → Nat} {cI : ClassId × ClassId} (N : (LM ad).Nodup) {x1 x2 x3 : Int32} {st : St} {out : Int32 × St} (hf : f_Mo_run x1 x2 x3 st = some out) : xMi l y_Mo_run b_Mo_run 5 (some .int) rm_Mo_run D (tyM cI) (WM ad cI) (LM ad) [.ref (ad 0), .int x1, .int x2, .int x3] st out := by
  intro sz
  refine xM_of (L := LM ad) (by decide) (Nat.le_of_ble_eq_true rfl) (fun p e s m below meth c hsz hr C => ?_)
  show j_i p l e rm_Mo_run s m _ below meth c sz D (WM ad cI) (LM ad) out 5 (WM ad cI st) [(0, .ref (ad 0)), (1, .int x1), (2, .int x2), (3, .int x3)] 0 []
  unfold f_Mo_run at hf
  refine xj_aload_n C d_Mo_run_0 rfl 0 rfl ?_
  refine xj_aload_n C d_Mo_run_1 rfl 0 rfl ?_
  refine xj_iload_n C d_Mo_run_2 rfl 1 rfl ?_
  obtain ⟨o1, ho1, hf⟩ := xb_some hf
  refine xj_callVi (rest := [.ref (ad 0)]) C (c_Mo_isChamber N ho1) Y_Mo_isChamber i_Mo_86 0 rfl rfl (by decide) ⟨rfl, rfl⟩ rfl rfl (Nat.le_of_ble_eq_true rfl) d_Mo_run_3 (fun q h => Or.inl h) ?_
  refine xj_if_eq (tgt := 18) C d_Mo_run_6 (by decide) (fun h9 => ?_) (fun h9 => ?_)
  · have hf := xi_pos h9 hf
    exact xj_lv [0, 1, 2, 3] rfl (w_Mo_run_18 N C hr x1 x2 x3 o1.2 hf)
  · have hf := xi_neg h9 hf
    refine xj_iload_n C d_Mo_run_9 rfl 3 rfl ?_
    refine xj_iconst (v := 0) C d_Mo_run_10 rfl ?_
    refine xj_iconst (v := 2) C d_Mo_run_11 rfl ?_
    obtain ⟨o9, ho9, hf⟩ := xb_some hf
    refine xj_callSi (rest := [.ref (ad 0)]) C (c_Mo_in N ho9) Y_Mo_in i_Mo_78 (by decide) ⟨rfl, rfl⟩ rfl rfl (Nat.le_of_ble_eq_true rfl) d_Mo_run_12 (fun q h => Or.inl h) ?_
    refine xj_if_ne (tgt := 22) C d_Mo_run_15 (by decide) (fun h9 => ?_) (fun h9 => ?_)
    · have hf := xi_neg h9 hf
      refine xj_aload_n C d_Mo_run_22 rfl 0 rfl ?_
      refine xj_get C g_Mo_82 0 rfl rfl d_Mo_run_23 ?_
      refine xj_if_eq (tgt := 33) C d_Mo_run_26 (by decide) (fun h9 => ?_) (fun h9 => ?_)
      · have hf := xi_pos h9 hf
        refine xj_iconst (v := 2) C d_Mo_run_33 rfl ?_
        exact xj_lv [0, 1, 2, 3] rfl (w_Mo_run_34 N C hr x1 x2 x3 2 o9.2 hf)
      · have hf := xi_neg h9 hf
        refine xj_iconst (v := 0) C d_Mo_run_29 rfl ?_
        refine xj_goto (tgt := 34) C d_Mo_run_30 (by decide) ?_
        exact xj_lv [0, 1, 2, 3] rfl (w_Mo_run_34 N C hr x1 x2 x3 0 o9.2 hf)
    · have hf := xi_pos h9 hf
      exact xj_lv [0, 1, 2, 3] rfl (w_Mo_run_18 N C hr x1 x2 x3 o9.2 hf)
set_option maxHeartbeats 4000000 in
set_option maxRecDepth 20000 in
theorem w_Mo_late_193 {p : Program} {l : Launch} {e : Env} {s : State} {m : MethodId} {args : Array Value} {below : List Frame} {meth : Method} {c : Code} {sz : Nat} {D : va_G} {ad : Nat → Nat} {cI : ClassId × ClassId} {out : Int32 × St} (N : (LM ad).Nodup) (C : xC p s m args meth c (xA (LM ad) sz) D 8 (tyM cI) b_Mo_late R_Mo) (hr : meth.sig.returnType = (some .int)) {K149 : Int64 → Int32 → Int32 → St → Option (Int32 × St)} (hK149 : ∀ (x3 : Int64) (x6 x7 : Int32) (st : St), K149 x3 x6 x7 st = some out → j_i p l e rm_Mo_late s m args below meth c sz D (WM ad cI) (LM ad) out 8 (WM ad cI st) [(0, .ref (ad 0)), (3, .long x3), (6, .int x6), (7, .int x7)] 149 []) (x3 : Int64) (x7 y0 y1 : Int32) (st : St) (hf : f_Mo_late_193 K149 x3 x7 y0 y1 st = some out) : j_i p l e rm_Mo_late s m args below meth c sz D (WM ad cI) (LM ad) out 8 (WM ad cI st) [(0, .ref (ad 0)), (3, .long x3), (7, .int x7)] 193 [.int y0, .int y1] := by
  unfold f_Mo_late_193 at hf
  refine xj_iadd C d_Mo_late_193 ?_
  refine xj_topi (fun v12 ev12 => ?_)
  have hf := xlet_at ev12 hf
  refine xj_istore C d_Mo_late_194 (by decide) rfl ?_
  refine xj_lload_n C d_Mo_late_196 rfl 2 rfl ?_
  refine xj_ldc2 (v := 40000) C k_Mo_143 d_Mo_late_197 ?_
  refine xj_ldiv C d_Mo_late_200 (by decide) ?_
  refine xj_topl (fun v13 ev13 => ?_)
  have hf := xlet_at ev13 hf
  refine xj_lstore_n C d_Mo_late_201 rfl (by decide) rfl ?_
  refine xj_iinc (v := x7 + (-1)) (j := 3) C d_Mo_late_202 rfl rfl (by decide) rfl ?_
  refine xj_goto (tgt := 149) C d_Mo_late_205 (by decide) ?_
  exact xj_lv [3, 1, 2, 0] rfl (hK149 v13 v12 (x7 + (-1)) st hf)
set_option maxHeartbeats 4000000 in
set_option maxRecDepth 20000 in
theorem wb_Mo_late_149 {p : Program} {l : Launch} {e : Env} {s : State} {m : MethodId} {args : Array Value} {below : List Frame} {meth : Method} {c : Code} {sz : Nat} {D : va_G} {ad : Nat → Nat} {cI : ClassId × ClassId} {out : Int32 × St} (N : (LM ad).Nodup) (C : xC p s m args meth c (xA (LM ad) sz) D 8 (tyM cI) b_Mo_late R_Mo) (hr : meth.sig.returnType = (some .int)) {K149 : Int64 → Int32 → Int32 → St → Option (Int32 × St)} (hK149 : ∀ (x3 : Int64) (x6 x7 : Int32) (st : St), K149 x3 x6 x7 st = some out → j_i p l e rm_Mo_late s m args below meth c sz D (WM ad cI) (LM ad) out 8 (WM ad cI st) [(0, .ref (ad 0)), (3, .long x3), (6, .int x6), (7, .int x7)] 149 []) (x3 : Int64) (x6 x7 : Int32) (st : St) (hf : b_Mo_late_149 K149 x3 x6 x7 st = some out) : j_i p l e rm_Mo_late s m args below meth c sz D (WM ad cI) (LM ad) out 8 (WM ad cI st) [(0, .ref (ad 0)), (3, .long x3), (6, .int x6), (7, .int x7)] 149 [] := by
  unfold b_Mo_late_149 at hf
  refine xj_iload C d_Mo_late_149 3 rfl ?_
  refine xj_if_lt (tgt := 208) C d_Mo_late_151 (by decide) (fun h9 => ?_) (fun h9 => ?_)
  · have hf := xi_pos h9 hf
    refine xj_iload C d_Mo_late_208 2 rfl ?_
    exact xj_iret C hr hf d_Mo_late_210
  · have hf := xi_neg h9 hf
    refine xj_iload C d_Mo_late_154 2 rfl ?_
    refine xj_lload_n C d_Mo_late_156 rfl 1 rfl ?_
    refine xj_ldc2 (v := 40000) C k_Mo_143 d_Mo_late_157 ?_
    refine xj_lrem C d_Mo_late_160 (by decide) ?_
    refine xj_ldc2 (v := 2) C k_Mo_145 d_Mo_late_161 ?_
    refine xj_aload_n C d_Mo_late_164 rfl 0 rfl ?_
    refine xj_get C g_Mo_63 0 rfl rfl d_Mo_late_165 ?_
    refine xj_iload C d_Mo_late_168 3 rfl ?_
    obtain ⟨g10, hf⟩ := xb_guard hf
    refine xj_iald C 17 0 rfl rfl g10 d_Mo_late_170 ?_
    refine xj_i2l (v := (st.2 16 x7.toNatClampNeg).toInt64) C d_Mo_late_171 rfl ?_
    refine xj_lmul C d_Mo_late_172 ?_
    refine xj_aload_n C d_Mo_late_173 rfl 0 rfl ?_
    refine xj_get C g_Mo_60 0 rfl rfl d_Mo_late_174 ?_
    refine xj_iload C d_Mo_late_177 3 rfl ?_
    obtain ⟨g11, hf⟩ := xb_guard hf
    refine xj_iald C 16 0 rfl rfl g11 d_Mo_late_179 ?_
    refine xj_iconst (v := 4) C d_Mo_late_180 rfl ?_
    refine xj_idiv C d_Mo_late_181 (by decide) ?_
    refine xj_i2l (v := ((st.2 15 x7.toNatClampNeg) / 4).toInt64) C d_Mo_late_182 rfl ?_
    refine xj_ladd C d_Mo_late_183 ?_
    refine xj_lcmp C d_Mo_late_184 ?_
    refine xj_if_eq (tgt := 192) C d_Mo_late_185 (by decide) (fun h9 => ?_) (fun h9 => ?_)
    · have hf := xi_pos h9 hf
      refine xj_iconst (v := 0) C d_Mo_late_192 rfl ?_
      exact xj_lv [0, 1, 3] rfl (w_Mo_late_193 N C hr hK149 x3 x7 0 x6 st hf)
    · have hf := xi_neg h9 hf
      refine xj_iconst (v := 1) C d_Mo_late_188 rfl ?_
      refine xj_goto (tgt := 193) C d_Mo_late_189 (by decide) ?_
      exact xj_lv [0, 1, 3] rfl (w_Mo_late_193 N C hr hK149 x3 x7 1 x6 st hf)
set_option maxHeartbeats 4000000 in
set_option maxRecDepth 20000 in
theorem w_Mo_late_149 {p : Program} {l : Launch} {e : Env} {s : State} {m : MethodId} {args : Array Value} {below : List Frame} {meth : Method} {c : Code} {sz : Nat} {D : va_G} {ad : Nat → Nat} {cI : ClassId × ClassId} {out : Int32 × St} (N : (LM ad).Nodup) (C : xC p s m args meth c (xA (LM ad) sz) D 8 (tyM cI) b_Mo_late R_Mo) (hr : meth.sig.returnType = (some .int)) (n : Nat) : ∀ (x3 : Int64) (x6 x7 : Int32) (st : St), f_Mo_late_149 n x3 x6 x7 st = some out → j_i p l e rm_Mo_late s m args below meth c sz D (WM ad cI) (LM ad) out 8 (WM ad cI st) [(0, .ref (ad 0)), (3, .long x3), (6, .int x6), (7, .int x7)] 149 [] := by
  induction n with
  | zero => intro x3 x6 x7 st hf; exact absurd (show (none : Option (Int32 × St)) = some out from hf) (fun h => by cases h)
  | succ n ih => intro x3 x6 x7 st hf; exact wb_Mo_late_149 N C hr ih x3 x6 x7 st hf
set_option maxHeartbeats 4000000 in
set_option maxRecDepth 20000 in
theorem w_Mo_late_126 {p : Program} {l : Launch} {e : Env} {s : State} {m : MethodId} {args : Array Value} {below : List Frame} {meth : Method} {c : Code} {sz : Nat} {D : va_G} {ad : Nat → Nat} {cI : ClassId × ClassId} {out : Int32 × St} (N : (LM ad).Nodup) (C : xC p s m args meth c (xA (LM ad) sz) D 8 (tyM cI) b_Mo_late R_Mo) (hr : meth.sig.returnType = (some .int)) (x3 : Int64) (y0 : Int32) (st : St) (hf : f_Mo_late_126 x3 y0 st = some out) : j_i p l e rm_Mo_late s m args below meth c sz D (WM ad cI) (LM ad) out 8 (WM ad cI st) [(0, .ref (ad 0)), (3, .long x3)] 126 [.int y0, .ref (ad 0)] := by
  unfold f_Mo_late_126 at hf
  obtain ⟨g7, hf⟩ := xb_guard hf
  obtain ⟨s8, es8, hf⟩ := xlet_ex hf
  refine xj_put (ws' := WM ad cI s8) C g_Mo_82 gw_Mo_isPlan (WM_D N sz _) 0 rfl (xb_narrow g7) (xb_fits g7) (Nat.le_of_ble_eq_true rfl) d_Mo_late_126 (by rw [es8]; rfl) ?_
  refine xj_aload_n C d_Mo_late_129 rfl 0 rfl ?_
  refine xj_get C g_Mo_82 0 rfl rfl d_Mo_late_130 ?_
  refine xj_if_ne (tgt := 138) C d_Mo_late_133 (by decide) (fun h9 => ?_) (fun h9 => ?_)
  · have hf := xi_neg h9 hf
    refine xj_iconst (v := 0) C d_Mo_late_138 rfl ?_
    refine xj_istore C d_Mo_late_139 (by decide) rfl ?_
    refine xj_aload_n C d_Mo_late_141 rfl 1 rfl ?_
    refine xj_get C g_Mo_75 0 rfl rfl d_Mo_late_142 ?_
    refine xj_iconst (v := 1) C d_Mo_late_145 rfl ?_
    refine xj_isub C d_Mo_late_146 ?_
    refine xj_topi (fun v9 ev9 => ?_)
    have hf := xlet_at ev9 hf
    refine xj_istore C d_Mo_late_147 (by decide) rfl ?_
    exact xj_lv [2, 3, 1, 0] rfl (w_Mo_late_149 N C hr 40 x3 0 v9 s8 hf)
  · have hf := xi_pos h9 hf
    refine xj_iconst (v := (-1)) C d_Mo_late_136 rfl ?_
    exact xj_iret C hr hf d_Mo_late_137
set_option maxHeartbeats 4000000 in
set_option maxRecDepth 20000 in
theorem wb_Mo_late_57 {p : Program} {l : Launch} {e : Env} {s : State} {m : MethodId} {args : Array Value} {below : List Frame} {meth : Method} {c : Code} {sz : Nat} {D : va_G} {ad : Nat → Nat} {cI : ClassId × ClassId} {out : Int32 × St} (N : (LM ad).Nodup) (C : xC p s m args meth c (xA (LM ad) sz) D 8 (tyM cI) b_Mo_late R_Mo) (hr : meth.sig.returnType = (some .int)) {K57 : Int32 → Int32 → Int64 → Int32 → St → Option (Int32 × St)} (hK57 : ∀ (x1 x2 : Int32) (x3 : Int64) (x5 : Int32) (st : St), K57 x1 x2 x3 x5 st = some out → j_i p l e rm_Mo_late s m args below meth c sz D (WM ad cI) (LM ad) out 8 (WM ad cI st) [(0, .ref (ad 0)), (1, .int x1), (2, .int x2), (3, .long x3), (5, .int x5)] 57 []) (x1 x2 : Int32) (x3 : Int64) (x5 : Int32) (st : St) (hf : b_Mo_late_57 K57 x1 x2 x3 x5 st = some out) : j_i p l e rm_Mo_late s m args below meth c sz D (WM ad cI) (LM ad) out 8 (WM ad cI st) [(0, .ref (ad 0)), (1, .int x1), (2, .int x2), (3, .long x3), (5, .int x5)] 57 [] := by
  unfold b_Mo_late_57 at hf
  refine xj_iload C d_Mo_late_57 4 rfl ?_
  refine xj_aload_n C d_Mo_late_59 rfl 0 rfl ?_
  refine xj_get C g_Mo_75 0 rfl rfl d_Mo_late_60 ?_
  refine xj_icmp_ge (tgt := 102) C d_Mo_late_63 (by decide) (fun h9 => ?_) (fun h9 => ?_)
  · have hf := xi_pos h9 hf
    refine xj_aload_n C d_Mo_late_102 rfl 0 rfl ?_
    refine xj_get C g_Mo_38 0 rfl rfl d_Mo_late_103 ?_
    refine xj_iload_n C d_Mo_late_106 rfl 1 rfl ?_
    refine xj_iload_n C d_Mo_late_107 rfl 2 rfl ?_
    obtain ⟨g4, hf⟩ := xb_guard hf
    obtain ⟨s5, es5, hf⟩ := xlet_ex hf
    refine xj_iast (ws' := WM ad cI s5) C (WM_D N sz _) 9 0 rfl rfl g4 d_Mo_late_108 (by rw [es5]; rfl) ?_
    refine xj_aload_n C d_Mo_late_109 rfl 0 rfl ?_
    obtain ⟨o6, ho6, hf⟩ := xb_some hf
    refine xj_callVi (rest := []) C (c_Mo_search N ho6) Y_Mo_search i_Mo_134 0 rfl rfl (by decide) ⟨rfl, rfl⟩ rfl rfl (Nat.le_of_ble_eq_true rfl) d_Mo_late_110 (fun q h => Or.inl h) ?_
    refine xj_istore C d_Mo_late_113 (by decide) rfl ?_
    refine xj_aload_n C d_Mo_late_115 rfl 1 rfl ?_
    refine xj_iload C d_Mo_late_116 0 rfl ?_
    refine xj_if_lt (tgt := 125) C d_Mo_late_118 (by decide) (fun h9 => ?_) (fun h9 => ?_)
    · have hf := xi_pos h9 hf
      refine xj_iconst (v := 0) C d_Mo_late_125 rfl ?_
      exact xj_lv [1, 4] rfl (w_Mo_late_126 N C hr x3 0 o6.2 hf)
    · have hf := xi_neg h9 hf
      refine xj_iconst (v := 1) C d_Mo_late_121 rfl ?_
      refine xj_goto (tgt := 126) C d_Mo_late_122 (by decide) ?_
      exact xj_lv [1, 4] rfl (w_Mo_late_126 N C hr x3 1 o6.2 hf)
  · have hf := xi_neg h9 hf
    refine xj_ldc2 (v := 40000) C k_Mo_143 d_Mo_late_66 ?_
    refine xj_lload_n C d_Mo_late_69 rfl 3 rfl ?_
    refine xj_lmul C d_Mo_late_70 ?_
    refine xj_ldc2 (v := 2) C k_Mo_145 d_Mo_late_71 ?_
    refine xj_aload_n C d_Mo_late_74 rfl 0 rfl ?_
    refine xj_get C g_Mo_63 0 rfl rfl d_Mo_late_75 ?_
    refine xj_iload C d_Mo_late_78 4 rfl ?_
    obtain ⟨g14, hf⟩ := xb_guard hf
    refine xj_iald C 17 0 rfl rfl g14 d_Mo_late_80 ?_
    refine xj_i2l (v := (st.2 16 x5.toNatClampNeg).toInt64) C d_Mo_late_81 rfl ?_
    refine xj_lmul C d_Mo_late_82 ?_
    refine xj_ladd C d_Mo_late_83 ?_
    refine xj_aload_n C d_Mo_late_84 rfl 0 rfl ?_
    refine xj_get C g_Mo_60 0 rfl rfl d_Mo_late_85 ?_
    refine xj_iload C d_Mo_late_88 4 rfl ?_
    obtain ⟨g15, hf⟩ := xb_guard hf
    refine xj_iald C 16 0 rfl rfl g15 d_Mo_late_90 ?_
    refine xj_iconst (v := 4) C d_Mo_late_91 rfl ?_
    refine xj_idiv C d_Mo_late_92 (by decide) ?_
    refine xj_i2l (v := ((st.2 15 x5.toNatClampNeg) / 4).toInt64) C d_Mo_late_93 rfl ?_
    refine xj_ladd C d_Mo_late_94 ?_
    refine xj_topl (fun v16 ev16 => ?_)
    have hf := xlet_at ev16 hf
    refine xj_lstore_n C d_Mo_late_95 rfl (by decide) rfl ?_
    refine xj_iinc (v := x5 + 1) (j := 4) C d_Mo_late_96 rfl rfl (by decide) rfl ?_
    refine xj_goto (tgt := 57) C d_Mo_late_99 (by decide) ?_
    exact xj_lv [2, 3, 4, 1, 0] rfl (hK57 x1 x2 v16 (x5 + 1) st hf)
set_option maxHeartbeats 4000000 in
set_option maxRecDepth 20000 in
theorem w_Mo_late_57 {p : Program} {l : Launch} {e : Env} {s : State} {m : MethodId} {args : Array Value} {below : List Frame} {meth : Method} {c : Code} {sz : Nat} {D : va_G} {ad : Nat → Nat} {cI : ClassId × ClassId} {out : Int32 × St} (N : (LM ad).Nodup) (C : xC p s m args meth c (xA (LM ad) sz) D 8 (tyM cI) b_Mo_late R_Mo) (hr : meth.sig.returnType = (some .int)) (n : Nat) : ∀ (x1 x2 : Int32) (x3 : Int64) (x5 : Int32) (st : St), f_Mo_late_57 n x1 x2 x3 x5 st = some out → j_i p l e rm_Mo_late s m args below meth c sz D (WM ad cI) (LM ad) out 8 (WM ad cI st) [(0, .ref (ad 0)), (1, .int x1), (2, .int x2), (3, .long x3), (5, .int x5)] 57 [] := by
  induction n with
  | zero => intro x1 x2 x3 x5 st hf; exact absurd (show (none : Option (Int32 × St)) = some out from hf) (fun h => by cases h)
  | succ n ih => intro x1 x2 x3 x5 st hf; exact wb_Mo_late_57 N C hr ih x1 x2 x3 x5 st hf
set_option maxHeartbeats 4000000 in
set_option maxRecDepth 20000 in
theorem w_Mo_late_40 {p : Program} {l : Launch} {e : Env} {s : State} {m : MethodId} {args : Array Value} {below : List Frame} {meth : Method} {c : Code} {sz : Nat} {D : va_G} {ad : Nat → Nat} {cI : ClassId × ClassId} {out : Int32 × St} (N : (LM ad).Nodup) (C : xC p s m args meth c (xA (LM ad) sz) D 8 (tyM cI) b_Mo_late R_Mo) (hr : meth.sig.returnType = (some .int)) (x1 x2 y0 : Int32) (st : St) (hf : f_Mo_late_40 x1 x2 y0 st = some out) : j_i p l e rm_Mo_late s m args below meth c sz D (WM ad cI) (LM ad) out 8 (WM ad cI st) [(0, .ref (ad 0)), (1, .int x1), (2, .int x2)] 40 [.int y0, .ref (ad 0)] := by
  unfold f_Mo_late_40 at hf
  obtain ⟨s3, es3, hf⟩ := xlet_ex hf
  refine xj_put (ws' := WM ad cI s3) C g_Mo_69 gw_Mo_thrown (WM_D N sz _) 0 rfl rfl rfl (Nat.le_of_ble_eq_true rfl) d_Mo_late_40 (by rw [es3]; rfl) ?_
  refine xj_aload_n C d_Mo_late_43 rfl 0 rfl ?_
  refine xj_get C g_Mo_69 0 rfl rfl d_Mo_late_44 ?_
  refine xj_if_le (tgt := 52) C d_Mo_late_47 (by decide) (fun h9 => ?_) (fun h9 => ?_)
  · have hf := xi_pos h9 hf
    refine xj_lconst (v := 0) C d_Mo_late_52 rfl ?_
    refine xj_lstore_n C d_Mo_late_53 rfl (by decide) rfl ?_
    refine xj_iconst (v := 0) C d_Mo_late_54 rfl ?_
    refine xj_istore C d_Mo_late_55 (by decide) rfl ?_
    exact xj_lv [2, 3, 4, 1, 0] rfl (w_Mo_late_57 N C hr 40 x1 x2 0 0 s3 hf)
  · have hf := xi_neg h9 hf
    refine xj_iconst (v := 0) C d_Mo_late_50 rfl ?_
    exact xj_iret C hr hf d_Mo_late_51
set_option maxHeartbeats 4000000 in
set_option maxRecDepth 20000 in
theorem c_Mo_late {l : Launch} {D : va_G} {ad : Nat → Nat} {cI : ClassId × ClassId} (N : (LM ad).Nodup) {x1 x2 : Int32} {st : St} {out : Int32 × St} (hf : f_Mo_late x1 x2 st = some out) : xMi l y_Mo_late b_Mo_late 8 (some .int) rm_Mo_late D (tyM cI) (WM ad cI) (LM ad) [.ref (ad 0), .int x1, .int x2] st out := by
  intro sz
  refine xM_of (L := LM ad) (by decide) (Nat.le_of_ble_eq_true rfl) (fun p e s m below meth c hsz hr C => ?_)
  show j_i p l e rm_Mo_late s m _ below meth c sz D (WM ad cI) (LM ad) out 8 (WM ad cI st) [(0, .ref (ad 0)), (1, .int x1), (2, .int x2)] 0 []
  unfold f_Mo_late at hf
  refine xj_aload_n C d_Mo_late_0 rfl 0 rfl ?_
  refine xj_aload_n C d_Mo_late_1 rfl 0 rfl ?_
  refine xj_iload_n C d_Mo_late_2 rfl 1 rfl ?_
  obtain ⟨o1, ho1, hf⟩ := xb_some hf
  refine xj_callVi (rest := [.ref (ad 0)]) C (c_Mo_isShip N ho1) Y_Mo_isShip i_Mo_137 0 rfl rfl (by decide) ⟨rfl, rfl⟩ rfl rfl (Nat.le_of_ble_eq_true rfl) d_Mo_late_3 (fun q h => Or.inl h) ?_
  refine xj_if_ne (tgt := 13) C d_Mo_late_6 (by decide) (fun h9 => ?_) (fun h9 => ?_)
  · have hf := xi_neg h9 hf
    refine xj_iload_n C d_Mo_late_13 rfl 2 rfl ?_
    refine xj_iconst (v := 0) C d_Mo_late_14 rfl ?_
    refine xj_sipush (v := 1000) C d_Mo_late_15 rfl ?_
    obtain ⟨o2, ho2, hf⟩ := xb_some hf
    refine xj_callSi (rest := [.ref (ad 0)]) C (c_Mo_in N ho2) Y_Mo_in i_Mo_78 (by decide) ⟨rfl, rfl⟩ rfl rfl (Nat.le_of_ble_eq_true rfl) d_Mo_late_18 (fun q h => Or.inl h) ?_
    refine xj_if_ne (tgt := 28) C d_Mo_late_21 (by decide) (fun h9 => ?_) (fun h9 => ?_)
    · have hf := xi_neg h9 hf
      refine xj_aload_n C d_Mo_late_28 rfl 0 rfl ?_
      refine xj_get C g_Mo_82 0 rfl rfl d_Mo_late_29 ?_
      refine xj_if_ne (tgt := 39) C d_Mo_late_32 (by decide) (fun h9 => ?_) (fun h9 => ?_)
      · have hf := xi_neg h9 hf
        refine xj_iconst (v := 0) C d_Mo_late_39 rfl ?_
        exact xj_lv [0, 1, 2] rfl (w_Mo_late_40 N C hr x1 x2 0 o2.2 hf)
      · have hf := xi_pos h9 hf
        refine xj_iconst (v := 3) C d_Mo_late_35 rfl ?_
        refine xj_goto (tgt := 40) C d_Mo_late_36 (by decide) ?_
        exact xj_lv [0, 1, 2] rfl (w_Mo_late_40 N C hr x1 x2 3 o2.2 hf)
    · have hf := xi_pos h9 hf
      refine xj_iconst (v := 2) C d_Mo_late_24 rfl ?_
      refine xj_goto (tgt := 40) C d_Mo_late_25 (by decide) ?_
      exact xj_lv [0, 1, 2] rfl (w_Mo_late_40 N C hr x1 x2 2 o2.2 hf)
  · have hf := xi_pos h9 hf
    refine xj_iconst (v := 1) C d_Mo_late_9 rfl ?_
    refine xj_goto (tgt := 40) C d_Mo_late_10 (by decide) ?_
    exact xj_lv [0, 1, 2] rfl (w_Mo_late_40 N C hr x1 x2 1 o1.2 hf)
set_option maxHeartbeats 4000000 in
set_option maxRecDepth 20000 in
theorem wb_Mo_home_28 {p : Program} {l : Launch} {e : Env} {s : State} {m : MethodId} {args : Array Value} {below : List Frame} {meth : Method} {c : Code} {sz : Nat} {D : va_G} {ad : Nat → Nat} {cI : ClassId × ClassId} {out : Int32 × St} (N : (LM ad).Nodup) (C : xC p s m args meth c (xA (LM ad) sz) D 3 (tyM cI) b_Mo_home R_Mo) (hr : meth.sig.returnType = (some .int)) {K28 : Int32 → Int32 → St → Option (Int32 × St)} (hK28 : ∀ (x1 x2 : Int32) (st : St), K28 x1 x2 st = some out → j_i p l e rm_Mo_home s m args below meth c sz D (WM ad cI) (LM ad) out 3 (WM ad cI st) [(0, .ref (ad 0)), (1, .int x1), (2, .int x2)] 28 []) (x1 x2 : Int32) (st : St) (hf : b_Mo_home_28 K28 x1 x2 st = some out) : j_i p l e rm_Mo_home s m args below meth c sz D (WM ad cI) (LM ad) out 3 (WM ad cI st) [(0, .ref (ad 0)), (1, .int x1), (2, .int x2)] 28 [] := by
  unfold b_Mo_home_28 at hf
  refine xj_iload_n C d_Mo_home_28 rfl 2 rfl ?_
  refine xj_aload_n C d_Mo_home_29 rfl 0 rfl ?_
  refine xj_get C g_Mo_72 0 rfl rfl d_Mo_home_30 ?_
  refine xj_icmp_ge (tgt := 55) C d_Mo_home_33 (by decide) (fun h9 => ?_) (fun h9 => ?_)
  · have hf := xi_pos h9 hf
    refine xj_iconst (v := (-1)) C d_Mo_home_55 rfl ?_
    exact xj_iret C hr hf d_Mo_home_56
  · have hf := xi_neg h9 hf
    refine xj_aload_n C d_Mo_home_36 rfl 0 rfl ?_
    refine xj_iload_n C d_Mo_home_37 rfl 2 rfl ?_
    refine xj_iconst (v := 1) C d_Mo_home_38 rfl ?_
    refine xj_iload_n C d_Mo_home_39 rfl 1 rfl ?_
    refine xj_ishl C d_Mo_home_40 ?_
    obtain ⟨o3, ho3, hf⟩ := xb_some hf
    refine xj_callVi (rest := []) C (c_Mo_lay N ho3) Y_Mo_lay i_Mo_100 0 rfl rfl (by decide) ⟨rfl, rfl⟩ rfl rfl (Nat.le_of_ble_eq_true rfl) d_Mo_home_41 (fun q h => Or.inl h) ?_
    refine xj_if_eq (tgt := 49) C d_Mo_home_44 (by decide) (fun h9 => ?_) (fun h9 => ?_)
    · have hf := xi_pos h9 hf
      refine xj_iinc (v := x2 + 1) (j := 2) C d_Mo_home_49 rfl rfl (by decide) rfl ?_
      refine xj_goto (tgt := 28) C d_Mo_home_52 (by decide) ?_
      exact xj_lv [1, 2, 0] rfl (hK28 x1 (x2 + 1) o3.2 hf)
    · have hf := xi_neg h9 hf
      refine xj_iload_n C d_Mo_home_47 rfl 2 rfl ?_
      exact xj_iret C hr hf d_Mo_home_48
set_option maxHeartbeats 4000000 in
set_option maxRecDepth 20000 in
theorem w_Mo_home_28 {p : Program} {l : Launch} {e : Env} {s : State} {m : MethodId} {args : Array Value} {below : List Frame} {meth : Method} {c : Code} {sz : Nat} {D : va_G} {ad : Nat → Nat} {cI : ClassId × ClassId} {out : Int32 × St} (N : (LM ad).Nodup) (C : xC p s m args meth c (xA (LM ad) sz) D 3 (tyM cI) b_Mo_home R_Mo) (hr : meth.sig.returnType = (some .int)) (n : Nat) : ∀ (x1 x2 : Int32) (st : St), f_Mo_home_28 n x1 x2 st = some out → j_i p l e rm_Mo_home s m args below meth c sz D (WM ad cI) (LM ad) out 3 (WM ad cI st) [(0, .ref (ad 0)), (1, .int x1), (2, .int x2)] 28 [] := by
  induction n with
  | zero => intro x1 x2 st hf; exact absurd (show (none : Option (Int32 × St)) = some out from hf) (fun h => by cases h)
  | succ n ih => intro x1 x2 st hf; exact wb_Mo_home_28 N C hr ih x1 x2 st hf
set_option maxHeartbeats 4000000 in
set_option maxRecDepth 20000 in
theorem w_Mo_home_14 {p : Program} {l : Launch} {e : Env} {s : State} {m : MethodId} {args : Array Value} {below : List Frame} {meth : Method} {c : Code} {sz : Nat} {D : va_G} {ad : Nat → Nat} {cI : ClassId × ClassId} {out : Int32 × St} (N : (LM ad).Nodup) (C : xC p s m args meth c (xA (LM ad) sz) D 3 (tyM cI) b_Mo_home R_Mo) (hr : meth.sig.returnType = (some .int)) (x1 y0 : Int32) (st : St) (hf : f_Mo_home_14 x1 y0 st = some out) : j_i p l e rm_Mo_home s m args below meth c sz D (WM ad cI) (LM ad) out 3 (WM ad cI st) [(0, .ref (ad 0)), (1, .int x1)] 14 [.int y0, .ref (ad 0)] := by
  unfold f_Mo_home_14 at hf
  obtain ⟨s2, es2, hf⟩ := xlet_ex hf
  refine xj_put (ws' := WM ad cI s2) C g_Mo_69 gw_Mo_thrown (WM_D N sz _) 0 rfl rfl rfl (Nat.le_of_ble_eq_true rfl) d_Mo_home_14 (by rw [es2]; rfl) ?_
  refine xj_aload_n C d_Mo_home_17 rfl 0 rfl ?_
  refine xj_get C g_Mo_69 0 rfl rfl d_Mo_home_18 ?_
  refine xj_if_le (tgt := 26) C d_Mo_home_21 (by decide) (fun h9 => ?_) (fun h9 => ?_)
  · have hf := xi_pos h9 hf
    refine xj_iconst (v := 0) C d_Mo_home_26 rfl ?_
    refine xj_istore_n C d_Mo_home_27 rfl (by decide) rfl ?_
    exact xj_lv [1, 2, 0] rfl (w_Mo_home_28 N C hr 40 x1 0 s2 hf)
  · have hf := xi_neg h9 hf
    refine xj_iconst (v := 0) C d_Mo_home_24 rfl ?_
    exact xj_iret C hr hf d_Mo_home_25
set_option maxHeartbeats 4000000 in
set_option maxRecDepth 20000 in
theorem c_Mo_home {l : Launch} {D : va_G} {ad : Nat → Nat} {cI : ClassId × ClassId} (N : (LM ad).Nodup) {x1 : Int32} {st : St} {out : Int32 × St} (hf : f_Mo_home x1 st = some out) : xMi l y_Mo_home b_Mo_home 3 (some .int) rm_Mo_home D (tyM cI) (WM ad cI) (LM ad) [.ref (ad 0), .int x1] st out := by
  intro sz
  refine xM_of (L := LM ad) (by decide) (Nat.le_of_ble_eq_true rfl) (fun p e s m below meth c hsz hr C => ?_)
  show j_i p l e rm_Mo_home s m _ below meth c sz D (WM ad cI) (LM ad) out 3 (WM ad cI st) [(0, .ref (ad 0)), (1, .int x1)] 0 []
  unfold f_Mo_home at hf
  refine xj_aload_n C d_Mo_home_0 rfl 0 rfl ?_
  refine xj_aload_n C d_Mo_home_1 rfl 0 rfl ?_
  refine xj_iload_n C d_Mo_home_2 rfl 1 rfl ?_
  obtain ⟨o1, ho1, hf⟩ := xb_some hf
  refine xj_callVi (rest := [.ref (ad 0)]) C (c_Mo_isShip N ho1) Y_Mo_isShip i_Mo_137 0 rfl rfl (by decide) ⟨rfl, rfl⟩ rfl rfl (Nat.le_of_ble_eq_true rfl) d_Mo_home_3 (fun q h => Or.inl h) ?_
  refine xj_if_eq (tgt := 13) C d_Mo_home_6 (by decide) (fun h9 => ?_) (fun h9 => ?_)
  · have hf := xi_pos h9 hf
    refine xj_iconst (v := 1) C d_Mo_home_13 rfl ?_
    exact xj_lv [0, 1] rfl (w_Mo_home_14 N C hr x1 1 o1.2 hf)
  · have hf := xi_neg h9 hf
    refine xj_iconst (v := 0) C d_Mo_home_9 rfl ?_
    refine xj_goto (tgt := 14) C d_Mo_home_10 (by decide) ?_
    exact xj_lv [0, 1] rfl (w_Mo_home_14 N C hr x1 0 o1.2 hf)
