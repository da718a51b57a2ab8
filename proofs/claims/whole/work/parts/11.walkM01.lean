set_option maxHeartbeats 4000000 in
set_option maxRecDepth 20000 in
theorem w_Mo_lay_60 {p : Program} {l : Launch} {e : Env} {s : State} {m : MethodId} {args : Array Value} {below : List Frame} {meth : Method} {c : Code} {sz : Nat} {D : va_G} {ad : Nat → Nat} {cI : ClassId × ClassId} {out : Int32 × St} (N : (LM ad).Nodup) (C : xC p s m args meth c (xA (LM ad) sz) D 7 (tyM cI) b_Mo_lay R_Mo) (hr : meth.sig.returnType = (some .boolean)) {K9 : Int32 → Int32 → Int32 → St → Option (Int32 × St)} {K47 : Int32 → Int32 → Int32 → Int32 → Int32 → St → Option (Int32 × St)} (hK9 : ∀ (x1 x2 x3 : Int32) (st : St), K9 x1 x2 x3 st = some out → j_i p l e rm_Mo_lay s m args below meth c sz D (WM ad cI) (LM ad) out 7 (WM ad cI st) [(0, .ref (ad 0)), (1, .int x1), (2, .int x2), (3, .int x3)] 9 []) (hK47 : ∀ (x1 x2 x3 x4 x5 : Int32) (st : St), K47 x1 x2 x3 x4 x5 st = some out → j_i p l e rm_Mo_lay s m args below meth c sz D (WM ad cI) (LM ad) out 7 (WM ad cI st) [(0, .ref (ad 0)), (1, .int x1), (2, .int x2), (3, .int x3), (4, .int x4), (5, .int x5)] 47 []) (x1 x2 x3 x4 x5 y0 y1 : Int32) (st : St) (hf : f_Mo_lay_60 K9 K47 x1 x2 x3 x4 x5 y0 y1 st = some out) : j_i p l e rm_Mo_lay s m args below meth c sz D (WM ad cI) (LM ad) out 7 (WM ad cI st) [(0, .ref (ad 0)), (1, .int x1), (2, .int x2), (3, .int x3), (4, .int x4), (5, .int x5)] 60 [.int y0, .int y1] := by
  unfold f_Mo_lay_60 at hf
  refine xj_icmp_ge (tgt := 86) C d_Mo_lay_60 (by decide) (fun h9 => ?_) (fun h9 => ?_)
  · have hf := xi_pos h9 hf
    exact xj_lv [0, 1, 2, 3, 4, 5] rfl (w_Mo_lay_86 N C hr hK9 x1 x2 x3 x4 x5 st hf)
  · have hf := xi_neg h9 hf
    refine xj_iload C d_Mo_lay_63 5 rfl ?_
    refine xj_if_eq (tgt := 86) C d_Mo_lay_65 (by decide) (fun h9 => ?_) (fun h9 => ?_)
    · have hf := xi_pos h9 hf
      exact xj_lv [0, 1, 2, 3, 4, 5] rfl (w_Mo_lay_86 N C hr hK9 x1 x2 x3 x4 x5 st hf)
    · have hf := xi_neg h9 hf
      refine xj_aload_n C d_Mo_lay_68 rfl 0 rfl ?_
      refine xj_iload_n C d_Mo_lay_69 rfl 1 rfl ?_
      refine xj_iload_n C d_Mo_lay_70 rfl 2 rfl ?_
      refine xj_iload_n C d_Mo_lay_71 rfl 3 rfl ?_
      refine xj_iload C d_Mo_lay_72 4 rfl ?_
      obtain ⟨o10, ho10, hf⟩ := xb_some hf
      refine xj_callVi (rest := []) C (c_Mo_mayLie N ho10) Y_Mo_mayLie i_Mo_96 0 rfl rfl (by decide) ⟨rfl, rfl⟩ rfl rfl (Nat.le_of_ble_eq_true rfl) d_Mo_lay_74 (fun q h => Or.inl h) ?_
      refine xj_if_ne (tgt := 86) C d_Mo_lay_77 (by decide) (fun h9 => ?_) (fun h9 => ?_)
      · have hf := xi_neg h9 hf
        exact xj_lv [0, 1, 2, 3, 4, 5] rfl (w_Mo_lay_86 N C hr hK9 x1 x2 x3 x4 x5 o10.2 hf)
      · have hf := xi_pos h9 hf
        refine xj_iinc (v := x4 + 1) (j := 4) C d_Mo_lay_80 rfl rfl (by decide) rfl ?_
        refine xj_goto (tgt := 47) C d_Mo_lay_83 (by decide) ?_
        exact xj_lv [1, 2, 3, 4, 0, 5] rfl (hK47 x1 x2 x3 (x4 + 1) x5 o10.2 hf)
set_option maxHeartbeats 4000000 in
set_option maxRecDepth 20000 in
theorem wb_Mo_lay_47 {p : Program} {l : Launch} {e : Env} {s : State} {m : MethodId} {args : Array Value} {below : List Frame} {meth : Method} {c : Code} {sz : Nat} {D : va_G} {ad : Nat → Nat} {cI : ClassId × ClassId} {out : Int32 × St} (N : (LM ad).Nodup) (C : xC p s m args meth c (xA (LM ad) sz) D 7 (tyM cI) b_Mo_lay R_Mo) (hr : meth.sig.returnType = (some .boolean)) {K9 : Int32 → Int32 → Int32 → St → Option (Int32 × St)} (hK9 : ∀ (x1 x2 x3 : Int32) (st : St), K9 x1 x2 x3 st = some out → j_i p l e rm_Mo_lay s m args below meth c sz D (WM ad cI) (LM ad) out 7 (WM ad cI st) [(0, .ref (ad 0)), (1, .int x1), (2, .int x2), (3, .int x3)] 9 []) {K47 : Int32 → Int32 → Int32 → Int32 → Int32 → St → Option (Int32 × St)} (hK47 : ∀ (x1 x2 x3 x4 x5 : Int32) (st : St), K47 x1 x2 x3 x4 x5 st = some out → j_i p l e rm_Mo_lay s m args below meth c sz D (WM ad cI) (LM ad) out 7 (WM ad cI st) [(0, .ref (ad 0)), (1, .int x1), (2, .int x2), (3, .int x3), (4, .int x4), (5, .int x5)] 47 []) (x1 x2 x3 x4 x5 : Int32) (st : St) (hf : b_Mo_lay_47 K9 K47 x1 x2 x3 x4 x5 st = some out) : j_i p l e rm_Mo_lay s m args below meth c sz D (WM ad cI) (LM ad) out 7 (WM ad cI st) [(0, .ref (ad 0)), (1, .int x1), (2, .int x2), (3, .int x3), (4, .int x4), (5, .int x5)] 47 [] := by
  unfold b_Mo_lay_47 at hf
  refine xj_iload C d_Mo_lay_47 4 rfl ?_
  refine xj_iload C d_Mo_lay_49 5 rfl ?_
  refine xj_if_eq (tgt := 59) C d_Mo_lay_51 (by decide) (fun h9 => ?_) (fun h9 => ?_)
  · have hf := xi_pos h9 hf
    refine xj_iconst (v := 1) C d_Mo_lay_59 rfl ?_
    exact xj_lv [0, 1, 2, 3, 4, 5] rfl (w_Mo_lay_60 N C hr hK9 hK47 x1 x2 x3 x4 x5 1 x4 st hf)
  · have hf := xi_neg h9 hf
    refine xj_bipush (v := 24) C d_Mo_lay_54 rfl ?_
    refine xj_goto (tgt := 60) C d_Mo_lay_56 (by decide) ?_
    exact xj_lv [0, 1, 2, 3, 4, 5] rfl (w_Mo_lay_60 N C hr hK9 hK47 x1 x2 x3 x4 x5 24 x4 st hf)
set_option maxHeartbeats 4000000 in
set_option maxRecDepth 20000 in
theorem w_Mo_lay_47 {p : Program} {l : Launch} {e : Env} {s : State} {m : MethodId} {args : Array Value} {below : List Frame} {meth : Method} {c : Code} {sz : Nat} {D : va_G} {ad : Nat → Nat} {cI : ClassId × ClassId} {out : Int32 × St} (N : (LM ad).Nodup) (C : xC p s m args meth c (xA (LM ad) sz) D 7 (tyM cI) b_Mo_lay R_Mo) (hr : meth.sig.returnType = (some .boolean)) {K9 : Int32 → Int32 → Int32 → St → Option (Int32 × St)} (hK9 : ∀ (x1 x2 x3 : Int32) (st : St), K9 x1 x2 x3 st = some out → j_i p l e rm_Mo_lay s m args below meth c sz D (WM ad cI) (LM ad) out 7 (WM ad cI st) [(0, .ref (ad 0)), (1, .int x1), (2, .int x2), (3, .int x3)] 9 []) (n : Nat) : ∀ (x1 x2 x3 x4 x5 : Int32) (st : St), f_Mo_lay_47 K9 n x1 x2 x3 x4 x5 st = some out → j_i p l e rm_Mo_lay s m args below meth c sz D (WM ad cI) (LM ad) out 7 (WM ad cI st) [(0, .ref (ad 0)), (1, .int x1), (2, .int x2), (3, .int x3), (4, .int x4), (5, .int x5)] 47 [] := by
  induction n with
  | zero => intro x1 x2 x3 x4 x5 st hf; exact absurd (show (none : Option (Int32 × St)) = some out from hf) (fun h => by cases h)
  | succ n ih => intro x1 x2 x3 x4 x5 st hf; exact wb_Mo_lay_47 N C hr hK9 ih x1 x2 x3 x4 x5 st hf
set_option maxHeartbeats 4000000 in
set_option maxRecDepth 20000 in
theorem w_Mo_lay_45 {p : Program} {l : Launch} {e : Env} {s : State} {m : MethodId} {args : Array Value} {below : List Frame} {meth : Method} {c : Code} {sz : Nat} {D : va_G} {ad : Nat → Nat} {cI : ClassId × ClassId} {out : Int32 × St} (N : (LM ad).Nodup) (C : xC p s m args meth c (xA (LM ad) sz) D 7 (tyM cI) b_Mo_lay R_Mo) (hr : meth.sig.returnType = (some .boolean)) {K9 : Int32 → Int32 → Int32 → St → Option (Int32 × St)} (hK9 : ∀ (x1 x2 x3 : Int32) (st : St), K9 x1 x2 x3 st = some out → j_i p l e rm_Mo_lay s m args below meth c sz D (WM ad cI) (LM ad) out 7 (WM ad cI st) [(0, .ref (ad 0)), (1, .int x1), (2, .int x2), (3, .int x3)] 9 []) (x1 x2 x3 x4 y0 : Int32) (st : St) (hf : f_Mo_lay_45 K9 x1 x2 x3 x4 y0 st = some out) : j_i p l e rm_Mo_lay s m args below meth c sz D (WM ad cI) (LM ad) out 7 (WM ad cI st) [(0, .ref (ad 0)), (1, .int x1), (2, .int x2), (3, .int x3), (4, .int x4)] 45 [.int y0] := by
  unfold f_Mo_lay_45 at hf
  refine xj_istore C d_Mo_lay_45 (by decide) rfl ?_
  exact xj_lv [1, 2, 3, 4, 5, 0] rfl (w_Mo_lay_47 N C hr hK9 40 x1 x2 x3 x4 y0 st hf)
set_option maxHeartbeats 4000000 in
set_option maxRecDepth 20000 in
theorem wb_Mo_lay_9 {p : Program} {l : Launch} {e : Env} {s : State} {m : MethodId} {args : Array Value} {below : List Frame} {meth : Method} {c : Code} {sz : Nat} {D : va_G} {ad : Nat → Nat} {cI : ClassId × ClassId} {out : Int32 × St} (N : (LM ad).Nodup) (C : xC p s m args meth c (xA (LM ad) sz) D 7 (tyM cI) b_Mo_lay R_Mo) (hr : meth.sig.returnType = (some .boolean)) {K9 : Int32 → Int32 → Int32 → St → Option (Int32 × St)} (hK9 : ∀ (x1 x2 x3 : Int32) (st : St), K9 x1 x2 x3 st = some out → j_i p l e rm_Mo_lay s m args below meth c sz D (WM ad cI) (LM ad) out 7 (WM ad cI st) [(0, .ref (ad 0)), (1, .int x1), (2, .int x2), (3, .int x3)] 9 []) (x1 x2 x3 : Int32) (st : St) (hf : b_Mo_lay_9 K9 x1 x2 x3 st = some out) : j_i p l e rm_Mo_lay s m args below meth c sz D (WM ad cI) (LM ad) out 7 (WM ad cI st) [(0, .ref (ad 0)), (1, .int x1), (2, .int x2), (3, .int x3)] 9 [] := by
  unfold b_Mo_lay_9 at hf
  refine xj_iload_n C d_Mo_lay_9 rfl 3 rfl ?_
  refine xj_if_lt (tgt := 145) C d_Mo_lay_10 (by decide) (fun h9 => ?_) (fun h9 => ?_)
  · have hf := xi_pos h9 hf
    exact xj_lv [0, 3] rfl (w_Mo_lay_145 N C hr x3 st hf)
  · have hf := xi_neg h9 hf
    refine xj_iload_n C d_Mo_lay_13 rfl 3 rfl ?_
    refine xj_aload_n C d_Mo_lay_14 rfl 0 rfl ?_
    refine xj_get C g_Mo_75 0 rfl rfl d_Mo_lay_15 ?_
    refine xj_icmp_ge (tgt := 145) C d_Mo_lay_18 (by decide) (fun h9 => ?_) (fun h9 => ?_)
    · have hf := xi_pos h9 hf
      exact xj_lv [0, 3] rfl (w_Mo_lay_145 N C hr x3 st hf)
    · have hf := xi_neg h9 hf
      refine xj_aload_n C d_Mo_lay_21 rfl 0 rfl ?_
      refine xj_get C g_Mo_47 0 rfl rfl d_Mo_lay_22 ?_
      refine xj_iload_n C d_Mo_lay_25 rfl 3 rfl ?_
      obtain ⟨g3, hf⟩ := xb_guard hf
      refine xj_iald C 12 0 rfl rfl g3 d_Mo_lay_26 ?_
      refine xj_iconst (v := 1) C d_Mo_lay_27 rfl ?_
      refine xj_iadd C d_Mo_lay_28 ?_
      refine xj_topi (fun v4 ev4 => ?_)
      have hf := xlet_at ev4 hf
      refine xj_istore C d_Mo_lay_29 (by decide) rfl ?_
      refine xj_iload_n C d_Mo_lay_31 rfl 3 rfl ?_
      refine xj_iload_n C d_Mo_lay_32 rfl 4 rfl ?_
      refine xj_ishr C d_Mo_lay_33 ?_
      refine xj_iconst (v := 1) C d_Mo_lay_34 rfl ?_
      refine xj_iand C d_Mo_lay_35 ?_
      refine xj_iconst (v := 1) C d_Mo_lay_36 rfl ?_
      refine xj_icmp_ne (tgt := 44) C d_Mo_lay_37 (by decide) (fun h9 => ?_) (fun h9 => ?_)
      · have hf := xi_neg h9 hf
        refine xj_iconst (v := 0) C d_Mo_lay_44 rfl ?_
        exact xj_lv [1, 2, 3, 4, 0] rfl (w_Mo_lay_45 N C hr hK9 x1 x2 x3 v4 0 st hf)
      · have hf := xi_pos h9 hf
        refine xj_iconst (v := 1) C d_Mo_lay_40 rfl ?_
        refine xj_goto (tgt := 45) C d_Mo_lay_41 (by decide) ?_
        exact xj_lv [1, 2, 3, 4, 0] rfl (w_Mo_lay_45 N C hr hK9 x1 x2 x3 v4 1 st hf)
set_option maxHeartbeats 4000000 in
set_option maxRecDepth 20000 in
theorem w_Mo_lay_9 {p : Program} {l : Launch} {e : Env} {s : State} {m : MethodId} {args : Array Value} {below : List Frame} {meth : Method} {c : Code} {sz : Nat} {D : va_G} {ad : Nat → Nat} {cI : ClassId × ClassId} {out : Int32 × St} (N : (LM ad).Nodup) (C : xC p s m args meth c (xA (LM ad) sz) D 7 (tyM cI) b_Mo_lay R_Mo) (hr : meth.sig.returnType = (some .boolean)) (n : Nat) : ∀ (x1 x2 x3 : Int32) (st : St), f_Mo_lay_9 n x1 x2 x3 st = some out → j_i p l e rm_Mo_lay s m args below meth c sz D (WM ad cI) (LM ad) out 7 (WM ad cI st) [(0, .ref (ad 0)), (1, .int x1), (2, .int x2), (3, .int x3)] 9 [] := by
  induction n with
  | zero => intro x1 x2 x3 st hf; exact absurd (show (none : Option (Int32 × St)) = some out from hf) (fun h => by cases h)
  | succ n ih => intro x1 x2 x3 st hf; exact wb_Mo_lay_9 N C hr ih x1 x2 x3 st hf
set_option maxHeartbeats 4000000 in
set_option maxRecDepth 20000 in
theorem c_Mo_lay {l : Launch} {D : va_G} {ad : Nat → Nat} {cI : ClassId × ClassId} (N : (LM ad).Nodup) {x1 x2 : Int32} {st : St} {out : Int32 × St} (hf : f_Mo_lay x1 x2 st = some out) : xMi l y_Mo_lay b_Mo_lay 7 (some .boolean) rm_Mo_lay D (tyM cI) (WM ad cI) (LM ad) [.ref (ad 0), .int x1, .int x2] st out := by
  intro sz
  refine xM_of (L := LM ad) (by decide) (Nat.le_of_ble_eq_true rfl) (fun p e s m below meth c hsz hr C => ?_)
  show j_i p l e rm_Mo_lay s m _ below meth c sz D (WM ad cI) (LM ad) out 7 (WM ad cI st) [(0, .ref (ad 0)), (1, .int x1), (2, .int x2)] 0 []
  unfold f_Mo_lay at hf
  refine xj_iconst (v := 0) C d_Mo_lay_0 rfl ?_
  refine xj_istore_n C d_Mo_lay_1 rfl (by decide) rfl ?_
  refine xj_aload_n C d_Mo_lay_2 rfl 1 rfl ?_
  refine xj_get C g_Mo_47 0 rfl rfl d_Mo_lay_3 ?_
  refine xj_iconst (v := 0) C d_Mo_lay_6 rfl ?_
  refine xj_iconst (v := (-1)) C d_Mo_lay_7 rfl ?_
  obtain ⟨g1, hf⟩ := xb_guard hf
  obtain ⟨s2, es2, hf⟩ := xlet_ex hf
  refine xj_iast (ws' := WM ad cI s2) C (WM_D N sz _) 12 0 rfl rfl g1 d_Mo_lay_8 (by rw [es2]; rfl) ?_
  exact xj_lv [1, 2, 3, 0] rfl (w_Mo_lay_9 N C hr 10000000 x1 x2 0 s2 hf)
set_option maxHeartbeats 4000000 in
set_option maxRecDepth 20000 in
theorem w_Mo_fits_30 {p : Program} {l : Launch} {e : Env} {s : State} {m : MethodId} {args : Array Value} {below : List Frame} {meth : Method} {c : Code} {sz : Nat} {D : va_G} {ad : Nat → Nat} {cI : ClassId × ClassId} {out : Int32 × St} (N : (LM ad).Nodup) (C : xC p s m args meth c (xA (LM ad) sz) D 3 (tyM cI) b_Mo_fits R_Mo) (hr : meth.sig.returnType = (some .boolean)) (x1 x2 y0 : Int32) (st : St) (hf : f_Mo_fits_30 x1 x2 y0 st = some out) : j_i p l e rm_Mo_fits s m args below meth c sz D (WM ad cI) (LM ad) out 3 (WM ad cI st) [(0, .ref (ad 0)), (1, .int x1), (2, .int x2)] 30 [.int y0, .ref (ad 0)] := by
  unfold f_Mo_fits_30 at hf
  obtain ⟨s2, es2, hf⟩ := xlet_ex hf
  refine xj_put (ws' := WM ad cI s2) C g_Mo_69 gw_Mo_thrown (WM_D N sz _) 0 rfl rfl rfl (Nat.le_of_ble_eq_true rfl) d_Mo_fits_30 (by rw [es2]; rfl) ?_
  refine xj_aload_n C d_Mo_fits_33 rfl 0 rfl ?_
  refine xj_get C g_Mo_69 0 rfl rfl d_Mo_fits_34 ?_
  refine xj_if_ne (tgt := 53) C d_Mo_fits_37 (by decide) (fun h9 => ?_) (fun h9 => ?_)
  · have hf := xi_neg h9 hf
    refine xj_iconst (v := 0) C d_Mo_fits_53 rfl ?_
    exact xj_zret C hr rfl hf d_Mo_fits_54
  · have hf := xi_pos h9 hf
    refine xj_aload_n C d_Mo_fits_40 rfl 0 rfl ?_
    refine xj_iload_n C d_Mo_fits_41 rfl 1 rfl ?_
    refine xj_iload_n C d_Mo_fits_42 rfl 2 rfl ?_
    obtain ⟨o3, ho3, hf⟩ := xb_some hf
    refine xj_callVi (rest := []) C (c_Mo_lay N ho3) Y_Mo_lay i_Mo_100 0 rfl rfl (by decide) ⟨rfl, rfl⟩ rfl rfl (Nat.le_of_ble_eq_true rfl) d_Mo_fits_43 (fun q h => Or.inl h) ?_
    refine xj_if_eq (tgt := 53) C d_Mo_fits_46 (by decide) (fun h9 => ?_) (fun h9 => ?_)
    · have hf := xi_pos h9 hf
      refine xj_iconst (v := 0) C d_Mo_fits_53 rfl ?_
      exact xj_zret C hr rfl hf d_Mo_fits_54
    · have hf := xi_neg h9 hf
      refine xj_iconst (v := 1) C d_Mo_fits_49 rfl ?_
      refine xj_goto (tgt := 54) C d_Mo_fits_50 (by decide) ?_
      exact xj_zret C hr rfl hf d_Mo_fits_54
set_option maxHeartbeats 4000000 in
set_option maxRecDepth 20000 in
theorem w_Mo_fits_29 {p : Program} {l : Launch} {e : Env} {s : State} {m : MethodId} {args : Array Value} {below : List Frame} {meth : Method} {c : Code} {sz : Nat} {D : va_G} {ad : Nat → Nat} {cI : ClassId × ClassId} {out : Int32 × St} (N : (LM ad).Nodup) (C : xC p s m args meth c (xA (LM ad) sz) D 3 (tyM cI) b_Mo_fits R_Mo) (hr : meth.sig.returnType = (some .boolean)) (x1 x2 : Int32) (st : St) (hf : f_Mo_fits_29 x1 x2 st = some out) : j_i p l e rm_Mo_fits s m args below meth c sz D (WM ad cI) (LM ad) out 3 (WM ad cI st) [(0, .ref (ad 0)), (1, .int x1), (2, .int x2)] 29 [.ref (ad 0)] := by
  unfold f_Mo_fits_29 at hf
  refine xj_iconst (v := 1) C d_Mo_fits_29 rfl ?_
  exact xj_lv [0, 1, 2] rfl (w_Mo_fits_30 N C hr x1 x2 1 st hf)
set_option maxHeartbeats 4000000 in
set_option maxRecDepth 20000 in
theorem c_Mo_fits {l : Launch} {D : va_G} {ad : Nat → Nat} {cI : ClassId × ClassId} (N : (LM ad).Nodup) {x1 x2 : Int32} {st : St} {out : Int32 × St} (hf : f_Mo_fits x1 x2 st = some out) : xMi l y_Mo_fits b_Mo_fits 3 (some .boolean) rm_Mo_fits D (tyM cI) (WM ad cI) (LM ad) [.ref (ad 0), .int x1, .int x2] st out := by
  intro sz
  refine xM_of (L := LM ad) (by decide) (Nat.le_of_ble_eq_true rfl) (fun p e s m below meth c hsz hr C => ?_)
  show j_i p l e rm_Mo_fits s m _ below meth c sz D (WM ad cI) (LM ad) out 3 (WM ad cI st) [(0, .ref (ad 0)), (1, .int x1), (2, .int x2)] 0 []
  unfold f_Mo_fits at hf
  refine xj_aload_n C d_Mo_fits_0 rfl 0 rfl ?_
  refine xj_aload_n C d_Mo_fits_1 rfl 0 rfl ?_
  refine xj_iload_n C d_Mo_fits_2 rfl 1 rfl ?_
  obtain ⟨o1, ho1, hf⟩ := xb_some hf
  refine xj_callVi (rest := [.ref (ad 0)]) C (c_Mo_isChamber N ho1) Y_Mo_isChamber i_Mo_86 0 rfl rfl (by decide) ⟨rfl, rfl⟩ rfl rfl (Nat.le_of_ble_eq_true rfl) d_Mo_fits_3 (fun q h => Or.inl h) ?_
  refine xj_if_eq (tgt := 29) C d_Mo_fits_6 (by decide) (fun h9 => ?_) (fun h9 => ?_)
  · have hf := xi_pos h9 hf
    exact xj_lv [0, 1, 2] rfl (w_Mo_fits_29 N C hr x1 x2 o1.2 hf)
  · have hf := xi_neg h9 hf
    refine xj_iload_n C d_Mo_fits_9 rfl 2 rfl ?_
    refine xj_iconst (v := 0) C d_Mo_fits_10 rfl ?_
    refine xj_iconst (v := 1) C d_Mo_fits_11 rfl ?_
    refine xj_aload_n C d_Mo_fits_12 rfl 0 rfl ?_
    refine xj_get C g_Mo_75 0 rfl rfl d_Mo_fits_13 ?_
    refine xj_ishl C d_Mo_fits_16 ?_
    refine xj_iconst (v := 1) C d_Mo_fits_17 rfl ?_
    refine xj_isub C d_Mo_fits_18 ?_
    obtain ⟨o4, ho4, hf⟩ := xb_some hf
    refine xj_callSi (rest := [.ref (ad 0)]) C (c_Mo_in N ho4) Y_Mo_in i_Mo_78 (by decide) ⟨rfl, rfl⟩ rfl rfl (Nat.le_of_ble_eq_true rfl) d_Mo_fits_19 (fun q h => Or.inl h) ?_
    refine xj_if_eq (tgt := 29) C d_Mo_fits_22 (by decide) (fun h9 => ?_) (fun h9 => ?_)
    · have hf := xi_pos h9 hf
      exact xj_lv [0, 1, 2] rfl (w_Mo_fits_29 N C hr x1 x2 o4.2 hf)
    · have hf := xi_neg h9 hf
      refine xj_iconst (v := 0) C d_Mo_fits_25 rfl ?_
      refine xj_goto (tgt := 30) C d_Mo_fits_26 (by decide) ?_
      exact xj_lv [0, 1, 2] rfl (w_Mo_fits_30 N C hr x1 x2 0 o4.2 hf)
set_option maxHeartbeats 4000000 in
set_option maxRecDepth 20000 in
theorem w_Mo_setOf_30 {p : Program} {l : Launch} {e : Env} {s : State} {m : MethodId} {args : Array Value} {below : List Frame} {meth : Method} {c : Code} {sz : Nat} {D : va_G} {ad : Nat → Nat} {cI : ClassId × ClassId} {out : Int32 × St} (N : (LM ad).Nodup) (C : xC p s m args meth c (xA (LM ad) sz) D 4 (tyM cI) b_Mo_setOf R_Mo) (hr : meth.sig.returnType = (some .int)) {K4 : Int32 → Int32 → Int32 → St → Option (Int32 × St)} (hK4 : ∀ (x1 x2 x3 : Int32) (st : St), K4 x1 x2 x3 st = some out → j_i p l e rm_Mo_setOf s m args below meth c sz D (WM ad cI) (LM ad) out 4 (WM ad cI st) [(0, .ref (ad 0)), (1, .int x1), (2, .int x2), (3, .int x3)] 4 []) (x1 x3 y0 y1 : Int32) (st : St) (hf : f_Mo_setOf_30 K4 x1 x3 y0 y1 st = some out) : j_i p l e rm_Mo_setOf s m args below meth c sz D (WM ad cI) (LM ad) out 4 (WM ad cI st) [(0, .ref (ad 0)), (1, .int x1), (3, .int x3)] 30 [.int y0, .int y1] := by
  unfold f_Mo_setOf_30 at hf
  refine xj_iadd C d_Mo_setOf_30 ?_
  refine xj_topi (fun v2 ev2 => ?_)
  have hf := xlet_at ev2 hf
  refine xj_istore_n C d_Mo_setOf_31 rfl (by decide) rfl ?_
  refine xj_iinc (v := x3 + 1) (j := 3) C d_Mo_setOf_32 rfl rfl (by decide) rfl ?_
  refine xj_goto (tgt := 4) C d_Mo_setOf_35 (by decide) ?_
  exact xj_lv [2, 3, 1, 0] rfl (hK4 x1 v2 (x3 + 1) st hf)
set_option maxHeartbeats 4000000 in
set_option maxRecDepth 20000 in
theorem wb_Mo_setOf_4 {p : Program} {l : Launch} {e : Env} {s : State} {m : MethodId} {args : Array Value} {below : List Frame} {meth : Method} {c : Code} {sz : Nat} {D : va_G} {ad : Nat → Nat} {cI : ClassId × ClassId} {out : Int32 × St} (N : (LM ad).Nodup) (C : xC p s m args meth c (xA (LM ad) sz) D 4 (tyM cI) b_Mo_setOf R_Mo) (hr : meth.sig.returnType = (some .int)) {K4 : Int32 → Int32 → Int32 → St → Option (Int32 × St)} (hK4 : ∀ (x1 x2 x3 : Int32) (st : St), K4 x1 x2 x3 st = some out → j_i p l e rm_Mo_setOf s m args below meth c sz D (WM ad cI) (LM ad) out 4 (WM ad cI st) [(0, .ref (ad 0)), (1, .int x1), (2, .int x2), (3, .int x3)] 4 []) (x1 x2 x3 : Int32) (st : St) (hf : b_Mo_setOf_4 K4 x1 x2 x3 st = some out) : j_i p l e rm_Mo_setOf s m args below meth c sz D (WM ad cI) (LM ad) out 4 (WM ad cI st) [(0, .ref (ad 0)), (1, .int x1), (2, .int x2), (3, .int x3)] 4 [] := by
  unfold b_Mo_setOf_4 at hf
  refine xj_iload_n C d_Mo_setOf_4 rfl 3 rfl ?_
  refine xj_aload_n C d_Mo_setOf_5 rfl 0 rfl ?_
  refine xj_get C g_Mo_75 0 rfl rfl d_Mo_setOf_6 ?_
  refine xj_icmp_ge (tgt := 38) C d_Mo_setOf_9 (by decide) (fun h9 => ?_) (fun h9 => ?_)
  · have hf := xi_pos h9 hf
    refine xj_iload_n C d_Mo_setOf_38 rfl 2 rfl ?_
    exact xj_iret C hr hf d_Mo_setOf_39
  · have hf := xi_neg h9 hf
    refine xj_iload_n C d_Mo_setOf_12 rfl 2 rfl ?_
    refine xj_aload_n C d_Mo_setOf_13 rfl 0 rfl ?_
    refine xj_get C g_Mo_54 0 rfl rfl d_Mo_setOf_14 ?_
    refine xj_iload_n C d_Mo_setOf_17 rfl 3 rfl ?_
    obtain ⟨g1, hf⟩ := xb_guard hf
    refine xj_iald C 14 0 rfl rfl g1 d_Mo_setOf_18 ?_
    refine xj_iload_n C d_Mo_setOf_19 rfl 1 rfl ?_
    refine xj_icmp_ne (tgt := 29) C d_Mo_setOf_20 (by decide) (fun h9 => ?_) (fun h9 => ?_)
    · have hf := xi_neg h9 hf
      refine xj_iconst (v := 0) C d_Mo_setOf_29 rfl ?_
      exact xj_lv [0, 1, 3] rfl (w_Mo_setOf_30 N C hr hK4 x1 x3 0 x2 st hf)
    · have hf := xi_pos h9 hf
      refine xj_iconst (v := 1) C d_Mo_setOf_23 rfl ?_
      refine xj_iload_n C d_Mo_setOf_24 rfl 3 rfl ?_
      refine xj_ishl C d_Mo_setOf_25 ?_
      refine xj_goto (tgt := 30) C d_Mo_setOf_26 (by decide) ?_
      exact xj_lv [0, 1, 3] rfl (w_Mo_setOf_30 N C hr hK4 x1 x3 (1 <<< (x3 &&& 31)) x2 st hf)
set_option maxHeartbeats 4000000 in
set_option maxRecDepth 20000 in
theorem w_Mo_setOf_4 {p : Program} {l : Launch} {e : Env} {s : State} {m : MethodId} {args : Array Value} {below : List Frame} {meth : Method} {c : Code} {sz : Nat} {D : va_G} {ad : Nat → Nat} {cI : ClassId × ClassId} {out : Int32 × St} (N : (LM ad).Nodup) (C : xC p s m args meth c (xA (LM ad) sz) D 4 (tyM cI) b_Mo_setOf R_Mo) (hr : meth.sig.returnType = (some .int)) (n : Nat) : ∀ (x1 x2 x3 : Int32) (st : St), f_Mo_setOf_4 n x1 x2 x3 st = some out → j_i p l e rm_Mo_setOf s m args below meth c sz D (WM ad cI) (LM ad) out 4 (WM ad cI st) [(0, .ref (ad 0)), (1, .int x1), (2, .int x2), (3, .int x3)] 4 [] := by
  induction n with
  | zero => intro x1 x2 x3 st hf; exact absurd (show (none : Option (Int32 × St)) = some out from hf) (fun h => by cases h)
  | succ n ih => intro x1 x2 x3 st hf; exact wb_Mo_setOf_4 N C hr ih x1 x2 x3 st hf
set_option maxHeartbeats 4000000 in
set_option maxRecDepth 20000 in
theorem c_Mo_setOf {l : Launch} {D : va_G} {ad : Nat → Nat} {cI : ClassId × ClassId} (N : (LM ad).Nodup) {x1 : Int32} {st : St} {out : Int32 × St} (hf : f_Mo_setOf x1 st = some out) : xMi l y_Mo_setOf b_Mo_setOf 4 (some .int) rm_Mo_setOf D (tyM cI) (WM ad cI) (LM ad) [.ref (ad 0), .int x1] st out := by
  intro sz
  refine xM_of (L := LM ad) (by decide) (Nat.le_of_ble_eq_true rfl) (fun p e s m below meth c hsz hr C => ?_)
  show j_i p l e rm_Mo_setOf s m _ below meth c sz D (WM ad cI) (LM ad) out 4 (WM ad cI st) [(0, .ref (ad 0)), (1, .int x1)] 0 []
  unfold f_Mo_setOf at hf
  refine xj_iconst (v := 0) C d_Mo_setOf_0 rfl ?_
  refine xj_istore_n C d_Mo_setOf_1 rfl (by decide) rfl ?_
  refine xj_iconst (v := 0) C d_Mo_setOf_2 rfl ?_
  refine xj_istore_n C d_Mo_setOf_3 rfl (by decide) rfl ?_
  exact xj_lv [2, 3, 1, 0] rfl (w_Mo_setOf_4 N C hr 40 x1 0 0 st hf)
set_option maxHeartbeats 4000000 in
set_option maxRecDepth 20000 in
theorem wb_Mo_first_2 {p : Program} {l : Launch} {e : Env} {s : State} {m : MethodId} {args : Array Value} {below : List Frame} {meth : Method} {c : Code} {sz : Nat} {D : va_G} {ad : Nat → Nat} {cI : ClassId × ClassId} {out : Int32 × St} (N : (LM ad).Nodup) (C : xC p s m args meth c (xA (LM ad) sz) D 2 (tyM cI) b_Mo_first R_Mo) (hr : meth.sig.returnType = (some .int)) {K2 : Int32 → Int32 → St → Option (Int32 × St)} (hK2 : ∀ (x0 x1 : Int32) (st : St), K2 x0 x1 st = some out → j_i p l e rm_Mo_first s m args below meth c sz D (WM ad cI) (LM ad) out 2 (WM ad cI st) [(0, .int x0), (1, .int x1)] 2 []) (x0 x1 : Int32) (st : St) (hf : b_Mo_first_2 K2 x0 x1 st = some out) : j_i p l e rm_Mo_first s m args below meth c sz D (WM ad cI) (LM ad) out 2 (WM ad cI st) [(0, .int x0), (1, .int x1)] 2 [] := by
  unfold b_Mo_first_2 at hf
  refine xj_iload_n C d_Mo_first_2 rfl 0 rfl ?_
  refine xj_iload_n C d_Mo_first_3 rfl 1 rfl ?_
  refine xj_ishr C d_Mo_first_4 ?_
  refine xj_iconst (v := 1) C d_Mo_first_5 rfl ?_
  refine xj_iand C d_Mo_first_6 ?_
  refine xj_if_ne (tgt := 16) C d_Mo_first_7 (by decide) (fun h9 => ?_) (fun h9 => ?_)
  · have hf := xi_neg h9 hf
    refine xj_iload_n C d_Mo_first_16 rfl 1 rfl ?_
    exact xj_iret C hr hf d_Mo_first_17
  · have hf := xi_pos h9 hf
    refine xj_iinc (v := x1 + 1) (j := 1) C d_Mo_first_10 rfl rfl (by decide) rfl ?_
    refine xj_goto (tgt := 2) C d_Mo_first_13 (by decide) ?_
    exact xj_lv [1, 0] rfl (hK2 x0 (x1 + 1) st hf)
set_option maxHeartbeats 4000000 in
set_option maxRecDepth 20000 in
theorem w_Mo_first_2 {p : Program} {l : Launch} {e : Env} {s : State} {m : MethodId} {args : Array Value} {below : List Frame} {meth : Method} {c : Code} {sz : Nat} {D : va_G} {ad : Nat → Nat} {cI : ClassId × ClassId} {out : Int32 × St} (N : (LM ad).Nodup) (C : xC p s m args meth c (xA (LM ad) sz) D 2 (tyM cI) b_Mo_first R_Mo) (hr : meth.sig.returnType = (some .int)) (n : Nat) : ∀ (x0 x1 : Int32) (st : St), f_Mo_first_2 n x0 x1 st = some out → j_i p l e rm_Mo_first s m args below meth c sz D (WM ad cI) (LM ad) out 2 (WM ad cI st) [(0, .int x0), (1, .int x1)] 2 [] := by
  induction n with
  | zero => intro x0 x1 st hf; exact absurd (show (none : Option (Int32 × St)) = some out from hf) (fun h => by cases h)
  | succ n ih => intro x0 x1 st hf; exact wb_Mo_first_2 N C hr ih x0 x1 st hf
set_option maxHeartbeats 4000000 in
set_option maxRecDepth 20000 in
theorem c_Mo_first {l : Launch} {D : va_G} {ad : Nat → Nat} {cI : ClassId × ClassId} (N : (LM ad).Nodup) {x0 : Int32} {st : St} {out : Int32 × St} (hf : f_Mo_first x0 st = some out) : xMi l y_Mo_first b_Mo_first 2 (some .int) rm_Mo_first D (tyM cI) (WM ad cI) (LM ad) [.int x0] st out := by
  intro sz
  refine xM_of (L := LM ad) (by decide) (Nat.le_of_ble_eq_true rfl) (fun p e s m below meth c hsz hr C => ?_)
  show j_i p l e rm_Mo_first s m _ below meth c sz D (WM ad cI) (LM ad) out 2 (WM ad cI st) [(0, .int x0)] 0 []
  unfold f_Mo_first at hf
  refine xj_iconst (v := 0) C d_Mo_first_0 rfl ?_
  refine xj_istore_n C d_Mo_first_1 rfl (by decide) rfl ?_
  exact xj_lv [1, 0] rfl (w_Mo_first_2 N C hr 40 x0 0 st hf)
set_option maxHeartbeats 4000000 in
set_option maxRecDepth 20000 in
theorem w_Mo_isOneWay_47 {p : Program} {l : Launch} {e : Env} {s : State} {m : MethodId} {args : Array Value} {below : List Frame} {meth : Method} {c : Code} {sz : Nat} {D : va_G} {ad : Nat → Nat} {cI : ClassId × ClassId} {out : Int32 × St} (N : (LM ad).Nodup) (C : xC p s m args meth c (xA (LM ad) sz) D 4 (tyM cI) b_Mo_isOneWay R_Mo) (hr : meth.sig.returnType = (some .boolean)) {K4 : Int32 → Int32 → Int32 → St → Option (Int32 × St)} (hK4 : ∀ (x1 x2 x3 : Int32) (st : St), K4 x1 x2 x3 st = some out → j_i p l e rm_Mo_isOneWay s m args below meth c sz D (WM ad cI) (LM ad) out 4 (WM ad cI st) [(0, .ref (ad 0)), (1, .int x1), (2, .int x2), (3, .int x3)] 4 []) (x1 x3 y0 : Int32) (st : St) (hf : f_Mo_isOneWay_47 K4 x1 x3 y0 st = some out) : j_i p l e rm_Mo_isOneWay s m args below meth c sz D (WM ad cI) (LM ad) out 4 (WM ad cI st) [(0, .ref (ad 0)), (1, .int x1), (3, .int x3)] 47 [.int y0] := by
  unfold f_Mo_isOneWay_47 at hf
  refine xj_istore_n C d_Mo_isOneWay_47 rfl (by decide) rfl ?_
  refine xj_iinc (v := x3 + 1) (j := 3) C d_Mo_isOneWay_48 rfl rfl (by decide) rfl ?_
  refine xj_goto (tgt := 4) C d_Mo_isOneWay_51 (by decide) ?_
  exact xj_lv [2, 3, 1, 0] rfl (hK4 x1 y0 (x3 + 1) st hf)
set_option maxHeartbeats 4000000 in
set_option maxRecDepth 20000 in
theorem w_Mo_isOneWay_46 {p : Program} {l : Launch} {e : Env} {s : State} {m : MethodId} {args : Array Value} {below : List Frame} {meth : Method} {c : Code} {sz : Nat} {D : va_G} {ad : Nat → Nat} {cI : ClassId × ClassId} {out : Int32 × St} (N : (LM ad).Nodup) (C : xC p s m args meth c (xA (LM ad) sz) D 4 (tyM cI) b_Mo_isOneWay R_Mo) (hr : meth.sig.returnType = (some .boolean)) {K4 : Int32 → Int32 → Int32 → St → Option (Int32 × St)} (hK4 : ∀ (x1 x2 x3 : Int32) (st : St), K4 x1 x2 x3 st = some out → j_i p l e rm_Mo_isOneWay s m args below meth c sz D (WM ad cI) (LM ad) out 4 (WM ad cI st) [(0, .ref (ad 0)), (1, .int x1), (2, .int x2), (3, .int x3)] 4 []) (x1 x3 : Int32) (st : St) (hf : f_Mo_isOneWay_46 K4 x1 x3 st = some out) : j_i p l e rm_Mo_isOneWay s m args below meth c sz D (WM ad cI) (LM ad) out 4 (WM ad cI st) [(0, .ref (ad 0)), (1, .int x1), (3, .int x3)] 46 [] := by
  unfold f_Mo_isOneWay_46 at hf
  refine xj_iconst (v := 0) C d_Mo_isOneWay_46 rfl ?_
  exact xj_lv [0, 1, 2] rfl (w_Mo_isOneWay_47 N C hr hK4 x1 x3 0 st hf)
set_option maxHeartbeats 4000000 in
set_option maxRecDepth 20000 in
theorem w_Mo_isOneWay_42 {p : Program} {l : Launch} {e : Env} {s : State} {m : MethodId} {args : Array Value} {below : List Frame} {meth : Method} {c : Code} {sz : Nat} {D : va_G} {ad : Nat → Nat} {cI : ClassId × ClassId} {out : Int32 × St} (N : (LM ad).Nodup) (C : xC p s m args meth c (xA (LM ad) sz) D 4 (tyM cI) b_Mo_isOneWay R_Mo) (hr : meth.sig.returnType = (some .boolean)) {K4 : Int32 → Int32 → Int32 → St → Option (Int32 × St)} (hK4 : ∀ (x1 x2 x3 : Int32) (st : St), K4 x1 x2 x3 st = some out → j_i p l e rm_Mo_isOneWay s m args below meth c sz D (WM ad cI) (LM ad) out 4 (WM ad cI st) [(0, .ref (ad 0)), (1, .int x1), (2, .int x2), (3, .int x3)] 4 []) (x1 x3 : Int32) (st : St) (hf : f_Mo_isOneWay_42 K4 x1 x3 st = some out) : j_i p l e rm_Mo_isOneWay s m args below meth c sz D (WM ad cI) (LM ad) out 4 (WM ad cI st) [(0, .ref (ad 0)), (1, .int x1), (3, .int x3)] 42 [] := by
  unfold f_Mo_isOneWay_42 at hf
  refine xj_iconst (v := 1) C d_Mo_isOneWay_42 rfl ?_
  refine xj_goto (tgt := 47) C d_Mo_isOneWay_43 (by decide) ?_
  exact xj_lv [0, 1, 2] rfl (w_Mo_isOneWay_47 N C hr hK4 x1 x3 1 st hf)
set_option maxHeartbeats 4000000 in
set_option maxRecDepth 20000 in
theorem wb_Mo_isOneWay_4 {p : Program} {l : Launch} {e : Env} {s : State} {m : MethodId} {args : Array Value} {below : List Frame} {meth : Method} {c : Code} {sz : Nat} {D : va_G} {ad : Nat → Nat} {cI : ClassId × ClassId} {out : Int32 × St} (N : (LM ad).Nodup) (C : xC p s m args meth c (xA (LM ad) sz) D 4 (tyM cI) b_Mo_isOneWay R_Mo) (hr : meth.sig.returnType = (some .boolean)) {K4 : Int32 → Int32 → Int32 → St → Option (Int32 × St)} (hK4 : ∀ (x1 x2 x3 : Int32) (st : St), K4 x1 x2 x3 st = some out → j_i p l e rm_Mo_isOneWay s m args below meth c sz D (WM ad cI) (LM ad) out 4 (WM ad cI st) [(0, .ref (ad 0)), (1, .int x1), (2, .int x2), (3, .int x3)] 4 []) (x1 x2 x3 : Int32) (st : St) (hf : b_Mo_isOneWay_4 K4 x1 x2 x3 st = some out) : j_i p l e rm_Mo_isOneWay s m args below meth c sz D (WM ad cI) (LM ad) out 4 (WM ad cI st) [(0, .ref (ad 0)), (1, .int x1), (2, .int x2), (3, .int x3)] 4 [] := by
  unfold b_Mo_isOneWay_4 at hf
  refine xj_iload_n C d_Mo_isOneWay_4 rfl 3 rfl ?_
  refine xj_aload_n C d_Mo_isOneWay_5 rfl 0 rfl ?_
  refine xj_get C g_Mo_75 0 rfl rfl d_Mo_isOneWay_6 ?_
  refine xj_icmp_ge (tgt := 54) C d_Mo_isOneWay_9 (by decide) (fun h9 => ?_) (fun h9 => ?_)
  · have hf := xi_pos h9 hf
    refine xj_iload_n C d_Mo_isOneWay_54 rfl 2 rfl ?_
    obtain ⟨g1, hf⟩ := xb_guard hf
    exact xj_zret C hr (xb_narrow g1) hf d_Mo_isOneWay_55
  · have hf := xi_neg h9 hf
    refine xj_iload_n C d_Mo_isOneWay_12 rfl 2 rfl ?_
    refine xj_if_eq (tgt := 46) C d_Mo_isOneWay_13 (by decide) (fun h9 => ?_) (fun h9 => ?_)
    · have hf := xi_pos h9 hf
      exact xj_lv [0, 1, 3] rfl (w_Mo_isOneWay_46 N C hr hK4 x1 x3 st hf)
    · have hf := xi_neg h9 hf
      refine xj_iload_n C d_Mo_isOneWay_16 rfl 1 rfl ?_
      refine xj_iload_n C d_Mo_isOneWay_17 rfl 3 rfl ?_
      refine xj_ishr C d_Mo_isOneWay_18 ?_
      refine xj_iconst (v := 1) C d_Mo_isOneWay_19 rfl ?_
      refine xj_iand C d_Mo_isOneWay_20 ?_
      refine xj_if_eq (tgt := 42) C d_Mo_isOneWay_21 (by decide) (fun h9 => ?_) (fun h9 => ?_)
      · have hf := xi_pos h9 hf
        exact xj_lv [0, 1, 3] rfl (w_Mo_isOneWay_42 N C hr hK4 x1 x3 st hf)
      · have hf := xi_neg h9 hf
        refine xj_aload_n C d_Mo_isOneWay_24 rfl 0 rfl ?_
        refine xj_get C g_Mo_41 0 rfl rfl d_Mo_isOneWay_25 ?_
        refine xj_iload_n C d_Mo_isOneWay_28 rfl 3 rfl ?_
        obtain ⟨g2, hf⟩ := xb_guard hf
        refine xj_iald C 10 0 rfl rfl g2 d_Mo_isOneWay_29 ?_
        refine xj_aload_n C d_Mo_isOneWay_30 rfl 0 rfl ?_
        refine xj_get C g_Mo_41 0 rfl rfl d_Mo_isOneWay_31 ?_
        refine xj_iload_n C d_Mo_isOneWay_34 rfl 1 rfl ?_
        obtain ⟨o3, ho3, hf⟩ := xb_some hf
        refine xj_callSi (rest := [.ref (ad 10), .int (st.2 9 x3.toNatClampNeg)]) C (c_Mo_first N ho3) Y_Mo_first i_Mo_104 (by decide) ⟨rfl, rfl⟩ rfl rfl (Nat.le_of_ble_eq_true rfl) d_Mo_isOneWay_35 (fun q h => Or.inl h) ?_
        obtain ⟨g4, hf⟩ := xb_guard hf
        refine xj_iald C 10 0 rfl rfl g4 d_Mo_isOneWay_38 ?_
        refine xj_icmp_ne (tgt := 46) C d_Mo_isOneWay_39 (by decide) (fun h9 => ?_) (fun h9 => ?_)
        · have hf := xi_neg h9 hf
          exact xj_lv [0, 1, 3] rfl (w_Mo_isOneWay_46 N C hr hK4 x1 x3 o3.2 hf)
        · have hf := xi_pos h9 hf
          exact xj_lv [0, 1, 3] rfl (w_Mo_isOneWay_42 N C hr hK4 x1 x3 o3.2 hf)
set_option maxHeartbeats 4000000 in
set_option maxRecDepth 20000 in
theorem w_Mo_isOneWay_4 {p : Program} {l : Launch} {e : Env} {s : State} {m : MethodId} {args : Array Value} {below : List Frame} {meth : Method} {c : Code} {sz : Nat} {D : va_G} {ad : Nat → Nat} {cI : ClassId × ClassId} {out : Int32 × St} (N : (LM ad).Nodup) (C : xC p s m args meth c (xA (LM ad) sz) D 4 (tyM cI) b_Mo_isOneWay R_Mo) (hr : meth.sig.returnType = (some .boolean)) (n : Nat) : ∀ (x1 x2 x3 : Int32) (st : St), f_Mo_isOneWay_4 n x1 x2 x3 st = some out → j_i p l e rm_Mo_isOneWay s m args below meth c sz D (WM ad cI) (LM ad) out 4 (WM ad cI st) [(0, .ref (ad 0)), (1, .int x1), (2, .int x2), (3, .int x3)] 4 [] := by
  induction n with
  | zero => intro x1 x2 x3 st hf; exact absurd (show (none : Option (Int32 × St)) = some out from hf) (fun h => by cases h)
  | succ n ih => intro x1 x2 x3 st hf; exact wb_Mo_isOneWay_4 N C hr ih x1 x2 x3 st hf
set_option maxHeartbeats 4000000 in
set_option maxRecDepth 20000 in
theorem c_Mo_isOneWay {l : Launch} {D : va_G} {ad : Nat → Nat} {cI : ClassId × ClassId} (N : (LM ad).Nodup) {x1 : Int32} {st : St} {out : Int32 × St} (hf : f_Mo_isOneWay x1 st = some out) : xMi l y_Mo_isOneWay b_Mo_isOneWay 4 (some .boolean) rm_Mo_isOneWay D (tyM cI) (WM ad cI) (LM ad) [.ref (ad 0), .int x1] st out := by
  intro sz
  refine xM_of (L := LM ad) (by decide) (Nat.le_of_ble_eq_true rfl) (fun p e s m below meth c hsz hr C => ?_)
  show j_i p l e rm_Mo_isOneWay s m _ below meth c sz D (WM ad cI) (LM ad) out 4 (WM ad cI st) [(0, .ref (ad 0)), (1, .int x1)] 0 []
  unfold f_Mo_isOneWay at hf
  refine xj_iconst (v := 1) C d_Mo_isOneWay_0 rfl ?_
  refine xj_istore_n C d_Mo_isOneWay_1 rfl (by decide) rfl ?_
  refine xj_iconst (v := 0) C d_Mo_isOneWay_2 rfl ?_
  refine xj_istore_n C d_Mo_isOneWay_3 rfl (by decide) rfl ?_
  exact xj_lv [2, 3, 1, 0] rfl (w_Mo_isOneWay_4 N C hr 40 x1 1 0 st hf)
set_option maxHeartbeats 4000000 in
set_option maxRecDepth 20000 in
theorem w_Mo_open_75 {p : Program} {l : Launch} {e : Env} {s : State} {m : MethodId} {args : Array Value} {below : List Frame} {meth : Method} {c : Code} {sz : Nat} {D : va_G} {ad : Nat → Nat} {cI : ClassId × ClassId} {out : Int32 × St} (N : (LM ad).Nodup) (C : xC p s m args meth c (xA (LM ad) sz) D 6 (tyM cI) b_Mo_open R_Mo) (hr : meth.sig.returnType = (some .int)) {K5 : Int32 → Int32 → Int32 → St → Option (Int32 × St)} {K15 : Int32 → Int32 → Int32 → Int32 → St → Option (Int32 × St)} (hK5 : ∀ (x1 x3 x4 : Int32) (st : St), K5 x1 x3 x4 st = some out → j_i p l e rm_Mo_open s m args below meth c sz D (WM ad cI) (LM ad) out 6 (WM ad cI st) [(0, .ref (ad 0)), (1, .int x1), (3, .int x3), (4, .int x4)] 5 []) (hK15 : ∀ (x1 x3 x4 x5 : Int32) (st : St), K15 x1 x3 x4 x5 st = some out → j_i p l e rm_Mo_open s m args below meth c sz D (WM ad cI) (LM ad) out 6 (WM ad cI st) [(0, .ref (ad 0)), (1, .int x1), (3, .int x3), (4, .int x4), (5, .int x5)] 15 []) (x1 x4 x5 y0 : Int32) (st : St) (hf : f_Mo_open_75 K5 K15 x1 x4 x5 y0 st = some out) : j_i p l e rm_Mo_open s m args below meth c sz D (WM ad cI) (LM ad) out 6 (WM ad cI st) [(0, .ref (ad 0)), (1, .int x1), (4, .int x4), (5, .int x5)] 75 [.int y0] := by
  unfold f_Mo_open_75 at hf
  refine xj_istore_n C d_Mo_open_75 rfl (by decide) rfl ?_
  refine xj_iinc (v := x5 + 1) (j := 4) C d_Mo_open_76 rfl rfl (by decide) rfl ?_
  refine xj_goto (tgt := 15) C d_Mo_open_79 (by decide) ?_
  exact xj_lv [2, 3, 1, 4, 0] rfl (hK15 x1 y0 x4 (x5 + 1) st hf)
set_option maxHeartbeats 4000000 in
set_option maxRecDepth 20000 in
theorem w_Mo_open_74 {p : Program} {l : Launch} {e : Env} {s : State} {m : MethodId} {args : Array Value} {below : List Frame} {meth : Method} {c : Code} {sz : Nat} {D : va_G} {ad : Nat → Nat} {cI : ClassId × ClassId} {out : Int32 × St} (N : (LM ad).Nodup) (C : xC p s m args meth c (xA (LM ad) sz) D 6 (tyM cI) b_Mo_open R_Mo) (hr : meth.sig.returnType = (some .int)) {K5 : Int32 → Int32 → Int32 → St → Option (Int32 × St)} {K15 : Int32 → Int32 → Int32 → Int32 → St → Option (Int32 × St)} (hK5 : ∀ (x1 x3 x4 : Int32) (st : St), K5 x1 x3 x4 st = some out → j_i p l e rm_Mo_open s m args below meth c sz D (WM ad cI) (LM ad) out 6 (WM ad cI st) [(0, .ref (ad 0)), (1, .int x1), (3, .int x3), (4, .int x4)] 5 []) (hK15 : ∀ (x1 x3 x4 x5 : Int32) (st : St), K15 x1 x3 x4 x5 st = some out → j_i p l e rm_Mo_open s m args below meth c sz D (WM ad cI) (LM ad) out 6 (WM ad cI st) [(0, .ref (ad 0)), (1, .int x1), (3, .int x3), (4, .int x4), (5, .int x5)] 15 []) (x1 x3 x4 x5 : Int32) (st : St) (hf : f_Mo_open_74 K5 K15 x1 x3 x4 x5 st = some out) : j_i p l e rm_Mo_open s m args below meth c sz D (WM ad cI) (LM ad) out 6 (WM ad cI st) [(0, .ref (ad 0)), (1, .int x1), (3, .int x3), (4, .int x4), (5, .int x5)] 74 [] := by
  unfold f_Mo_open_74 at hf
  refine xj_iload_n C d_Mo_open_74 rfl 2 rfl ?_
  exact xj_lv [0, 1, 3, 4] rfl (w_Mo_open_75 N C hr hK5 hK15 x1 x4 x5 x3 st hf)
set_option maxHeartbeats 4000000 in
set_option maxRecDepth 20000 in
theorem wb_Mo_open_15 {p : Program} {l : Launch} {e : Env} {s : State} {m : MethodId} {args : Array Value} {below : List Frame} {meth : Method} {c : Code} {sz : Nat} {D : va_G} {ad : Nat → Nat} {cI : ClassId × ClassId} {out : Int32 × St} (N : (LM ad).Nodup) (C : xC p s m args meth c (xA (LM ad) sz) D 6 (tyM cI) b_Mo_open R_Mo) (hr : meth.sig.returnType = (some .int)) {K5 : Int32 → Int32 → Int32 → St → Option (Int32 × St)} (hK5 : ∀ (x1 x3 x4 : Int32) (st : St), K5 x1 x3 x4 st = some out → j_i p l e rm_Mo_open s m args below meth c sz D (WM ad cI) (LM ad) out 6 (WM ad cI st) [(0, .ref (ad 0)), (1, .int x1), (3, .int x3), (4, .int x4)] 5 []) {K15 : Int32 → Int32 → Int32 → Int32 → St → Option (Int32 × St)} (hK15 : ∀ (x1 x3 x4 x5 : Int32) (st : St), K15 x1 x3 x4 x5 st = some out → j_i p l e rm_Mo_open s m args below meth c sz D (WM ad cI) (LM ad) out 6 (WM ad cI st) [(0, .ref (ad 0)), (1, .int x1), (3, .int x3), (4, .int x4), (5, .int x5)] 15 []) (x1 x3 x4 x5 : Int32) (st : St) (hf : b_Mo_open_15 K5 K15 x1 x3 x4 x5 st = some out) : j_i p l e rm_Mo_open s m args below meth c sz D (WM ad cI) (LM ad) out 6 (WM ad cI st) [(0, .ref (ad 0)), (1, .int x1), (3, .int x3), (4, .int x4), (5, .int x5)] 15 [] := by
  unfold b_Mo_open_15 at hf
  refine xj_iload C d_Mo_open_15 4 rfl ?_
  refine xj_aload_n C d_Mo_open_17 rfl 0 rfl ?_
  refine xj_get C g_Mo_90 0 rfl rfl d_Mo_open_18 ?_
  refine xj_icmp_ge (tgt := 82) C d_Mo_open_21 (by decide) (fun h9 => ?_) (fun h9 => ?_)
  · have hf := xi_pos h9 hf
    refine xj_iinc (v := x4 + 1) (j := 3) C d_Mo_open_82 rfl rfl (by decide) rfl ?_
    refine xj_goto (tgt := 5) C d_Mo_open_85 (by decide) ?_
    exact xj_lv [1, 2, 3, 0] rfl (hK5 x1 x3 (x4 + 1) st hf)
  · have hf := xi_neg h9 hf
    refine xj_aload_n C d_Mo_open_24 rfl 0 rfl ?_
    refine xj_get C g_Mo_23 0 rfl rfl d_Mo_open_25 ?_
    refine xj_iload C d_Mo_open_28 4 rfl ?_
    obtain ⟨g1, hf⟩ := xb_guard hf
    refine xj_iald C 4 0 rfl rfl g1 d_Mo_open_30 ?_
    refine xj_iload_n C d_Mo_open_31 rfl 1 rfl ?_
    refine xj_icmp_ne (tgt := 74) C d_Mo_open_32 (by decide) (fun h9 => ?_) (fun h9 => ?_)
    · have hf := xi_neg h9 hf
      exact xj_lv [0, 1, 2, 3, 4] rfl (w_Mo_open_74 N C hr hK5 hK15 x1 x3 x4 x5 st hf)
    · have hf := xi_pos h9 hf
      refine xj_iload_n C d_Mo_open_35 rfl 2 rfl ?_
      refine xj_aload_n C d_Mo_open_36 rfl 0 rfl ?_
      refine xj_get C g_Mo_29 0 rfl rfl d_Mo_open_37 ?_
      refine xj_iload C d_Mo_open_40 4 rfl ?_
      obtain ⟨g2, hf⟩ := xb_guard hf
      refine xj_iald C 6 0 rfl rfl g2 d_Mo_open_42 ?_
      refine xj_icmp_ge (tgt := 74) C d_Mo_open_43 (by decide) (fun h9 => ?_) (fun h9 => ?_)
      · have hf := xi_pos h9 hf
        exact xj_lv [0, 1, 2, 3, 4] rfl (w_Mo_open_74 N C hr hK5 hK15 x1 x3 x4 x5 st hf)
      · have hf := xi_neg h9 hf
        refine xj_iload_n C d_Mo_open_46 rfl 2 rfl ?_
        refine xj_aload_n C d_Mo_open_47 rfl 0 rfl ?_
        refine xj_get C g_Mo_20 0 rfl rfl d_Mo_open_48 ?_
        refine xj_iload_n C d_Mo_open_51 rfl 1 rfl ?_
        obtain ⟨g3, hf⟩ := xb_guard hf
        refine xj_iald C 3 0 rfl rfl g3 d_Mo_open_52 ?_
        refine xj_iadd C d_Mo_open_53 ?_
        refine xj_aload_n C d_Mo_open_54 rfl 0 rfl ?_
        refine xj_get C g_Mo_26 0 rfl rfl d_Mo_open_55 ?_
        refine xj_iload C d_Mo_open_58 4 rfl ?_
        obtain ⟨g4, hf⟩ := xb_guard hf
        refine xj_iald C 5 0 rfl rfl g4 d_Mo_open_60 ?_
        refine xj_icmp_le (tgt := 74) C d_Mo_open_61 (by decide) (fun h9 => ?_) (fun h9 => ?_)
        · have hf := xi_pos h9 hf
          exact xj_lv [0, 1, 2, 3, 4] rfl (w_Mo_open_74 N C hr hK5 hK15 x1 x3 x4 x5 st hf)
        · have hf := xi_neg h9 hf
          refine xj_aload_n C d_Mo_open_64 rfl 0 rfl ?_
          refine xj_get C g_Mo_29 0 rfl rfl d_Mo_open_65 ?_
          refine xj_iload C d_Mo_open_68 4 rfl ?_
          obtain ⟨g5, hf⟩ := xb_guard hf
          refine xj_iald C 6 0 rfl rfl g5 d_Mo_open_70 ?_
          refine xj_goto (tgt := 75) C d_Mo_open_71 (by decide) ?_
          exact xj_lv [0, 1, 3, 4] rfl (w_Mo_open_75 N C hr hK5 hK15 x1 x4 x5 (st.2 5 x5.toNatClampNeg) st hf)
set_option maxHeartbeats 4000000 in
set_option maxRecDepth 20000 in
theorem w_Mo_open_15 {p : Program} {l : Launch} {e : Env} {s : State} {m : MethodId} {args : Array Value} {below : List Frame} {meth : Method} {c : Code} {sz : Nat} {D : va_G} {ad : Nat → Nat} {cI : ClassId × ClassId} {out : Int32 × St} (N : (LM ad).Nodup) (C : xC p s m args meth c (xA (LM ad) sz) D 6 (tyM cI) b_Mo_open R_Mo) (hr : meth.sig.returnType = (some .int)) {K5 : Int32 → Int32 → Int32 → St → Option (Int32 × St)} (hK5 : ∀ (x1 x3 x4 : Int32) (st : St), K5 x1 x3 x4 st = some out → j_i p l e rm_Mo_open s m args below meth c sz D (WM ad cI) (LM ad) out 6 (WM ad cI st) [(0, .ref (ad 0)), (1, .int x1), (3, .int x3), (4, .int x4)] 5 []) (n : Nat) : ∀ (x1 x3 x4 x5 : Int32) (st : St), f_Mo_open_15 K5 n x1 x3 x4 x5 st = some out → j_i p l e rm_Mo_open s m args below meth c sz D (WM ad cI) (LM ad) out 6 (WM ad cI st) [(0, .ref (ad 0)), (1, .int x1), (3, .int x3), (4, .int x4), (5, .int x5)] 15 [] := by
  induction n with
  | zero => intro x1 x3 x4 x5 st hf; exact absurd (show (none : Option (Int32 × St)) = some out from hf) (fun h => by cases h)
  | succ n ih => intro x1 x3 x4 x5 st hf; exact wb_Mo_open_15 N C hr hK5 ih x1 x3 x4 x5 st hf
set_option maxHeartbeats 4000000 in
set_option maxRecDepth 20000 in
theorem wb_Mo_open_5 {p : Program} {l : Launch} {e : Env} {s : State} {m : MethodId} {args : Array Value} {below : List Frame} {meth : Method} {c : Code} {sz : Nat} {D : va_G} {ad : Nat → Nat} {cI : ClassId × ClassId} {out : Int32 × St} (N : (LM ad).Nodup) (C : xC p s m args meth c (xA (LM ad) sz) D 6 (tyM cI) b_Mo_open R_Mo) (hr : meth.sig.returnType = (some .int)) {K5 : Int32 → Int32 → Int32 → St → Option (Int32 × St)} (hK5 : ∀ (x1 x3 x4 : Int32) (st : St), K5 x1 x3 x4 st = some out → j_i p l e rm_Mo_open s m args below meth c sz D (WM ad cI) (LM ad) out 6 (WM ad cI st) [(0, .ref (ad 0)), (1, .int x1), (3, .int x3), (4, .int x4)] 5 []) (x1 x3 x4 : Int32) (st : St) (hf : b_Mo_open_5 K5 x1 x3 x4 st = some out) : j_i p l e rm_Mo_open s m args below meth c sz D (WM ad cI) (LM ad) out 6 (WM ad cI st) [(0, .ref (ad 0)), (1, .int x1), (3, .int x3), (4, .int x4)] 5 [] := by
  unfold b_Mo_open_5 at hf
  refine xj_iload C d_Mo_open_5 3 rfl ?_
  refine xj_bipush (v := 9) C d_Mo_open_7 rfl ?_
  refine xj_icmp_ge (tgt := 88) C d_Mo_open_9 (by decide) (fun h9 => ?_) (fun h9 => ?_)
  · have hf := xi_pos h9 hf
    refine xj_iload_n C d_Mo_open_88 rfl 2 rfl ?_
    exact xj_iret C hr hf d_Mo_open_89
  · have hf := xi_neg h9 hf
    refine xj_iconst (v := 0) C d_Mo_open_12 rfl ?_
    refine xj_istore C d_Mo_open_13 (by decide) rfl ?_
    exact xj_lv [1, 2, 3, 4, 0] rfl (w_Mo_open_15 N C hr hK5 40 x1 x3 x4 0 st hf)
set_option maxHeartbeats 4000000 in
set_option maxRecDepth 20000 in
theorem w_Mo_open_5 {p : Program} {l : Launch} {e : Env} {s : State} {m : MethodId} {args : Array Value} {below : List Frame} {meth : Method} {c : Code} {sz : Nat} {D : va_G} {ad : Nat → Nat} {cI : ClassId × ClassId} {out : Int32 × St} (N : (LM ad).Nodup) (C : xC p s m args meth c (xA (LM ad) sz) D 6 (tyM cI) b_Mo_open R_Mo) (hr : meth.sig.returnType = (some .int)) (n : Nat) : ∀ (x1 x3 x4 : Int32) (st : St), f_Mo_open_5 n x1 x3 x4 st = some out → j_i p l e rm_Mo_open s m args below meth c sz D (WM ad cI) (LM ad) out 6 (WM ad cI st) [(0, .ref (ad 0)), (1, .int x1), (3, .int x3), (4, .int x4)] 5 [] := by
  induction n with
  | zero => intro x1 x3 x4 st hf; exact absurd (show (none : Option (Int32 × St)) = some out from hf) (fun h => by cases h)
  | succ n ih => intro x1 x3 x4 st hf; exact wb_Mo_open_5 N C hr ih x1 x3 x4 st hf
set_option maxHeartbeats 4000000 in
set_option maxRecDepth 20000 in
theorem c_Mo_open {l : Launch} {D : va_G} {ad : Nat → Nat} {cI : ClassId × ClassId} (N : (LM ad).Nodup) {x1 x2 : Int32} {st : St} {out : Int32 × St} (hf : f_Mo_open x1 x2 st = some out) : xMi l y_Mo_open b_Mo_open 6 (some .int) rm_Mo_open D (tyM cI) (WM ad cI) (LM ad) [.ref (ad 0), .int x1, .int x2] st out := by
  intro sz
  refine xM_of (L := LM ad) (by decide) (Nat.le_of_ble_eq_true rfl) (fun p e s m below meth c hsz hr C => ?_)
  show j_i p l e rm_Mo_open s m _ below meth c sz D (WM ad cI) (LM ad) out 6 (WM ad cI st) [(0, .ref (ad 0)), (1, .int x1), (2, .int x2)] 0 []
  unfold f_Mo_open at hf
  refine xj_iload_n C d_Mo_open_0 rfl 2 rfl ?_
  refine xj_istore_n C d_Mo_open_1 rfl (by decide) rfl ?_
  refine xj_iconst (v := 0) C d_Mo_open_2 rfl ?_
  refine xj_istore C d_Mo_open_3 (by decide) rfl ?_
  exact xj_lv [2, 3, 1, 0] rfl (w_Mo_open_5 N C hr 40 x1 x2 0 st hf)
set_option maxHeartbeats 4000000 in
set_option maxRecDepth 20000 in
theorem w_Mo_times_213 {p : Program} {l : Launch} {e : Env} {s : State} {m : MethodId} {args : Array Value} {below : List Frame} {meth : Method} {c : Code} {sz : Nat} {D : va_G} {ad : Nat → Nat} {cI : ClassId × ClassId} {out : Int32 × St} (N : (LM ad).Nodup) (C : xC p s m args meth c (xA (LM ad) sz) D 10 (tyM cI) b_Mo_times R_Mo) (hr : meth.sig.returnType = (some .boolean)) {K10 : Int32 → Int32 → Int32 → Int32 → Int32 → St → Option (Int32 × St)} (hK10 : ∀ (x1 x2 x3 x4 x5 : Int32) (st : St), K10 x1 x2 x3 x4 x5 st = some out → j_i p l e rm_Mo_times s m args below meth c sz D (WM ad cI) (LM ad) out 10 (WM ad cI st) [(0, .ref (ad 0)), (1, .int x1), (2, .int x2), (3, .int x3), (4, .int x4), (5, .int x5)] 10 []) (x1 x2 x3 x4 x5 : Int32) (st : St) (hf : f_Mo_times_213 K10 x1 x2 x3 x4 x5 st = some out) : j_i p l e rm_Mo_times s m args below meth c sz D (WM ad cI) (LM ad) out 10 (WM ad cI st) [(0, .ref (ad 0)), (1, .int x1), (2, .int x2), (3, .int x3), (4, .int x4), (5, .int x5)] 213 [] := by
  unfold f_Mo_times_213 at hf
  refine xj_iinc (v := x5 + 1) (j := 5) C d_Mo_times_213 rfl rfl (by decide) rfl ?_
  refine xj_goto (tgt := 10) C d_Mo_times_216 (by decide) ?_
  exact xj_lv [1, 2, 3, 4, 5, 0] rfl (hK10 x1 x2 x3 x4 (x5 + 1) st hf)
set_option maxHeartbeats 4000000 in
set_option maxRecDepth 20000 in
theorem w_Mo_times_168 {p : Program} {l : Launch} {e : Env} {s : State} {m : MethodId} {args : Array Value} {below : List Frame} {meth : Method} {c : Code} {sz : Nat} {D : va_G} {ad : Nat → Nat} {cI : ClassId × ClassId} {out : Int32 × St} (N : (LM ad).Nodup) (C : xC p s m args meth c (xA (LM ad) sz) D 10 (tyM cI) b_Mo_times R_Mo) (hr : meth.sig.returnType = (some .boolean)) {K10 : Int32 → Int32 → Int32 → Int32 → Int32 → St → Option (Int32 × St)} {K124 : Int32 → Int32 → Int32 → Int32 → Int32 → Int32 → Int32 → St → Option (Int32 × St)} (hK10 : ∀ (x1 x2 x3 x4 x5 : Int32) (st : St), K10 x1 x2 x3 x4 x5 st = some out → j_i p l e rm_Mo_times s m args below meth c sz D (WM ad cI) (LM ad) out 10 (WM ad cI st) [(0, .ref (ad 0)), (1, .int x1), (2, .int x2), (3, .int x3), (4, .int x4), (5, .int x5)] 10 []) (hK124 : ∀ (x1 x4 x5 x6 x7 x8 x9 : Int32) (st : St), K124 x1 x4 x5 x6 x7 x8 x9 st = some out → j_i p l e rm_Mo_times s m args below meth c sz D (WM ad cI) (LM ad) out 10 (WM ad cI st) [(0, .ref (ad 0)), (1, .int x1), (4, .int x4), (5, .int x5), (6, .int x6), (7, .int x7), (8, .int x8), (9, .int x9)] 124 []) (x1 x4 x5 x6 x7 x9 y0 : Int32) (st : St) (hf : f_Mo_times_168 K10 K124 x1 x4 x5 x6 x7 x9 y0 st = some out) : j_i p l e rm_Mo_times s m args below meth c sz D (WM ad cI) (LM ad) out 10 (WM ad cI st) [(0, .ref (ad 0)), (1, .int x1), (4, .int x4), (5, .int x5), (6, .int x6), (7, .int x7), (9, .int x9)] 168 [.int y0] := by
  unfold f_Mo_times_168 at hf
  refine xj_istore C d_Mo_times_168 (by decide) rfl ?_
  refine xj_iinc (v := x9 + 1) (j := 7) C d_Mo_times_170 rfl rfl (by decide) rfl ?_
  refine xj_goto (tgt := 124) C d_Mo_times_173 (by decide) ?_
  exact xj_lv [2, 3, 4, 5, 6, 7, 1, 0] rfl (hK124 x1 x4 x5 x6 x7 y0 (x9 + 1) st hf)
set_option maxHeartbeats 4000000 in
set_option maxRecDepth 20000 in
theorem w_Mo_times_166 {p : Program} {l : Launch} {e : Env} {s : State} {m : MethodId} {args : Array Value} {below : List Frame} {meth : Method} {c : Code} {sz : Nat} {D : va_G} {ad : Nat → Nat} {cI : ClassId × ClassId} {out : Int32 × St} (N : (LM ad).Nodup) (C : xC p s m args meth c (xA (LM ad) sz) D 10 (tyM cI) b_Mo_times R_Mo) (hr : meth.sig.returnType = (some .boolean)) {K10 : Int32 → Int32 → Int32 → Int32 → Int32 → St → Option (Int32 × St)} {K124 : Int32 → Int32 → Int32 → Int32 → Int32 → Int32 → Int32 → St → Option (Int32 × St)} (hK10 : ∀ (x1 x2 x3 x4 x5 : Int32) (st : St), K10 x1 x2 x3 x4 x5 st = some out → j_i p l e rm_Mo_times s m args below meth c sz D (WM ad cI) (LM ad) out 10 (WM ad cI st) [(0, .ref (ad 0)), (1, .int x1), (2, .int x2), (3, .int x3), (4, .int x4), (5, .int x5)] 10 []) (hK124 : ∀ (x1 x4 x5 x6 x7 x8 x9 : Int32) (st : St), K124 x1 x4 x5 x6 x7 x8 x9 st = some out → j_i p l e rm_Mo_times s m args below meth c sz D (WM ad cI) (LM ad) out 10 (WM ad cI st) [(0, .ref (ad 0)), (1, .int x1), (4, .int x4), (5, .int x5), (6, .int x6), (7, .int x7), (8, .int x8), (9, .int x9)] 124 []) (x1 x4 x5 x6 x7 x8 x9 : Int32) (st : St) (hf : f_Mo_times_166 K10 K124 x1 x4 x5 x6 x7 x8 x9 st = some out) : j_i p l e rm_Mo_times s m args below meth c sz D (WM ad cI) (LM ad) out 10 (WM ad cI st) [(0, .ref (ad 0)), (1, .int x1), (4, .int x4), (5, .int x5), (6, .int x6), (7, .int x7), (8, .int x8), (9, .int x9)] 166 [] := by
  unfold f_Mo_times_166 at hf
  refine xj_iload C d_Mo_times_166 6 rfl ?_
  exact xj_lv [0, 1, 2, 3, 4, 5, 7] rfl (w_Mo_times_168 N C hr hK10 hK124 x1 x4 x5 x6 x7 x9 x8 st hf)
set_option maxHeartbeats 4000000 in
set_option maxRecDepth 20000 in
theorem wb_Mo_times_124 {p : Program} {l : Launch} {e : Env} {s : State} {m : MethodId} {args : Array Value} {below : List Frame} {meth : Method} {c : Code} {sz : Nat} {D : va_G} {ad : Nat → Nat} {cI : ClassId × ClassId} {out : Int32 × St} (N : (LM ad).Nodup) (C : xC p s m args meth c (xA (LM ad) sz) D 10 (tyM cI) b_Mo_times R_Mo) (hr : meth.sig.returnType = (some .boolean)) {K10 : Int32 → Int32 → Int32 → Int32 → Int32 → St → Option (Int32 × St)} (hK10 : ∀ (x1 x2 x3 x4 x5 : Int32) (st : St), K10 x1 x2 x3 x4 x5 st = some out → j_i p l e rm_Mo_times s m args below meth c sz D (WM ad cI) (LM ad) out 10 (WM ad cI st) [(0, .ref (ad 0)), (1, .int x1), (2, .int x2), (3, .int x3), (4, .int x4), (5, .int x5)] 10 []) {K124 : Int32 → Int32 → Int32 → Int32 → Int32 → Int32 → Int32 → St → Option (Int32 × St)} (hK124 : ∀ (x1 x4 x5 x6 x7 x8 x9 : Int32) (st : St), K124 x1 x4 x5 x6 x7 x8 x9 st = some out → j_i p l e rm_Mo_times s m args below meth c sz D (WM ad cI) (LM ad) out 10 (WM ad cI st) [(0, .ref (ad 0)), (1, .int x1), (4, .int x4), (5, .int x5), (6, .int x6), (7, .int x7), (8, .int x8), (9, .int x9)] 124 []) (x1 x4 x5 x6 x7 x8 x9 : Int32) (st : St) (hf : b_Mo_times_124 K10 K124 x1 x4 x5 x6 x7 x8 x9 st = some out) : j_i p l e rm_Mo_times s m args below meth c sz D (WM ad cI) (LM ad) out 10 (WM ad cI st) [(0, .ref (ad 0)), (1, .int x1), (4, .int x4), (5, .int x5), (6, .int x6), (7, .int x7), (8, .int x8), (9, .int x9)] 124 [] := by
  unfold b_Mo_times_124 at hf
  refine xj_iload C d_Mo_times_124 7 rfl ?_
  refine xj_aload_n C d_Mo_times_126 rfl 0 rfl ?_
  refine xj_get C g_Mo_75 0 rfl rfl d_Mo_times_127 ?_
  refine xj_icmp_ge (tgt := 176) C d_Mo_times_130 (by decide) (fun h9 => ?_) (fun h9 => ?_)
  · have hf := xi_pos h9 hf
    refine xj_aload_n C d_Mo_times_176 rfl 0 rfl ?_
    refine xj_iload_n C d_Mo_times_177 rfl 1 rfl ?_
    refine xj_iload C d_Mo_times_178 6 rfl ?_
    obtain ⟨o6, ho6, hf⟩ := xb_some hf
    refine xj_callVi (rest := []) C (c_Mo_open N ho6) Y_Mo_open i_Mo_114 0 rfl rfl (by decide) ⟨rfl, rfl⟩ rfl rfl (Nat.le_of_ble_eq_true rfl) d_Mo_times_180 (fun q h => Or.inl h) ?_
    refine xj_istore C d_Mo_times_183 (by decide) rfl ?_
    refine xj_aload_n C d_Mo_times_185 rfl 1 rfl ?_
    refine xj_get C g_Mo_66 0 rfl rfl d_Mo_times_186 ?_
    refine xj_iconst (v := 4) C d_Mo_times_189 rfl ?_
    refine xj_iload_n C d_Mo_times_190 rfl 2 rfl ?_
    refine xj_imul C d_Mo_times_191 ?_
    refine xj_iload C d_Mo_times_192 4 rfl ?_
    refine xj_iadd C d_Mo_times_194 ?_
    refine xj_iload C d_Mo_times_195 0 rfl ?_
    obtain ⟨g7, hf⟩ := xb_guard hf
    obtain ⟨s8, es8, hf⟩ := xlet_ex hf
    refine xj_iast (ws' := WM ad cI s8) C (WM_D N sz _) 18 0 rfl rfl g7 d_Mo_times_197 (by rw [es8]; rfl) ?_
    refine xj_iload C d_Mo_times_198 0 rfl ?_
    refine xj_aload_n C d_Mo_times_200 rfl 1 rfl ?_
    refine xj_get C g_Mo_20 0 rfl rfl d_Mo_times_201 ?_
    refine xj_iload_n C d_Mo_times_204 rfl 2 rfl ?_
    obtain ⟨g9, hf⟩ := xb_guard hf
    refine xj_iald C 3 0 rfl rfl g9 d_Mo_times_205 ?_
    refine xj_iadd C d_Mo_times_206 ?_
    refine xj_topi (fun v10 ev10 => ?_)
    have hf := xlet_at ev10 hf
    refine xj_istore_n C d_Mo_times_207 rfl (by decide) rfl ?_
    refine xj_iconst (v := 1) C d_Mo_times_208 rfl ?_
    refine xj_iload C d_Mo_times_209 7 rfl ?_
    refine xj_isub C d_Mo_times_211 ?_
    refine xj_topi (fun v11 ev11 => ?_)
    have hf := xlet_at ev11 hf
    refine xj_istore_n C d_Mo_times_212 rfl (by decide) rfl ?_
    exact xj_lv [3, 4, 1, 0, 5, 6] rfl (w_Mo_times_213 N C hr hK10 x1 v10 v11 x4 x5 s8 hf)
  · have hf := xi_neg h9 hf
    refine xj_iload C d_Mo_times_133 4 rfl ?_
    refine xj_iload C d_Mo_times_135 7 rfl ?_
    refine xj_ishr C d_Mo_times_137 ?_
    refine xj_iconst (v := 1) C d_Mo_times_138 rfl ?_
    refine xj_iand C d_Mo_times_139 ?_
    refine xj_iconst (v := 1) C d_Mo_times_140 rfl ?_
    refine xj_icmp_ne (tgt := 166) C d_Mo_times_141 (by decide) (fun h9 => ?_) (fun h9 => ?_)
    · have hf := xi_neg h9 hf
      exact xj_lv [0, 1, 2, 3, 4, 5, 6, 7] rfl (w_Mo_times_166 N C hr hK10 hK124 x1 x4 x5 x6 x7 x8 x9 st hf)
    · have hf := xi_pos h9 hf
      refine xj_aload_n C d_Mo_times_144 rfl 0 rfl ?_
      refine xj_get C g_Mo_38 0 rfl rfl d_Mo_times_145 ?_
      refine xj_iload C d_Mo_times_148 7 rfl ?_
      obtain ⟨g12, hf⟩ := xb_guard hf
      refine xj_iald C 9 0 rfl rfl g12 d_Mo_times_150 ?_
      refine xj_iload C d_Mo_times_151 6 rfl ?_
      refine xj_icmp_le (tgt := 166) C d_Mo_times_153 (by decide) (fun h9 => ?_) (fun h9 => ?_)
      · have hf := xi_pos h9 hf
        exact xj_lv [0, 1, 2, 3, 4, 5, 6, 7] rfl (w_Mo_times_166 N C hr hK10 hK124 x1 x4 x5 x6 x7 x8 x9 st hf)
      · have hf := xi_neg h9 hf
        refine xj_aload_n C d_Mo_times_156 rfl 0 rfl ?_
        refine xj_get C g_Mo_38 0 rfl rfl d_Mo_times_157 ?_
        refine xj_iload C d_Mo_times_160 7 rfl ?_
        obtain ⟨g13, hf⟩ := xb_guard hf
        refine xj_iald C 9 0 rfl rfl g13 d_Mo_times_162 ?_
        refine xj_goto (tgt := 168) C d_Mo_times_163 (by decide) ?_
        exact xj_lv [0, 1, 2, 3, 4, 5, 7] rfl (w_Mo_times_168 N C hr hK10 hK124 x1 x4 x5 x6 x7 x9 (st.2 8 x9.toNatClampNeg) st hf)
set_option maxHeartbeats 4000000 in
set_option maxRecDepth 20000 in
theorem w_Mo_times_124 {p : Program} {l : Launch} {e : Env} {s : State} {m : MethodId} {args : Array Value} {below : List Frame} {meth : Method} {c : Code} {sz : Nat} {D : va_G} {ad : Nat → Nat} {cI : ClassId × ClassId} {out : Int32 × St} (N : (LM ad).Nodup) (C : xC p s m args meth c (xA (LM ad) sz) D 10 (tyM cI) b_Mo_times R_Mo) (hr : meth.sig.returnType = (some .boolean)) {K10 : Int32 → Int32 → Int32 → Int32 → Int32 → St → Option (Int32 × St)} (hK10 : ∀ (x1 x2 x3 x4 x5 : Int32) (st : St), K10 x1 x2 x3 x4 x5 st = some out → j_i p l e rm_Mo_times s m args below meth c sz D (WM ad cI) (LM ad) out 10 (WM ad cI st) [(0, .ref (ad 0)), (1, .int x1), (2, .int x2), (3, .int x3), (4, .int x4), (5, .int x5)] 10 []) (n : Nat) : ∀ (x1 x4 x5 x6 x7 x8 x9 : Int32) (st : St), f_Mo_times_124 K10 n x1 x4 x5 x6 x7 x8 x9 st = some out → j_i p l e rm_Mo_times s m args below meth c sz D (WM ad cI) (LM ad) out 10 (WM ad cI st) [(0, .ref (ad 0)), (1, .int x1), (4, .int x4), (5, .int x5), (6, .int x6), (7, .int x7), (8, .int x8), (9, .int x9)] 124 [] := by
  induction n with
  | zero => intro x1 x4 x5 x6 x7 x8 x9 st hf; exact absurd (show (none : Option (Int32 × St)) = some out from hf) (fun h => by cases h)
  | succ n ih => intro x1 x4 x5 x6 x7 x8 x9 st hf; exact wb_Mo_times_124 N C hr hK10 ih x1 x4 x5 x6 x7 x8 x9 st hf
set_option maxHeartbeats 4000000 in
set_option maxRecDepth 20000 in
theorem w_Mo_times_119 {p : Program} {l : Launch} {e : Env} {s : State} {m : MethodId} {args : Array Value} {below : List Frame} {meth : Method} {c : Code} {sz : Nat} {D : va_G} {ad : Nat → Nat} {cI : ClassId × ClassId} {out : Int32 × St} (N : (LM ad).Nodup) (C : xC p s m args meth c (xA (LM ad) sz) D 10 (tyM cI) b_Mo_times R_Mo) (hr : meth.sig.returnType = (some .boolean)) {K10 : Int32 → Int32 → Int32 → Int32 → Int32 → St → Option (Int32 × St)} (hK10 : ∀ (x1 x2 x3 x4 x5 : Int32) (st : St), K10 x1 x2 x3 x4 x5 st = some out → j_i p l e rm_Mo_times s m args below meth c sz D (WM ad cI) (LM ad) out 10 (WM ad cI st) [(0, .ref (ad 0)), (1, .int x1), (2, .int x2), (3, .int x3), (4, .int x4), (5, .int x5)] 10 []) (x1 x4 x5 x6 x7 y0 : Int32) (st : St) (hf : f_Mo_times_119 K10 x1 x4 x5 x6 x7 y0 st = some out) : j_i p l e rm_Mo_times s m args below meth c sz D (WM ad cI) (LM ad) out 10 (WM ad cI st) [(0, .ref (ad 0)), (1, .int x1), (4, .int x4), (5, .int x5), (6, .int x6), (7, .int x7)] 119 [.int y0] := by
  unfold f_Mo_times_119 at hf
  refine xj_istore C d_Mo_times_119 (by decide) rfl ?_
  refine xj_iconst (v := 0) C d_Mo_times_121 rfl ?_
  refine xj_istore C d_Mo_times_122 (by decide) rfl ?_
  exact xj_lv [2, 3, 4, 5, 6, 7, 1, 0] rfl (w_Mo_times_124 N C hr hK10 40 x1 x4 x5 x6 x7 y0 0 st hf)
set_option maxHeartbeats 4000000 in
set_option maxRecDepth 20000 in
theorem w_Mo_times_79 {p : Program} {l : Launch} {e : Env} {s : State} {m : MethodId} {args : Array Value} {below : List Frame} {meth : Method} {c : Code} {sz : Nat} {D : va_G} {ad : Nat → Nat} {cI : ClassId × ClassId} {out : Int32 × St} (N : (LM ad).Nodup) (C : xC p s m args meth c (xA (LM ad) sz) D 10 (tyM cI) b_Mo_times R_Mo) (hr : meth.sig.returnType = (some .boolean)) {K10 : Int32 → Int32 → Int32 → Int32 → Int32 → St → Option (Int32 × St)} (hK10 : ∀ (x1 x2 x3 x4 x5 : Int32) (st : St), K10 x1 x2 x3 x4 x5 st = some out → j_i p l e rm_Mo_times s m args below meth c sz D (WM ad cI) (LM ad) out 10 (WM ad cI st) [(0, .ref (ad 0)), (1, .int x1), (2, .int x2), (3, .int x3), (4, .int x4), (5, .int x5)] 10 []) (x1 x2 x3 x5 x6 y0 : Int32) (st : St) (hf : f_Mo_times_79 K10 x1 x2 x3 x5 x6 y0 st = some out) : j_i p l e rm_Mo_times s m args below meth c sz D (WM ad cI) (LM ad) out 10 (WM ad cI st) [(0, .ref (ad 0)), (1, .int x1), (2, .int x2), (3, .int x3), (5, .int x5), (6, .int x6)] 79 [.int y0] := by
  unfold f_Mo_times_79 at hf
  refine xj_istore C d_Mo_times_79 (by decide) rfl ?_
  refine xj_iload C d_Mo_times_81 6 rfl ?_
  refine xj_if_ne (tgt := 89) C d_Mo_times_83 (by decide) (fun h9 => ?_) (fun h9 => ?_)
  · have hf := xi_neg h9 hf
    refine xj_aload_n C d_Mo_times_89 rfl 1 rfl ?_
    refine xj_get C g_Mo_41 0 rfl rfl d_Mo_times_90 ?_
    refine xj_iload C d_Mo_times_93 6 rfl ?_
    obtain ⟨o2, ho2, hf⟩ := xb_some hf
    refine xj_callSi (rest := [.ref (ad 10)]) C (c_Mo_first N ho2) Y_Mo_first i_Mo_104 (by decide) ⟨rfl, rfl⟩ rfl rfl (Nat.le_of_ble_eq_true rfl) d_Mo_times_95 (fun q h => Or.inl h) ?_
    obtain ⟨g3, hf⟩ := xb_guard hf
    refine xj_iald C 10 0 rfl rfl g3 d_Mo_times_98 ?_
    refine xj_topi (fun v4 ev4 => ?_)
    have hf := xlet_at ev4 hf
    refine xj_istore C d_Mo_times_99 (by decide) rfl ?_
    refine xj_iload C d_Mo_times_101 0 rfl ?_
    refine xj_iload_n C d_Mo_times_103 rfl 5 rfl ?_
    refine xj_icmp_ne (tgt := 111) C d_Mo_times_104 (by decide) (fun h9 => ?_) (fun h9 => ?_)
    · have hf := xi_neg h9 hf
      refine xj_iload_n C d_Mo_times_111 rfl 4 rfl ?_
      refine xj_aload_n C d_Mo_times_112 rfl 2 rfl ?_
      refine xj_get C g_Mo_20 0 rfl rfl d_Mo_times_113 ?_
      refine xj_iload_n C d_Mo_times_116 rfl 3 rfl ?_
      obtain ⟨g5, hf⟩ := xb_guard hf
      refine xj_iald C 3 0 rfl rfl g5 d_Mo_times_117 ?_
      refine xj_iadd C d_Mo_times_118 ?_
      exact xj_lv [2, 3, 1, 6, 7, 0] rfl (w_Mo_times_119 N C hr hK10 x1 y0 x5 x6 v4 (x2 + (o2.2.2 2 x1.toNatClampNeg)) o2.2 hf)
    · have hf := xi_pos h9 hf
      refine xj_iload_n C d_Mo_times_107 rfl 4 rfl ?_
      refine xj_goto (tgt := 119) C d_Mo_times_108 (by decide) ?_
      exact xj_lv [2, 3, 1, 6, 7, 0] rfl (w_Mo_times_119 N C hr hK10 x1 y0 x5 x6 v4 x2 o2.2 hf)
  · have hf := xi_pos h9 hf
    refine xj_goto (tgt := 213) C d_Mo_times_86 (by decide) ?_
    exact xj_lv [1, 2, 3, 4, 0, 5] rfl (w_Mo_times_213 N C hr hK10 x1 x2 x3 y0 x5 st hf)
