set_option maxHeartbeats 4000000 in
set_option maxRecDepth 20000 in
theorem w_Mo_times_74 {p : Program} {l : Launch} {e : Env} {s : State} {m : MethodId} {args : Array Value} {below : List Frame} {meth : Method} {c : Code} {sz : Nat} {D : va_G} {ad : Nat → Nat} {cI : ClassId × ClassId} {out : Int32 × St} (N : (LM ad).Nodup) (C : xC p s m args meth c (xA (LM ad) sz) D 10 (tyM cI) b_Mo_times R_Mo) (hr : meth.sig.returnType = (some .boolean)) {K10 : Int32 → Int32 → Int32 → Int32 → Int32 → St → Option (Int32 × St)} (hK10 : ∀ (x1 x2 x3 x4 x5 : Int32) (st : St), K10 x1 x2 x3 x4 x5 st = some out → j_i p l e rm_Mo_times s m args below meth c sz D (WM ad cI) (LM ad) out 10 (WM ad cI st) [(0, .ref (ad 0)), (1, .int x1), (2, .int x2), (3, .int x3), (4, .int x4), (5, .int x5)] 10 []) (x1 x2 x3 x5 x6 : Int32) (st : St) (hf : f_Mo_times_74 K10 x1 x2 x3 x5 x6 st = some out) : j_i p l e rm_Mo_times s m args below meth c sz D (WM ad cI) (LM ad) out 10 (WM ad cI st) [(0, .ref (ad 0)), (1, .int x1), (2, .int x2), (3, .int x3), (5, .int x5), (6, .int x6)] 74 [] := by
  unfold f_Mo_times_74 at hf
  refine xj_iconst (v := 1) C d_Mo_times_74 rfl ?_
  refine xj_goto (tgt := 79) C d_Mo_times_75 (by decide) ?_
  exact xj_lv [0, 1, 2, 3, 4, 5] rfl (w_Mo_times_79 N C hr hK10 x1 x2 x3 x5 x6 1 st hf)
set_option maxHeartbeats 4000000 in
set_option maxRecDepth 20000 in
theorem w_Mo_times_64 {p : Program} {l : Launch} {e : Env} {s : State} {m : MethodId} {args : Array Value} {below : List Frame} {meth : Method} {c : Code} {sz : Nat} {D : va_G} {ad : Nat → Nat} {cI : ClassId × ClassId} {out : Int32 × St} (N : (LM ad).Nodup) (C : xC p s m args meth c (xA (LM ad) sz) D 10 (tyM cI) b_Mo_times R_Mo) (hr : meth.sig.returnType = (some .boolean)) {K10 : Int32 → Int32 → Int32 → Int32 → Int32 → St → Option (Int32 × St)} (hK10 : ∀ (x1 x2 x3 x4 x5 : Int32) (st : St), K10 x1 x2 x3 x4 x5 st = some out → j_i p l e rm_Mo_times s m args below meth c sz D (WM ad cI) (LM ad) out 10 (WM ad cI st) [(0, .ref (ad 0)), (1, .int x1), (2, .int x2), (3, .int x3), (4, .int x4), (5, .int x5)] 10 []) (x1 x2 x3 x4 x5 x6 : Int32) (st : St) (hf : f_Mo_times_64 K10 x1 x2 x3 x4 x5 x6 st = some out) : j_i p l e rm_Mo_times s m args below meth c sz D (WM ad cI) (LM ad) out 10 (WM ad cI st) [(0, .ref (ad 0)), (1, .int x1), (2, .int x2), (3, .int x3), (4, .int x4), (5, .int x5), (6, .int x6)] 64 [] := by
  unfold f_Mo_times_64 at hf
  refine xj_iload C d_Mo_times_64 4 rfl ?_
  refine xj_if_ne (tgt := 74) C d_Mo_times_66 (by decide) (fun h9 => ?_) (fun h9 => ?_)
  · have hf := xi_neg h9 hf
    exact xj_lv [0, 1, 2, 3, 5, 6] rfl (w_Mo_times_74 N C hr hK10 x1 x2 x3 x5 x6 st hf)
  · have hf := xi_pos h9 hf
    refine xj_iload C d_Mo_times_69 6 rfl ?_
    refine xj_if_ne (tgt := 78) C d_Mo_times_71 (by decide) (fun h9 => ?_) (fun h9 => ?_)
    · have hf := xi_neg h9 hf
      refine xj_iconst (v := 0) C d_Mo_times_78 rfl ?_
      exact xj_lv [0, 1, 2, 3, 5, 6] rfl (w_Mo_times_79 N C hr hK10 x1 x2 x3 x5 x6 0 st hf)
    · have hf := xi_pos h9 hf
      exact xj_lv [0, 1, 2, 3, 5, 6] rfl (w_Mo_times_74 N C hr hK10 x1 x2 x3 x5 x6 st hf)
set_option maxHeartbeats 4000000 in
set_option maxRecDepth 20000 in
theorem wb_Mo_times_10 {p : Program} {l : Launch} {e : Env} {s : State} {m : MethodId} {args : Array Value} {below : List Frame} {meth : Method} {c : Code} {sz : Nat} {D : va_G} {ad : Nat → Nat} {cI : ClassId × ClassId} {out : Int32 × St} (N : (LM ad).Nodup) (C : xC p s m args meth c (xA (LM ad) sz) D 10 (tyM cI) b_Mo_times R_Mo) (hr : meth.sig.returnType = (some .boolean)) {K10 : Int32 → Int32 → Int32 → Int32 → Int32 → St → Option (Int32 × St)} (hK10 : ∀ (x1 x2 x3 x4 x5 : Int32) (st : St), K10 x1 x2 x3 x4 x5 st = some out → j_i p l e rm_Mo_times s m args below meth c sz D (WM ad cI) (LM ad) out 10 (WM ad cI st) [(0, .ref (ad 0)), (1, .int x1), (2, .int x2), (3, .int x3), (4, .int x4), (5, .int x5)] 10 []) (x1 x2 x3 x4 x5 : Int32) (st : St) (hf : b_Mo_times_10 K10 x1 x2 x3 x4 x5 st = some out) : j_i p l e rm_Mo_times s m args below meth c sz D (WM ad cI) (LM ad) out 10 (WM ad cI st) [(0, .ref (ad 0)), (1, .int x1), (2, .int x2), (3, .int x3), (4, .int x4), (5, .int x5)] 10 [] := by
  unfold b_Mo_times_10 at hf
  refine xj_iload C d_Mo_times_10 5 rfl ?_
  refine xj_iconst (v := 4) C d_Mo_times_12 rfl ?_
  refine xj_icmp_ge (tgt := 219) C d_Mo_times_13 (by decide) (fun h9 => ?_) (fun h9 => ?_)
  · have hf := xi_pos h9 hf
    refine xj_iconst (v := 1) C d_Mo_times_219 rfl ?_
    exact xj_zret C hr rfl hf d_Mo_times_220
  · have hf := xi_neg h9 hf
    refine xj_aload_n C d_Mo_times_16 rfl 0 rfl ?_
    refine xj_iconst (v := 4) C d_Mo_times_17 rfl ?_
    refine xj_iload_n C d_Mo_times_18 rfl 1 rfl ?_
    refine xj_imul C d_Mo_times_19 ?_
    refine xj_iload C d_Mo_times_20 5 rfl ?_
    refine xj_iadd C d_Mo_times_22 ?_
    obtain ⟨o1, ho1, hf⟩ := xb_some hf
    refine xj_callVi (rest := []) C (c_Mo_setOf N ho1) Y_Mo_setOf i_Mo_108 0 rfl rfl (by decide) ⟨rfl, rfl⟩ rfl rfl (Nat.le_of_ble_eq_true rfl) d_Mo_times_23 (fun q h => Or.inl h) ?_
    refine xj_istore C d_Mo_times_26 (by decide) rfl ?_
    refine xj_iload C d_Mo_times_28 0 rfl ?_
    refine xj_if_le (tgt := 64) C d_Mo_times_30 (by decide) (fun h9 => ?_) (fun h9 => ?_)
    · have hf := xi_pos h9 hf
      exact xj_lv [1, 2, 3, 4, 5, 6, 0] rfl (w_Mo_times_64 N C hr hK10 x1 x2 x3 x4 x5 o1.1 o1.2 hf)
    · have hf := xi_neg h9 hf
      refine xj_iload C d_Mo_times_33 5 rfl ?_
      refine xj_if_ne (tgt := 62) C d_Mo_times_35 (by decide) (fun h9 => ?_) (fun h9 => ?_)
      · have hf := xi_neg h9 hf
        refine xj_iconst (v := 0) C d_Mo_times_62 rfl ?_
        exact xj_zret C hr rfl hf d_Mo_times_63
      · have hf := xi_pos h9 hf
        refine xj_aload_n C d_Mo_times_38 rfl 1 rfl ?_
        refine xj_iload C d_Mo_times_39 0 rfl ?_
        obtain ⟨o14, ho14, hf⟩ := xb_some hf
        refine xj_callVi (rest := []) C (c_Mo_isOneWay N ho14) Y_Mo_isOneWay i_Mo_111 0 rfl rfl (by decide) ⟨rfl, rfl⟩ rfl rfl (Nat.le_of_ble_eq_true rfl) d_Mo_times_41 (fun q h => Or.inl h) ?_
        refine xj_if_eq (tgt := 62) C d_Mo_times_44 (by decide) (fun h9 => ?_) (fun h9 => ?_)
        · have hf := xi_pos h9 hf
          refine xj_iconst (v := 0) C d_Mo_times_62 rfl ?_
          exact xj_zret C hr rfl hf d_Mo_times_63
        · have hf := xi_neg h9 hf
          refine xj_aload_n C d_Mo_times_47 rfl 1 rfl ?_
          refine xj_get C g_Mo_50 0 rfl rfl d_Mo_times_48 ?_
          refine xj_bipush (v := 16) C d_Mo_times_51 rfl ?_
          refine xj_iload_n C d_Mo_times_53 rfl 2 rfl ?_
          refine xj_imul C d_Mo_times_54 ?_
          refine xj_iload C d_Mo_times_55 0 rfl ?_
          refine xj_iadd C d_Mo_times_57 ?_
          obtain ⟨g15, hf⟩ := xb_guard hf
          refine xj_zald C 13 1 rfl rfl g15 d_Mo_times_58 ?_
          refine xj_if_ne (tgt := 64) C d_Mo_times_59 (by decide) (fun h9 => ?_) (fun h9 => ?_)
          · have hf := xi_neg h9 hf
            exact xj_lv [1, 2, 3, 4, 5, 6, 0] rfl (w_Mo_times_64 N C hr hK10 x1 x2 x3 x4 x5 o1.1 o14.2 hf)
          · have hf := xi_pos h9 hf
            refine xj_iconst (v := 0) C d_Mo_times_62 rfl ?_
            exact xj_zret C hr rfl hf d_Mo_times_63
set_option maxHeartbeats 4000000 in
set_option maxRecDepth 20000 in
theorem w_Mo_times_10 {p : Program} {l : Launch} {e : Env} {s : State} {m : MethodId} {args : Array Value} {below : List Frame} {meth : Method} {c : Code} {sz : Nat} {D : va_G} {ad : Nat → Nat} {cI : ClassId × ClassId} {out : Int32 × St} (N : (LM ad).Nodup) (C : xC p s m args meth c (xA (LM ad) sz) D 10 (tyM cI) b_Mo_times R_Mo) (hr : meth.sig.returnType = (some .boolean)) (n : Nat) : ∀ (x1 x2 x3 x4 x5 : Int32) (st : St), f_Mo_times_10 n x1 x2 x3 x4 x5 st = some out → j_i p l e rm_Mo_times s m args below meth c sz D (WM ad cI) (LM ad) out 10 (WM ad cI st) [(0, .ref (ad 0)), (1, .int x1), (2, .int x2), (3, .int x3), (4, .int x4), (5, .int x5)] 10 [] := by
  induction n with
  | zero => intro x1 x2 x3 x4 x5 st hf; exact absurd (show (none : Option (Int32 × St)) = some out from hf) (fun h => by cases h)
  | succ n ih => intro x1 x2 x3 x4 x5 st hf; exact wb_Mo_times_10 N C hr ih x1 x2 x3 x4 x5 st hf
set_option maxHeartbeats 4000000 in
set_option maxRecDepth 20000 in
theorem c_Mo_times {l : Launch} {D : va_G} {ad : Nat → Nat} {cI : ClassId × ClassId} (N : (LM ad).Nodup) {x1 : Int32} {st : St} {out : Int32 × St} (hf : f_Mo_times x1 st = some out) : xMi l y_Mo_times b_Mo_times 10 (some .boolean) rm_Mo_times D (tyM cI) (WM ad cI) (LM ad) [.ref (ad 0), .int x1] st out := by
  intro sz
  refine xM_of (L := LM ad) (by decide) (Nat.le_of_ble_eq_true rfl) (fun p e s m below meth c hsz hr C => ?_)
  show j_i p l e rm_Mo_times s m _ below meth c sz D (WM ad cI) (LM ad) out 10 (WM ad cI st) [(0, .ref (ad 0)), (1, .int x1)] 0 []
  unfold f_Mo_times at hf
  refine xj_iconst (v := 0) C d_Mo_times_0 rfl ?_
  refine xj_istore_n C d_Mo_times_1 rfl (by decide) rfl ?_
  refine xj_iconst (v := 0) C d_Mo_times_2 rfl ?_
  refine xj_istore_n C d_Mo_times_3 rfl (by decide) rfl ?_
  refine xj_iconst (v := 0) C d_Mo_times_4 rfl ?_
  refine xj_istore C d_Mo_times_5 (by decide) rfl ?_
  refine xj_iconst (v := 0) C d_Mo_times_7 rfl ?_
  refine xj_istore C d_Mo_times_8 (by decide) rfl ?_
  exact xj_lv [4, 5, 3, 2, 1, 0] rfl (w_Mo_times_10 N C hr 40 x1 0 0 0 0 st hf)
set_option maxHeartbeats 4000000 in
set_option maxRecDepth 20000 in
theorem w_Mo_overtaken_142 {p : Program} {l : Launch} {e : Env} {s : State} {m : MethodId} {args : Array Value} {below : List Frame} {meth : Method} {c : Code} {sz : Nat} {D : va_G} {ad : Nat → Nat} {cI : ClassId × ClassId} {out : Int32 × St} (N : (LM ad).Nodup) (C : xC p s m args meth c (xA (LM ad) sz) D 7 (tyM cI) b_Mo_overtaken R_Mo) (hr : meth.sig.returnType = (some .int)) {K5 : Int32 → Int32 → Int32 → Int32 → St → Option (Int32 × St)} (hK5 : ∀ (x1 x2 x3 x4 : Int32) (st : St), K5 x1 x2 x3 x4 st = some out → j_i p l e rm_Mo_overtaken s m args below meth c sz D (WM ad cI) (LM ad) out 7 (WM ad cI st) [(0, .ref (ad 0)), (1, .int x1), (2, .int x2), (3, .int x3), (4, .int x4)] 5 []) (x1 x2 x4 y0 y1 : Int32) (st : St) (hf : f_Mo_overtaken_142 K5 x1 x2 x4 y0 y1 st = some out) : j_i p l e rm_Mo_overtaken s m args below meth c sz D (WM ad cI) (LM ad) out 7 (WM ad cI st) [(0, .ref (ad 0)), (1, .int x1), (2, .int x2), (4, .int x4)] 142 [.int y0, .int y1] := by
  unfold f_Mo_overtaken_142 at hf
  refine xj_iadd C d_Mo_overtaken_142 ?_
  refine xj_topi (fun v7 ev7 => ?_)
  have hf := xlet_at ev7 hf
  refine xj_istore_n C d_Mo_overtaken_143 rfl (by decide) rfl ?_
  refine xj_iinc (v := x4 + 1) (j := 4) C d_Mo_overtaken_144 rfl rfl (by decide) rfl ?_
  refine xj_goto (tgt := 5) C d_Mo_overtaken_147 (by decide) ?_
  exact xj_lv [2, 3, 4, 1, 0] rfl (hK5 x1 x2 v7 (x4 + 1) st hf)
set_option maxHeartbeats 4000000 in
set_option maxRecDepth 20000 in
theorem w_Mo_overtaken_141 {p : Program} {l : Launch} {e : Env} {s : State} {m : MethodId} {args : Array Value} {below : List Frame} {meth : Method} {c : Code} {sz : Nat} {D : va_G} {ad : Nat → Nat} {cI : ClassId × ClassId} {out : Int32 × St} (N : (LM ad).Nodup) (C : xC p s m args meth c (xA (LM ad) sz) D 7 (tyM cI) b_Mo_overtaken R_Mo) (hr : meth.sig.returnType = (some .int)) {K5 : Int32 → Int32 → Int32 → Int32 → St → Option (Int32 × St)} (hK5 : ∀ (x1 x2 x3 x4 : Int32) (st : St), K5 x1 x2 x3 x4 st = some out → j_i p l e rm_Mo_overtaken s m args below meth c sz D (WM ad cI) (LM ad) out 7 (WM ad cI st) [(0, .ref (ad 0)), (1, .int x1), (2, .int x2), (3, .int x3), (4, .int x4)] 5 []) (x1 x2 x4 y0 : Int32) (st : St) (hf : f_Mo_overtaken_141 K5 x1 x2 x4 y0 st = some out) : j_i p l e rm_Mo_overtaken s m args below meth c sz D (WM ad cI) (LM ad) out 7 (WM ad cI st) [(0, .ref (ad 0)), (1, .int x1), (2, .int x2), (4, .int x4)] 141 [.int y0] := by
  unfold f_Mo_overtaken_141 at hf
  refine xj_iconst (v := 0) C d_Mo_overtaken_141 rfl ?_
  exact xj_lv [0, 1, 2, 3] rfl (w_Mo_overtaken_142 N C hr hK5 x1 x2 x4 0 y0 st hf)
set_option maxHeartbeats 4000000 in
set_option maxRecDepth 20000 in
theorem w_Mo_overtaken_108 {p : Program} {l : Launch} {e : Env} {s : State} {m : MethodId} {args : Array Value} {below : List Frame} {meth : Method} {c : Code} {sz : Nat} {D : va_G} {ad : Nat → Nat} {cI : ClassId × ClassId} {out : Int32 × St} (N : (LM ad).Nodup) (C : xC p s m args meth c (xA (LM ad) sz) D 7 (tyM cI) b_Mo_overtaken R_Mo) (hr : meth.sig.returnType = (some .int)) {K5 : Int32 → Int32 → Int32 → Int32 → St → Option (Int32 × St)} (hK5 : ∀ (x1 x2 x3 x4 : Int32) (st : St), K5 x1 x2 x3 x4 st = some out → j_i p l e rm_Mo_overtaken s m args below meth c sz D (WM ad cI) (LM ad) out 7 (WM ad cI st) [(0, .ref (ad 0)), (1, .int x1), (2, .int x2), (3, .int x3), (4, .int x4)] 5 []) (x1 x2 x3 x4 x5 y0 : Int32) (st : St) (hf : f_Mo_overtaken_108 K5 x1 x2 x3 x4 x5 y0 st = some out) : j_i p l e rm_Mo_overtaken s m args below meth c sz D (WM ad cI) (LM ad) out 7 (WM ad cI st) [(0, .ref (ad 0)), (1, .int x1), (2, .int x2), (3, .int x3), (4, .int x4), (5, .int x5)] 108 [.int y0] := by
  unfold f_Mo_overtaken_108 at hf
  refine xj_istore C d_Mo_overtaken_108 (by decide) rfl ?_
  refine xj_iload_n C d_Mo_overtaken_110 rfl 4 rfl ?_
  refine xj_aload_n C d_Mo_overtaken_111 rfl 1 rfl ?_
  refine xj_get C g_Mo_41 0 rfl rfl d_Mo_overtaken_112 ?_
  refine xj_iload C d_Mo_overtaken_115 5 rfl ?_
  obtain ⟨g5, hf⟩ := xb_guard hf
  refine xj_iald C 10 0 rfl rfl g5 d_Mo_overtaken_117 ?_
  refine xj_aload_n C d_Mo_overtaken_118 rfl 1 rfl ?_
  refine xj_get C g_Mo_41 0 rfl rfl d_Mo_overtaken_119 ?_
  refine xj_iload_n C d_Mo_overtaken_122 rfl 2 rfl ?_
  obtain ⟨g6, hf⟩ := xb_guard hf
  refine xj_iald C 10 0 rfl rfl g6 d_Mo_overtaken_123 ?_
  refine xj_icmp_ne (tgt := 141) C d_Mo_overtaken_124 (by decide) (fun h9 => ?_) (fun h9 => ?_)
  · have hf := xi_neg h9 hf
    exact xj_lv [1, 2, 3, 5] rfl (w_Mo_overtaken_141 N C hr hK5 x1 x2 x4 x3 st hf)
  · have hf := xi_pos h9 hf
    refine xj_iload C d_Mo_overtaken_127 6 rfl ?_
    refine xj_if_eq (tgt := 141) C d_Mo_overtaken_129 (by decide) (fun h9 => ?_) (fun h9 => ?_)
    · have hf := xi_pos h9 hf
      exact xj_lv [1, 2, 3, 5] rfl (w_Mo_overtaken_141 N C hr hK5 x1 x2 x4 x3 st hf)
    · have hf := xi_neg h9 hf
      refine xj_iload C d_Mo_overtaken_132 0 rfl ?_
      refine xj_if_eq (tgt := 141) C d_Mo_overtaken_134 (by decide) (fun h9 => ?_) (fun h9 => ?_)
      · have hf := xi_pos h9 hf
        exact xj_lv [1, 2, 3, 5] rfl (w_Mo_overtaken_141 N C hr hK5 x1 x2 x4 x3 st hf)
      · have hf := xi_neg h9 hf
        refine xj_iconst (v := 1) C d_Mo_overtaken_137 rfl ?_
        refine xj_goto (tgt := 142) C d_Mo_overtaken_138 (by decide) ?_
        exact xj_lv [1, 2, 3, 5] rfl (w_Mo_overtaken_142 N C hr hK5 x1 x2 x4 1 x3 st hf)
set_option maxHeartbeats 4000000 in
set_option maxRecDepth 20000 in
theorem w_Mo_overtaken_57 {p : Program} {l : Launch} {e : Env} {s : State} {m : MethodId} {args : Array Value} {below : List Frame} {meth : Method} {c : Code} {sz : Nat} {D : va_G} {ad : Nat → Nat} {cI : ClassId × ClassId} {out : Int32 × St} (N : (LM ad).Nodup) (C : xC p s m args meth c (xA (LM ad) sz) D 7 (tyM cI) b_Mo_overtaken R_Mo) (hr : meth.sig.returnType = (some .int)) {K5 : Int32 → Int32 → Int32 → Int32 → St → Option (Int32 × St)} (hK5 : ∀ (x1 x2 x3 x4 : Int32) (st : St), K5 x1 x2 x3 x4 st = some out → j_i p l e rm_Mo_overtaken s m args below meth c sz D (WM ad cI) (LM ad) out 7 (WM ad cI st) [(0, .ref (ad 0)), (1, .int x1), (2, .int x2), (3, .int x3), (4, .int x4)] 5 []) (x1 x2 x3 x4 y0 : Int32) (st : St) (hf : f_Mo_overtaken_57 K5 x1 x2 x3 x4 y0 st = some out) : j_i p l e rm_Mo_overtaken s m args below meth c sz D (WM ad cI) (LM ad) out 7 (WM ad cI st) [(0, .ref (ad 0)), (1, .int x1), (2, .int x2), (3, .int x3), (4, .int x4)] 57 [.int y0] := by
  unfold f_Mo_overtaken_57 at hf
  refine xj_istore C d_Mo_overtaken_57 (by decide) rfl ?_
  refine xj_iload_n C d_Mo_overtaken_59 rfl 3 rfl ?_
  refine xj_if_eq (tgt := 87) C d_Mo_overtaken_60 (by decide) (fun h9 => ?_) (fun h9 => ?_)
  · have hf := xi_pos h9 hf
    refine xj_aload_n C d_Mo_overtaken_87 rfl 1 rfl ?_
    refine xj_get C g_Mo_63 0 rfl rfl d_Mo_overtaken_88 ?_
    refine xj_iload C d_Mo_overtaken_91 5 rfl ?_
    obtain ⟨g3, hf⟩ := xb_guard hf
    refine xj_iald C 17 0 rfl rfl g3 d_Mo_overtaken_93 ?_
    refine xj_aload_n C d_Mo_overtaken_94 rfl 1 rfl ?_
    refine xj_get C g_Mo_63 0 rfl rfl d_Mo_overtaken_95 ?_
    refine xj_iload_n C d_Mo_overtaken_98 rfl 2 rfl ?_
    obtain ⟨g4, hf⟩ := xb_guard hf
    refine xj_iald C 17 0 rfl rfl g4 d_Mo_overtaken_99 ?_
    refine xj_icmp_ge (tgt := 107) C d_Mo_overtaken_100 (by decide) (fun h9 => ?_) (fun h9 => ?_)
    · have hf := xi_pos h9 hf
      refine xj_iconst (v := 0) C d_Mo_overtaken_107 rfl ?_
      exact xj_lv [1, 2, 3, 4, 5, 0] rfl (w_Mo_overtaken_108 N C hr hK5 x1 x2 x3 x4 y0 0 st hf)
    · have hf := xi_neg h9 hf
      refine xj_iconst (v := 1) C d_Mo_overtaken_103 rfl ?_
      refine xj_goto (tgt := 108) C d_Mo_overtaken_104 (by decide) ?_
      exact xj_lv [1, 2, 3, 4, 5, 0] rfl (w_Mo_overtaken_108 N C hr hK5 x1 x2 x3 x4 y0 1 st hf)
  · have hf := xi_neg h9 hf
    refine xj_aload_n C d_Mo_overtaken_63 rfl 1 rfl ?_
    refine xj_get C g_Mo_57 0 rfl rfl d_Mo_overtaken_64 ?_
    refine xj_iload C d_Mo_overtaken_67 5 rfl ?_
    obtain ⟨g8, hf⟩ := xb_guard hf
    refine xj_iald C 15 0 rfl rfl g8 d_Mo_overtaken_69 ?_
    refine xj_aload_n C d_Mo_overtaken_70 rfl 1 rfl ?_
    refine xj_get C g_Mo_57 0 rfl rfl d_Mo_overtaken_71 ?_
    refine xj_iload_n C d_Mo_overtaken_74 rfl 2 rfl ?_
    obtain ⟨g9, hf⟩ := xb_guard hf
    refine xj_iald C 15 0 rfl rfl g9 d_Mo_overtaken_75 ?_
    refine xj_icmp_ge (tgt := 83) C d_Mo_overtaken_76 (by decide) (fun h9 => ?_) (fun h9 => ?_)
    · have hf := xi_pos h9 hf
      refine xj_iconst (v := 0) C d_Mo_overtaken_83 rfl ?_
      refine xj_goto (tgt := 108) C d_Mo_overtaken_84 (by decide) ?_
      exact xj_lv [1, 2, 3, 4, 5, 0] rfl (w_Mo_overtaken_108 N C hr hK5 x1 x2 x3 x4 y0 0 st hf)
    · have hf := xi_neg h9 hf
      refine xj_iconst (v := 1) C d_Mo_overtaken_79 rfl ?_
      refine xj_goto (tgt := 108) C d_Mo_overtaken_80 (by decide) ?_
      exact xj_lv [1, 2, 3, 4, 5, 0] rfl (w_Mo_overtaken_108 N C hr hK5 x1 x2 x3 x4 y0 1 st hf)
set_option maxHeartbeats 4000000 in
set_option maxRecDepth 20000 in
theorem w_Mo_overtaken_52 {p : Program} {l : Launch} {e : Env} {s : State} {m : MethodId} {args : Array Value} {below : List Frame} {meth : Method} {c : Code} {sz : Nat} {D : va_G} {ad : Nat → Nat} {cI : ClassId × ClassId} {out : Int32 × St} (N : (LM ad).Nodup) (C : xC p s m args meth c (xA (LM ad) sz) D 7 (tyM cI) b_Mo_overtaken R_Mo) (hr : meth.sig.returnType = (some .int)) {K5 : Int32 → Int32 → Int32 → Int32 → St → Option (Int32 × St)} (hK5 : ∀ (x1 x2 x3 x4 : Int32) (st : St), K5 x1 x2 x3 x4 st = some out → j_i p l e rm_Mo_overtaken s m args below meth c sz D (WM ad cI) (LM ad) out 7 (WM ad cI st) [(0, .ref (ad 0)), (1, .int x1), (2, .int x2), (3, .int x3), (4, .int x4)] 5 []) (x1 x2 x3 x4 : Int32) (st : St) (hf : f_Mo_overtaken_52 K5 x1 x2 x3 x4 st = some out) : j_i p l e rm_Mo_overtaken s m args below meth c sz D (WM ad cI) (LM ad) out 7 (WM ad cI st) [(0, .ref (ad 0)), (1, .int x1), (2, .int x2), (3, .int x3), (4, .int x4)] 52 [] := by
  unfold f_Mo_overtaken_52 at hf
  refine xj_iconst (v := 1) C d_Mo_overtaken_52 rfl ?_
  refine xj_goto (tgt := 57) C d_Mo_overtaken_53 (by decide) ?_
  exact xj_lv [0, 1, 2, 3, 4] rfl (w_Mo_overtaken_57 N C hr hK5 x1 x2 x3 x4 1 st hf)
set_option maxHeartbeats 4000000 in
set_option maxRecDepth 20000 in
theorem w_Mo_overtaken_56 {p : Program} {l : Launch} {e : Env} {s : State} {m : MethodId} {args : Array Value} {below : List Frame} {meth : Method} {c : Code} {sz : Nat} {D : va_G} {ad : Nat → Nat} {cI : ClassId × ClassId} {out : Int32 × St} (N : (LM ad).Nodup) (C : xC p s m args meth c (xA (LM ad) sz) D 7 (tyM cI) b_Mo_overtaken R_Mo) (hr : meth.sig.returnType = (some .int)) {K5 : Int32 → Int32 → Int32 → Int32 → St → Option (Int32 × St)} (hK5 : ∀ (x1 x2 x3 x4 : Int32) (st : St), K5 x1 x2 x3 x4 st = some out → j_i p l e rm_Mo_overtaken s m args below meth c sz D (WM ad cI) (LM ad) out 7 (WM ad cI st) [(0, .ref (ad 0)), (1, .int x1), (2, .int x2), (3, .int x3), (4, .int x4)] 5 []) (x1 x2 x3 x4 : Int32) (st : St) (hf : f_Mo_overtaken_56 K5 x1 x2 x3 x4 st = some out) : j_i p l e rm_Mo_overtaken s m args below meth c sz D (WM ad cI) (LM ad) out 7 (WM ad cI st) [(0, .ref (ad 0)), (1, .int x1), (2, .int x2), (3, .int x3), (4, .int x4)] 56 [] := by
  unfold f_Mo_overtaken_56 at hf
  refine xj_iconst (v := 0) C d_Mo_overtaken_56 rfl ?_
  exact xj_lv [0, 1, 2, 3, 4] rfl (w_Mo_overtaken_57 N C hr hK5 x1 x2 x3 x4 0 st hf)
set_option maxHeartbeats 4000000 in
set_option maxRecDepth 20000 in
theorem wb_Mo_overtaken_5 {p : Program} {l : Launch} {e : Env} {s : State} {m : MethodId} {args : Array Value} {below : List Frame} {meth : Method} {c : Code} {sz : Nat} {D : va_G} {ad : Nat → Nat} {cI : ClassId × ClassId} {out : Int32 × St} (N : (LM ad).Nodup) (C : xC p s m args meth c (xA (LM ad) sz) D 7 (tyM cI) b_Mo_overtaken R_Mo) (hr : meth.sig.returnType = (some .int)) {K5 : Int32 → Int32 → Int32 → Int32 → St → Option (Int32 × St)} (hK5 : ∀ (x1 x2 x3 x4 : Int32) (st : St), K5 x1 x2 x3 x4 st = some out → j_i p l e rm_Mo_overtaken s m args below meth c sz D (WM ad cI) (LM ad) out 7 (WM ad cI st) [(0, .ref (ad 0)), (1, .int x1), (2, .int x2), (3, .int x3), (4, .int x4)] 5 []) (x1 x2 x3 x4 : Int32) (st : St) (hf : b_Mo_overtaken_5 K5 x1 x2 x3 x4 st = some out) : j_i p l e rm_Mo_overtaken s m args below meth c sz D (WM ad cI) (LM ad) out 7 (WM ad cI st) [(0, .ref (ad 0)), (1, .int x1), (2, .int x2), (3, .int x3), (4, .int x4)] 5 [] := by
  unfold b_Mo_overtaken_5 at hf
  refine xj_iload C d_Mo_overtaken_5 4 rfl ?_
  refine xj_aload_n C d_Mo_overtaken_7 rfl 0 rfl ?_
  refine xj_get C g_Mo_75 0 rfl rfl d_Mo_overtaken_8 ?_
  refine xj_icmp_ge (tgt := 150) C d_Mo_overtaken_11 (by decide) (fun h9 => ?_) (fun h9 => ?_)
  · have hf := xi_pos h9 hf
    refine xj_iload_n C d_Mo_overtaken_150 rfl 3 rfl ?_
    exact xj_iret C hr hf d_Mo_overtaken_151
  · have hf := xi_neg h9 hf
    refine xj_aload_n C d_Mo_overtaken_14 rfl 0 rfl ?_
    refine xj_get C g_Mo_38 0 rfl rfl d_Mo_overtaken_15 ?_
    refine xj_iload C d_Mo_overtaken_18 4 rfl ?_
    obtain ⟨g1, hf⟩ := xb_guard hf
    refine xj_iald C 9 0 rfl rfl g1 d_Mo_overtaken_20 ?_
    refine xj_aload_n C d_Mo_overtaken_21 rfl 0 rfl ?_
    refine xj_get C g_Mo_38 0 rfl rfl d_Mo_overtaken_22 ?_
    refine xj_iload_n C d_Mo_overtaken_25 rfl 1 rfl ?_
    obtain ⟨g2, hf⟩ := xb_guard hf
    refine xj_iald C 9 0 rfl rfl g2 d_Mo_overtaken_26 ?_
    refine xj_icmp_gt (tgt := 52) C d_Mo_overtaken_27 (by decide) (fun h9 => ?_) (fun h9 => ?_)
    · have hf := xi_pos h9 hf
      exact xj_lv [0, 1, 2, 3, 4] rfl (w_Mo_overtaken_52 N C hr hK5 x1 x2 x3 x4 st hf)
    · have hf := xi_neg h9 hf
      refine xj_aload_n C d_Mo_overtaken_30 rfl 0 rfl ?_
      refine xj_get C g_Mo_38 0 rfl rfl d_Mo_overtaken_31 ?_
      refine xj_iload C d_Mo_overtaken_34 4 rfl ?_
      obtain ⟨g10, hf⟩ := xb_guard hf
      refine xj_iald C 9 0 rfl rfl g10 d_Mo_overtaken_36 ?_
      refine xj_aload_n C d_Mo_overtaken_37 rfl 0 rfl ?_
      refine xj_get C g_Mo_38 0 rfl rfl d_Mo_overtaken_38 ?_
      refine xj_iload_n C d_Mo_overtaken_41 rfl 1 rfl ?_
      obtain ⟨g11, hf⟩ := xb_guard hf
      refine xj_iald C 9 0 rfl rfl g11 d_Mo_overtaken_42 ?_
      refine xj_icmp_ne (tgt := 56) C d_Mo_overtaken_43 (by decide) (fun h9 => ?_) (fun h9 => ?_)
      · have hf := xi_neg h9 hf
        exact xj_lv [0, 1, 2, 3, 4] rfl (w_Mo_overtaken_56 N C hr hK5 x1 x2 x3 x4 st hf)
      · have hf := xi_pos h9 hf
        refine xj_iload C d_Mo_overtaken_46 4 rfl ?_
        refine xj_iload_n C d_Mo_overtaken_48 rfl 1 rfl ?_
        refine xj_icmp_le (tgt := 56) C d_Mo_overtaken_49 (by decide) (fun h9 => ?_) (fun h9 => ?_)
        · have hf := xi_pos h9 hf
          exact xj_lv [0, 1, 2, 3, 4] rfl (w_Mo_overtaken_56 N C hr hK5 x1 x2 x3 x4 st hf)
        · have hf := xi_neg h9 hf
          exact xj_lv [0, 1, 2, 3, 4] rfl (w_Mo_overtaken_52 N C hr hK5 x1 x2 x3 x4 st hf)
set_option maxHeartbeats 4000000 in
set_option maxRecDepth 20000 in
theorem w_Mo_overtaken_5 {p : Program} {l : Launch} {e : Env} {s : State} {m : MethodId} {args : Array Value} {below : List Frame} {meth : Method} {c : Code} {sz : Nat} {D : va_G} {ad : Nat → Nat} {cI : ClassId × ClassId} {out : Int32 × St} (N : (LM ad).Nodup) (C : xC p s m args meth c (xA (LM ad) sz) D 7 (tyM cI) b_Mo_overtaken R_Mo) (hr : meth.sig.returnType = (some .int)) (n : Nat) : ∀ (x1 x2 x3 x4 : Int32) (st : St), f_Mo_overtaken_5 n x1 x2 x3 x4 st = some out → j_i p l e rm_Mo_overtaken s m args below meth c sz D (WM ad cI) (LM ad) out 7 (WM ad cI st) [(0, .ref (ad 0)), (1, .int x1), (2, .int x2), (3, .int x3), (4, .int x4)] 5 [] := by
  induction n with
  | zero => intro x1 x2 x3 x4 st hf; exact absurd (show (none : Option (Int32 × St)) = some out from hf) (fun h => by cases h)
  | succ n ih => intro x1 x2 x3 x4 st hf; exact wb_Mo_overtaken_5 N C hr ih x1 x2 x3 x4 st hf
set_option maxHeartbeats 4000000 in
set_option maxRecDepth 20000 in
theorem c_Mo_overtaken {l : Launch} {D : va_G} {ad : Nat → Nat} {cI : ClassId × ClassId} (N : (LM ad).Nodup) {x1 x2 : Int32} {st : St} {out : Int32 × St} (hf : f_Mo_overtaken x1 x2 st = some out) : xMi l y_Mo_overtaken b_Mo_overtaken 7 (some .int) rm_Mo_overtaken D (tyM cI) (WM ad cI) (LM ad) [.ref (ad 0), .int x1, .int x2] st out := by
  intro sz
  refine xM_of (L := LM ad) (by decide) (Nat.le_of_ble_eq_true rfl) (fun p e s m below meth c hsz hr C => ?_)
  show j_i p l e rm_Mo_overtaken s m _ below meth c sz D (WM ad cI) (LM ad) out 7 (WM ad cI st) [(0, .ref (ad 0)), (1, .int x1), (2, .int x2)] 0 []
  unfold f_Mo_overtaken at hf
  refine xj_iconst (v := 0) C d_Mo_overtaken_0 rfl ?_
  refine xj_istore_n C d_Mo_overtaken_1 rfl (by decide) rfl ?_
  refine xj_iconst (v := 0) C d_Mo_overtaken_2 rfl ?_
  refine xj_istore C d_Mo_overtaken_3 (by decide) rfl ?_
  exact xj_lv [2, 3, 4, 1, 0] rfl (w_Mo_overtaken_5 N C hr 40 x1 x2 0 0 st hf)
set_option maxHeartbeats 4000000 in
set_option maxRecDepth 20000 in
theorem wb_Mo_weighed_80 {p : Program} {l : Launch} {e : Env} {s : State} {m : MethodId} {args : Array Value} {below : List Frame} {meth : Method} {c : Code} {sz : Nat} {D : va_G} {ad : Nat → Nat} {cI : ClassId × ClassId} {out : Int32 × St} (N : (LM ad).Nodup) (C : xC p s m args meth c (xA (LM ad) sz) D 3 (tyM cI) b_Mo_weighed R_Mo) (hr : meth.sig.returnType = (some .int)) {K80 : Int32 → Int32 → St → Option (Int32 × St)} (hK80 : ∀ (x1 x2 : Int32) (st : St), K80 x1 x2 st = some out → j_i p l e rm_Mo_weighed s m args below meth c sz D (WM ad cI) (LM ad) out 3 (WM ad cI st) [(0, .ref (ad 0)), (1, .int x1), (2, .int x2)] 80 []) (x1 x2 : Int32) (st : St) (hf : b_Mo_weighed_80 K80 x1 x2 st = some out) : j_i p l e rm_Mo_weighed s m args below meth c sz D (WM ad cI) (LM ad) out 3 (WM ad cI st) [(0, .ref (ad 0)), (1, .int x1), (2, .int x2)] 80 [] := by
  unfold b_Mo_weighed_80 at hf
  refine xj_iload_n C d_Mo_weighed_80 rfl 2 rfl ?_
  refine xj_aload_n C d_Mo_weighed_81 rfl 0 rfl ?_
  refine xj_get C g_Mo_75 0 rfl rfl d_Mo_weighed_82 ?_
  refine xj_icmp_ge (tgt := 110) C d_Mo_weighed_85 (by decide) (fun h9 => ?_) (fun h9 => ?_)
  · have hf := xi_pos h9 hf
    refine xj_iload_n C d_Mo_weighed_110 rfl 1 rfl ?_
    exact xj_iret C hr hf d_Mo_weighed_111
  · have hf := xi_neg h9 hf
    refine xj_aload_n C d_Mo_weighed_88 rfl 0 rfl ?_
    refine xj_iload_n C d_Mo_weighed_89 rfl 2 rfl ?_
    refine xj_iconst (v := 1) C d_Mo_weighed_90 rfl ?_
    obtain ⟨o1, ho1, hf⟩ := xb_some hf
    refine xj_callVi (rest := []) C (c_Mo_overtaken N ho1) Y_Mo_overtaken i_Mo_122 0 rfl rfl (by decide) ⟨rfl, rfl⟩ rfl rfl (Nat.le_of_ble_eq_true rfl) d_Mo_weighed_91 (fun q h => Or.inl h) ?_
    refine xj_aload_n C d_Mo_weighed_94 rfl 0 rfl ?_
    refine xj_get C g_Mo_7 0 rfl rfl d_Mo_weighed_95 ?_
    refine xj_icmp_le (tgt := 104) C d_Mo_weighed_98 (by decide) (fun h9 => ?_) (fun h9 => ?_)
    · have hf := xi_pos h9 hf
      refine xj_iinc (v := x2 + 1) (j := 2) C d_Mo_weighed_104 rfl rfl (by decide) rfl ?_
      refine xj_goto (tgt := 80) C d_Mo_weighed_107 (by decide) ?_
      exact xj_lv [1, 2, 0] rfl (hK80 x1 (x2 + 1) o1.2 hf)
    · have hf := xi_neg h9 hf
      refine xj_ldc (v := 1000000000) C k_Mo_121 d_Mo_weighed_101 ?_
      exact xj_iret C hr hf d_Mo_weighed_103
set_option maxHeartbeats 4000000 in
set_option maxRecDepth 20000 in
theorem w_Mo_weighed_80 {p : Program} {l : Launch} {e : Env} {s : State} {m : MethodId} {args : Array Value} {below : List Frame} {meth : Method} {c : Code} {sz : Nat} {D : va_G} {ad : Nat → Nat} {cI : ClassId × ClassId} {out : Int32 × St} (N : (LM ad).Nodup) (C : xC p s m args meth c (xA (LM ad) sz) D 3 (tyM cI) b_Mo_weighed R_Mo) (hr : meth.sig.returnType = (some .int)) (n : Nat) : ∀ (x1 x2 : Int32) (st : St), f_Mo_weighed_80 n x1 x2 st = some out → j_i p l e rm_Mo_weighed s m args below meth c sz D (WM ad cI) (LM ad) out 3 (WM ad cI st) [(0, .ref (ad 0)), (1, .int x1), (2, .int x2)] 80 [] := by
  induction n with
  | zero => intro x1 x2 st hf; exact absurd (show (none : Option (Int32 × St)) = some out from hf) (fun h => by cases h)
  | succ n ih => intro x1 x2 st hf; exact wb_Mo_weighed_80 N C hr ih x1 x2 st hf
set_option maxHeartbeats 4000000 in
set_option maxRecDepth 20000 in
theorem wb_Mo_weighed_31 {p : Program} {l : Launch} {e : Env} {s : State} {m : MethodId} {args : Array Value} {below : List Frame} {meth : Method} {c : Code} {sz : Nat} {D : va_G} {ad : Nat → Nat} {cI : ClassId × ClassId} {out : Int32 × St} (N : (LM ad).Nodup) (C : xC p s m args meth c (xA (LM ad) sz) D 3 (tyM cI) b_Mo_weighed R_Mo) (hr : meth.sig.returnType = (some .int)) {K31 : Int32 → Int32 → St → Option (Int32 × St)} (hK31 : ∀ (x1 x2 : Int32) (st : St), K31 x1 x2 st = some out → j_i p l e rm_Mo_weighed s m args below meth c sz D (WM ad cI) (LM ad) out 3 (WM ad cI st) [(0, .ref (ad 0)), (1, .int x1), (2, .int x2)] 31 []) (x1 x2 : Int32) (st : St) (hf : b_Mo_weighed_31 K31 x1 x2 st = some out) : j_i p l e rm_Mo_weighed s m args below meth c sz D (WM ad cI) (LM ad) out 3 (WM ad cI st) [(0, .ref (ad 0)), (1, .int x1), (2, .int x2)] 31 [] := by
  unfold b_Mo_weighed_31 at hf
  refine xj_iload_n C d_Mo_weighed_31 rfl 2 rfl ?_
  refine xj_aload_n C d_Mo_weighed_32 rfl 0 rfl ?_
  refine xj_get C g_Mo_75 0 rfl rfl d_Mo_weighed_33 ?_
  refine xj_icmp_ge (tgt := 78) C d_Mo_weighed_36 (by decide) (fun h9 => ?_) (fun h9 => ?_)
  · have hf := xi_pos h9 hf
    refine xj_iconst (v := 0) C d_Mo_weighed_78 rfl ?_
    refine xj_istore_n C d_Mo_weighed_79 rfl (by decide) rfl ?_
    exact xj_lv [1, 2, 0] rfl (w_Mo_weighed_80 N C hr 40 x1 0 st hf)
  · have hf := xi_neg h9 hf
    refine xj_aload_n C d_Mo_weighed_39 rfl 0 rfl ?_
    refine xj_get C g_Mo_57 0 rfl rfl d_Mo_weighed_40 ?_
    refine xj_iload_n C d_Mo_weighed_43 rfl 2 rfl ?_
    refine xj_aload_n C d_Mo_weighed_44 rfl 0 rfl ?_
    refine xj_get C g_Mo_66 0 rfl rfl d_Mo_weighed_45 ?_
    refine xj_aload_n C d_Mo_weighed_48 rfl 0 rfl ?_
    refine xj_get C g_Mo_54 0 rfl rfl d_Mo_weighed_49 ?_
    refine xj_iload_n C d_Mo_weighed_52 rfl 2 rfl ?_
    obtain ⟨g2, hf⟩ := xb_guard hf
    refine xj_iald C 14 0 rfl rfl g2 d_Mo_weighed_53 ?_
    obtain ⟨g3, hf⟩ := xb_guard hf
    refine xj_iald C 18 0 rfl rfl g3 d_Mo_weighed_54 ?_
    obtain ⟨g4, hf⟩ := xb_guard hf
    obtain ⟨s5, es5, hf⟩ := xlet_ex hf
    refine xj_iast (ws' := WM ad cI s5) C (WM_D N sz _) 15 0 rfl rfl g4 d_Mo_weighed_55 (by rw [es5]; rfl) ?_
    refine xj_iload_n C d_Mo_weighed_56 rfl 1 rfl ?_
    refine xj_aload_n C d_Mo_weighed_57 rfl 0 rfl ?_
    refine xj_get C g_Mo_57 0 rfl rfl d_Mo_weighed_58 ?_
    refine xj_iload_n C d_Mo_weighed_61 rfl 2 rfl ?_
    obtain ⟨g6, hf⟩ := xb_guard hf
    refine xj_iald C 15 0 rfl rfl g6 d_Mo_weighed_62 ?_
    refine xj_aload_n C d_Mo_weighed_63 rfl 0 rfl ?_
    refine xj_get C g_Mo_38 0 rfl rfl d_Mo_weighed_64 ?_
    refine xj_iload_n C d_Mo_weighed_67 rfl 2 rfl ?_
    obtain ⟨g7, hf⟩ := xb_guard hf
    refine xj_iald C 9 0 rfl rfl g7 d_Mo_weighed_68 ?_
    refine xj_isub C d_Mo_weighed_69 ?_
    refine xj_iadd C d_Mo_weighed_70 ?_
    refine xj_topi (fun v8 ev8 => ?_)
    have hf := xlet_at ev8 hf
    refine xj_istore_n C d_Mo_weighed_71 rfl (by decide) rfl ?_
    refine xj_iinc (v := x2 + 1) (j := 2) C d_Mo_weighed_72 rfl rfl (by decide) rfl ?_
    refine xj_goto (tgt := 31) C d_Mo_weighed_75 (by decide) ?_
    exact xj_lv [2, 1, 0] rfl (hK31 v8 (x2 + 1) s5 hf)
set_option maxHeartbeats 4000000 in
set_option maxRecDepth 20000 in
theorem w_Mo_weighed_31 {p : Program} {l : Launch} {e : Env} {s : State} {m : MethodId} {args : Array Value} {below : List Frame} {meth : Method} {c : Code} {sz : Nat} {D : va_G} {ad : Nat → Nat} {cI : ClassId × ClassId} {out : Int32 × St} (N : (LM ad).Nodup) (C : xC p s m args meth c (xA (LM ad) sz) D 3 (tyM cI) b_Mo_weighed R_Mo) (hr : meth.sig.returnType = (some .int)) (n : Nat) : ∀ (x1 x2 : Int32) (st : St), f_Mo_weighed_31 n x1 x2 st = some out → j_i p l e rm_Mo_weighed s m args below meth c sz D (WM ad cI) (LM ad) out 3 (WM ad cI st) [(0, .ref (ad 0)), (1, .int x1), (2, .int x2)] 31 [] := by
  induction n with
  | zero => intro x1 x2 st hf; exact absurd (show (none : Option (Int32 × St)) = some out from hf) (fun h => by cases h)
  | succ n ih => intro x1 x2 st hf; exact wb_Mo_weighed_31 N C hr ih x1 x2 st hf
set_option maxHeartbeats 4000000 in
set_option maxRecDepth 20000 in
theorem wb_Mo_weighed_2 {p : Program} {l : Launch} {e : Env} {s : State} {m : MethodId} {args : Array Value} {below : List Frame} {meth : Method} {c : Code} {sz : Nat} {D : va_G} {ad : Nat → Nat} {cI : ClassId × ClassId} {out : Int32 × St} (N : (LM ad).Nodup) (C : xC p s m args meth c (xA (LM ad) sz) D 3 (tyM cI) b_Mo_weighed R_Mo) (hr : meth.sig.returnType = (some .int)) {K2 : Int32 → St → Option (Int32 × St)} (hK2 : ∀ (x1 : Int32) (st : St), K2 x1 st = some out → j_i p l e rm_Mo_weighed s m args below meth c sz D (WM ad cI) (LM ad) out 3 (WM ad cI st) [(0, .ref (ad 0)), (1, .int x1)] 2 []) (x1 : Int32) (st : St) (hf : b_Mo_weighed_2 K2 x1 st = some out) : j_i p l e rm_Mo_weighed s m args below meth c sz D (WM ad cI) (LM ad) out 3 (WM ad cI st) [(0, .ref (ad 0)), (1, .int x1)] 2 [] := by
  unfold b_Mo_weighed_2 at hf
  refine xj_iload_n C d_Mo_weighed_2 rfl 1 rfl ?_
  refine xj_aload_n C d_Mo_weighed_3 rfl 0 rfl ?_
  refine xj_get C g_Mo_72 0 rfl rfl d_Mo_weighed_4 ?_
  refine xj_icmp_ge (tgt := 27) C d_Mo_weighed_7 (by decide) (fun h9 => ?_) (fun h9 => ?_)
  · have hf := xi_pos h9 hf
    refine xj_iconst (v := 0) C d_Mo_weighed_27 rfl ?_
    refine xj_istore_n C d_Mo_weighed_28 rfl (by decide) rfl ?_
    refine xj_iconst (v := 0) C d_Mo_weighed_29 rfl ?_
    refine xj_istore_n C d_Mo_weighed_30 rfl (by decide) rfl ?_
    exact xj_lv [2, 1, 0] rfl (w_Mo_weighed_31 N C hr 40 0 0 st hf)
  · have hf := xi_neg h9 hf
    refine xj_aload_n C d_Mo_weighed_10 rfl 0 rfl ?_
    refine xj_iload_n C d_Mo_weighed_11 rfl 1 rfl ?_
    obtain ⟨o9, ho9, hf⟩ := xb_some hf
    refine xj_callVi (rest := []) C (c_Mo_times N ho9) Y_Mo_times i_Mo_118 0 rfl rfl (by decide) ⟨rfl, rfl⟩ rfl rfl (Nat.le_of_ble_eq_true rfl) d_Mo_weighed_12 (fun q h => Or.inl h) ?_
    refine xj_if_ne (tgt := 21) C d_Mo_weighed_15 (by decide) (fun h9 => ?_) (fun h9 => ?_)
    · have hf := xi_neg h9 hf
      refine xj_iinc (v := x1 + 1) (j := 1) C d_Mo_weighed_21 rfl rfl (by decide) rfl ?_
      refine xj_goto (tgt := 2) C d_Mo_weighed_24 (by decide) ?_
      exact xj_lv [1, 0] rfl (hK2 (x1 + 1) o9.2 hf)
    · have hf := xi_pos h9 hf
      refine xj_ldc (v := 1000000000) C k_Mo_121 d_Mo_weighed_18 ?_
      exact xj_iret C hr hf d_Mo_weighed_20
set_option maxHeartbeats 4000000 in
set_option maxRecDepth 20000 in
theorem w_Mo_weighed_2 {p : Program} {l : Launch} {e : Env} {s : State} {m : MethodId} {args : Array Value} {below : List Frame} {meth : Method} {c : Code} {sz : Nat} {D : va_G} {ad : Nat → Nat} {cI : ClassId × ClassId} {out : Int32 × St} (N : (LM ad).Nodup) (C : xC p s m args meth c (xA (LM ad) sz) D 3 (tyM cI) b_Mo_weighed R_Mo) (hr : meth.sig.returnType = (some .int)) (n : Nat) : ∀ (x1 : Int32) (st : St), f_Mo_weighed_2 n x1 st = some out → j_i p l e rm_Mo_weighed s m args below meth c sz D (WM ad cI) (LM ad) out 3 (WM ad cI st) [(0, .ref (ad 0)), (1, .int x1)] 2 [] := by
  induction n with
  | zero => intro x1 st hf; exact absurd (show (none : Option (Int32 × St)) = some out from hf) (fun h => by cases h)
  | succ n ih => intro x1 st hf; exact wb_Mo_weighed_2 N C hr ih x1 st hf
set_option maxHeartbeats 4000000 in
set_option maxRecDepth 20000 in
theorem c_Mo_weighed {l : Launch} {D : va_G} {ad : Nat → Nat} {cI : ClassId × ClassId} (N : (LM ad).Nodup) {st : St} {out : Int32 × St} (hf : f_Mo_weighed  st = some out) : xMi l y_Mo_weighed b_Mo_weighed 3 (some .int) rm_Mo_weighed D (tyM cI) (WM ad cI) (LM ad) [.ref (ad 0)] st out := by
  intro sz
  refine xM_of (L := LM ad) (by decide) (Nat.le_of_ble_eq_true rfl) (fun p e s m below meth c hsz hr C => ?_)
  show j_i p l e rm_Mo_weighed s m _ below meth c sz D (WM ad cI) (LM ad) out 3 (WM ad cI st) [(0, .ref (ad 0))] 0 []
  unfold f_Mo_weighed at hf
  refine xj_iconst (v := 0) C d_Mo_weighed_0 rfl ?_
  refine xj_istore_n C d_Mo_weighed_1 rfl (by decide) rfl ?_
  exact xj_lv [1, 0] rfl (w_Mo_weighed_2 N C hr 40 0 st hf)
set_option maxHeartbeats 4000000 in
set_option maxRecDepth 20000 in
theorem wb_Mo_isAhead_2 {p : Program} {l : Launch} {e : Env} {s : State} {m : MethodId} {args : Array Value} {below : List Frame} {meth : Method} {c : Code} {sz : Nat} {D : va_G} {ad : Nat → Nat} {cI : ClassId × ClassId} {out : Int32 × St} (N : (LM ad).Nodup) (C : xC p s m args meth c (xA (LM ad) sz) D 2 (tyM cI) b_Mo_isAhead R_Mo) (hr : meth.sig.returnType = (some .boolean)) {K2 : Int32 → St → Option (Int32 × St)} (hK2 : ∀ (x1 : Int32) (st : St), K2 x1 st = some out → j_i p l e rm_Mo_isAhead s m args below meth c sz D (WM ad cI) (LM ad) out 2 (WM ad cI st) [(0, .ref (ad 0)), (1, .int x1)] 2 []) (x1 : Int32) (st : St) (hf : b_Mo_isAhead_2 K2 x1 st = some out) : j_i p l e rm_Mo_isAhead s m args below meth c sz D (WM ad cI) (LM ad) out 2 (WM ad cI st) [(0, .ref (ad 0)), (1, .int x1)] 2 [] := by
  unfold b_Mo_isAhead_2 at hf
  refine xj_iload_n C d_Mo_isAhead_2 rfl 1 rfl ?_
  refine xj_aload_n C d_Mo_isAhead_3 rfl 0 rfl ?_
  refine xj_get C g_Mo_75 0 rfl rfl d_Mo_isAhead_4 ?_
  refine xj_icmp_ge (tgt := 92) C d_Mo_isAhead_7 (by decide) (fun h9 => ?_) (fun h9 => ?_)
  · have hf := xi_pos h9 hf
    refine xj_iconst (v := 0) C d_Mo_isAhead_92 rfl ?_
    exact xj_zret C hr rfl hf d_Mo_isAhead_93
  · have hf := xi_neg h9 hf
    refine xj_aload_n C d_Mo_isAhead_10 rfl 0 rfl ?_
    refine xj_get C g_Mo_57 0 rfl rfl d_Mo_isAhead_11 ?_
    refine xj_iload_n C d_Mo_isAhead_14 rfl 1 rfl ?_
    obtain ⟨g1, hf⟩ := xb_guard hf
    refine xj_iald C 15 0 rfl rfl g1 d_Mo_isAhead_15 ?_
    refine xj_aload_n C d_Mo_isAhead_16 rfl 0 rfl ?_
    refine xj_get C g_Mo_63 0 rfl rfl d_Mo_isAhead_17 ?_
    refine xj_iload_n C d_Mo_isAhead_20 rfl 1 rfl ?_
    obtain ⟨g2, hf⟩ := xb_guard hf
    refine xj_iald C 17 0 rfl rfl g2 d_Mo_isAhead_21 ?_
    refine xj_icmp_eq (tgt := 46) C d_Mo_isAhead_22 (by decide) (fun h9 => ?_) (fun h9 => ?_)
    · have hf := xi_pos h9 hf
      refine xj_aload_n C d_Mo_isAhead_46 rfl 0 rfl ?_
      refine xj_get C g_Mo_54 0 rfl rfl d_Mo_isAhead_47 ?_
      refine xj_iload_n C d_Mo_isAhead_50 rfl 1 rfl ?_
      obtain ⟨g3, hf⟩ := xb_guard hf
      refine xj_iald C 14 0 rfl rfl g3 d_Mo_isAhead_51 ?_
      refine xj_iconst (v := 4) C d_Mo_isAhead_52 rfl ?_
      refine xj_idiv C d_Mo_isAhead_53 (by decide) ?_
      refine xj_aload_n C d_Mo_isAhead_54 rfl 0 rfl ?_
      refine xj_get C g_Mo_60 0 rfl rfl d_Mo_isAhead_55 ?_
      refine xj_iload_n C d_Mo_isAhead_58 rfl 1 rfl ?_
      obtain ⟨g4, hf⟩ := xb_guard hf
      refine xj_iald C 16 0 rfl rfl g4 d_Mo_isAhead_59 ?_
      refine xj_iconst (v := 4) C d_Mo_isAhead_60 rfl ?_
      refine xj_idiv C d_Mo_isAhead_61 (by decide) ?_
      refine xj_icmp_eq (tgt := 86) C d_Mo_isAhead_62 (by decide) (fun h9 => ?_) (fun h9 => ?_)
      · have hf := xi_pos h9 hf
        refine xj_iinc (v := x1 + 1) (j := 1) C d_Mo_isAhead_86 rfl rfl (by decide) rfl ?_
        refine xj_goto (tgt := 2) C d_Mo_isAhead_89 (by decide) ?_
        exact xj_lv [1, 0] rfl (hK2 (x1 + 1) st hf)
      · have hf := xi_neg h9 hf
        refine xj_aload_n C d_Mo_isAhead_65 rfl 0 rfl ?_
        refine xj_get C g_Mo_54 0 rfl rfl d_Mo_isAhead_66 ?_
        refine xj_iload_n C d_Mo_isAhead_69 rfl 1 rfl ?_
        obtain ⟨g5, hf⟩ := xb_guard hf
        refine xj_iald C 14 0 rfl rfl g5 d_Mo_isAhead_70 ?_
        refine xj_aload_n C d_Mo_isAhead_71 rfl 0 rfl ?_
        refine xj_get C g_Mo_60 0 rfl rfl d_Mo_isAhead_72 ?_
        refine xj_iload_n C d_Mo_isAhead_75 rfl 1 rfl ?_
        obtain ⟨g6, hf⟩ := xb_guard hf
        refine xj_iald C 16 0 rfl rfl g6 d_Mo_isAhead_76 ?_
        refine xj_icmp_ge (tgt := 84) C d_Mo_isAhead_77 (by decide) (fun h9 => ?_) (fun h9 => ?_)
        · have hf := xi_pos h9 hf
          refine xj_iconst (v := 0) C d_Mo_isAhead_84 rfl ?_
          exact xj_zret C hr rfl hf d_Mo_isAhead_85
        · have hf := xi_neg h9 hf
          refine xj_iconst (v := 1) C d_Mo_isAhead_80 rfl ?_
          refine xj_goto (tgt := 85) C d_Mo_isAhead_81 (by decide) ?_
          exact xj_zret C hr rfl hf d_Mo_isAhead_85
    · have hf := xi_neg h9 hf
      refine xj_aload_n C d_Mo_isAhead_25 rfl 0 rfl ?_
      refine xj_get C g_Mo_57 0 rfl rfl d_Mo_isAhead_26 ?_
      refine xj_iload_n C d_Mo_isAhead_29 rfl 1 rfl ?_
      obtain ⟨g7, hf⟩ := xb_guard hf
      refine xj_iald C 15 0 rfl rfl g7 d_Mo_isAhead_30 ?_
      refine xj_aload_n C d_Mo_isAhead_31 rfl 0 rfl ?_
      refine xj_get C g_Mo_63 0 rfl rfl d_Mo_isAhead_32 ?_
      refine xj_iload_n C d_Mo_isAhead_35 rfl 1 rfl ?_
      obtain ⟨g8, hf⟩ := xb_guard hf
      refine xj_iald C 17 0 rfl rfl g8 d_Mo_isAhead_36 ?_
      refine xj_icmp_ge (tgt := 44) C d_Mo_isAhead_37 (by decide) (fun h9 => ?_) (fun h9 => ?_)
      · have hf := xi_pos h9 hf
        refine xj_iconst (v := 0) C d_Mo_isAhead_44 rfl ?_
        exact xj_zret C hr rfl hf d_Mo_isAhead_45
      · have hf := xi_neg h9 hf
        refine xj_iconst (v := 1) C d_Mo_isAhead_40 rfl ?_
        refine xj_goto (tgt := 45) C d_Mo_isAhead_41 (by decide) ?_
        exact xj_zret C hr rfl hf d_Mo_isAhead_45
set_option maxHeartbeats 4000000 in
set_option maxRecDepth 20000 in
theorem w_Mo_isAhead_2 {p : Program} {l : Launch} {e : Env} {s : State} {m : MethodId} {args : Array Value} {below : List Frame} {meth : Method} {c : Code} {sz : Nat} {D : va_G} {ad : Nat → Nat} {cI : ClassId × ClassId} {out : Int32 × St} (N : (LM ad).Nodup) (C : xC p s m args meth c (xA (LM ad) sz) D 2 (tyM cI) b_Mo_isAhead R_Mo) (hr : meth.sig.returnType = (some .boolean)) (n : Nat) : ∀ (x1 : Int32) (st : St), f_Mo_isAhead_2 n x1 st = some out → j_i p l e rm_Mo_isAhead s m args below meth c sz D (WM ad cI) (LM ad) out 2 (WM ad cI st) [(0, .ref (ad 0)), (1, .int x1)] 2 [] := by
  induction n with
  | zero => intro x1 st hf; exact absurd (show (none : Option (Int32 × St)) = some out from hf) (fun h => by cases h)
  | succ n ih => intro x1 st hf; exact wb_Mo_isAhead_2 N C hr ih x1 st hf
set_option maxHeartbeats 4000000 in
set_option maxRecDepth 20000 in
theorem c_Mo_isAhead {l : Launch} {D : va_G} {ad : Nat → Nat} {cI : ClassId × ClassId} (N : (LM ad).Nodup) {st : St} {out : Int32 × St} (hf : f_Mo_isAhead  st = some out) : xMi l y_Mo_isAhead b_Mo_isAhead 2 (some .boolean) rm_Mo_isAhead D (tyM cI) (WM ad cI) (LM ad) [.ref (ad 0)] st out := by
  intro sz
  refine xM_of (L := LM ad) (by decide) (Nat.le_of_ble_eq_true rfl) (fun p e s m below meth c hsz hr C => ?_)
  show j_i p l e rm_Mo_isAhead s m _ below meth c sz D (WM ad cI) (LM ad) out 2 (WM ad cI st) [(0, .ref (ad 0))] 0 []
  unfold f_Mo_isAhead at hf
  refine xj_iconst (v := 0) C d_Mo_isAhead_0 rfl ?_
  refine xj_istore_n C d_Mo_isAhead_1 rfl (by decide) rfl ?_
  exact xj_lv [1, 0] rfl (w_Mo_isAhead_2 N C hr 40 0 st hf)
set_option maxHeartbeats 4000000 in
set_option maxRecDepth 20000 in
theorem w_Mo_search_234 {p : Program} {l : Launch} {e : Env} {s : State} {m : MethodId} {args : Array Value} {below : List Frame} {meth : Method} {c : Code} {sz : Nat} {D : va_G} {ad : Nat → Nat} {cI : ClassId × ClassId} {out : Int32 × St} (N : (LM ad).Nodup) (C : xC p s m args meth c (xA (LM ad) sz) D 7 (tyM cI) b_Mo_search R_Mo) (hr : meth.sig.returnType = (some .int)) {K96 : Int32 → Int32 → Int32 → St → Option (Int32 × St)} (hK96 : ∀ (x1 x2 x3 : Int32) (st : St), K96 x1 x2 x3 st = some out → j_i p l e rm_Mo_search s m args below meth c sz D (WM ad cI) (LM ad) out 7 (WM ad cI st) [(0, .ref (ad 0)), (1, .int x1), (2, .int x2), (3, .int x3)] 96 []) (x1 x2 x3 : Int32) (st : St) (hf : f_Mo_search_234 K96 x1 x2 x3 st = some out) : j_i p l e rm_Mo_search s m args below meth c sz D (WM ad cI) (LM ad) out 7 (WM ad cI st) [(0, .ref (ad 0)), (1, .int x1), (2, .int x2), (3, .int x3)] 234 [] := by
  unfold f_Mo_search_234 at hf
  refine xj_iinc (v := x3 + 1) (j := 3) C d_Mo_search_234 rfl rfl (by decide) rfl ?_
  refine xj_goto (tgt := 96) C d_Mo_search_237 (by decide) ?_
  exact xj_lv [1, 2, 3, 0] rfl (hK96 x1 x2 (x3 + 1) st hf)
set_option maxHeartbeats 4000000 in
set_option maxRecDepth 20000 in
theorem wb_Mo_search_191 {p : Program} {l : Launch} {e : Env} {s : State} {m : MethodId} {args : Array Value} {below : List Frame} {meth : Method} {c : Code} {sz : Nat} {D : va_G} {ad : Nat → Nat} {cI : ClassId × ClassId} {out : Int32 × St} (N : (LM ad).Nodup) (C : xC p s m args meth c (xA (LM ad) sz) D 7 (tyM cI) b_Mo_search R_Mo) (hr : meth.sig.returnType = (some .int)) {K96 : Int32 → Int32 → Int32 → St → Option (Int32 × St)} (hK96 : ∀ (x1 x2 x3 : Int32) (st : St), K96 x1 x2 x3 st = some out → j_i p l e rm_Mo_search s m args below meth c sz D (WM ad cI) (LM ad) out 7 (WM ad cI st) [(0, .ref (ad 0)), (1, .int x1), (2, .int x2), (3, .int x3)] 96 []) {K191 : Int32 → Int32 → Int32 → Int32 → St → Option (Int32 × St)} (hK191 : ∀ (x1 x2 x3 x6 : Int32) (st : St), K191 x1 x2 x3 x6 st = some out → j_i p l e rm_Mo_search s m args below meth c sz D (WM ad cI) (LM ad) out 7 (WM ad cI st) [(0, .ref (ad 0)), (1, .int x1), (2, .int x2), (3, .int x3), (6, .int x6)] 191 []) (x1 x2 x3 x6 : Int32) (st : St) (hf : b_Mo_search_191 K96 K191 x1 x2 x3 x6 st = some out) : j_i p l e rm_Mo_search s m args below meth c sz D (WM ad cI) (LM ad) out 7 (WM ad cI st) [(0, .ref (ad 0)), (1, .int x1), (2, .int x2), (3, .int x3), (6, .int x6)] 191 [] := by
  unfold b_Mo_search_191 at hf
  refine xj_iload C d_Mo_search_191 4 rfl ?_
  refine xj_aload_n C d_Mo_search_193 rfl 0 rfl ?_
  refine xj_get C g_Mo_75 0 rfl rfl d_Mo_search_194 ?_
  refine xj_icmp_ge (tgt := 234) C d_Mo_search_197 (by decide) (fun h9 => ?_) (fun h9 => ?_)
  · have hf := xi_pos h9 hf
    exact xj_lv [0, 1, 2, 3] rfl (w_Mo_search_234 N C hr hK96 x1 x2 x3 st hf)
  · have hf := xi_neg h9 hf
    refine xj_aload_n C d_Mo_search_200 rfl 0 rfl ?_
    refine xj_get C g_Mo_60 0 rfl rfl d_Mo_search_201 ?_
    refine xj_iload C d_Mo_search_204 4 rfl ?_
    refine xj_aload_n C d_Mo_search_206 rfl 0 rfl ?_
    refine xj_get C g_Mo_54 0 rfl rfl d_Mo_search_207 ?_
    refine xj_iload C d_Mo_search_210 4 rfl ?_
    obtain ⟨g3, hf⟩ := xb_guard hf
    refine xj_iald C 14 0 rfl rfl g3 d_Mo_search_212 ?_
    obtain ⟨g4, hf⟩ := xb_guard hf
    obtain ⟨s5, es5, hf⟩ := xlet_ex hf
    refine xj_iast (ws' := WM ad cI s5) C (WM_D N sz _) 16 0 rfl rfl g4 d_Mo_search_213 (by rw [es5]; rfl) ?_
    refine xj_aload_n C d_Mo_search_214 rfl 0 rfl ?_
    refine xj_get C g_Mo_63 0 rfl rfl d_Mo_search_215 ?_
    refine xj_iload C d_Mo_search_218 4 rfl ?_
    refine xj_aload_n C d_Mo_search_220 rfl 0 rfl ?_
    refine xj_get C g_Mo_57 0 rfl rfl d_Mo_search_221 ?_
    refine xj_iload C d_Mo_search_224 4 rfl ?_
    obtain ⟨g6, hf⟩ := xb_guard hf
    refine xj_iald C 15 0 rfl rfl g6 d_Mo_search_226 ?_
    obtain ⟨g7, hf⟩ := xb_guard hf
    obtain ⟨s8, es8, hf⟩ := xlet_ex hf
    refine xj_iast (ws' := WM ad cI s8) C (WM_D N sz _) 17 0 rfl rfl g7 d_Mo_search_227 (by rw [es8]; rfl) ?_
    refine xj_iinc (v := x6 + 1) (j := 4) C d_Mo_search_228 rfl rfl (by decide) rfl ?_
    refine xj_goto (tgt := 191) C d_Mo_search_231 (by decide) ?_
    exact xj_lv [1, 2, 3, 4, 0] rfl (hK191 x1 x2 x3 (x6 + 1) s8 hf)
set_option maxHeartbeats 4000000 in
set_option maxRecDepth 20000 in
theorem w_Mo_search_191 {p : Program} {l : Launch} {e : Env} {s : State} {m : MethodId} {args : Array Value} {below : List Frame} {meth : Method} {c : Code} {sz : Nat} {D : va_G} {ad : Nat → Nat} {cI : ClassId × ClassId} {out : Int32 × St} (N : (LM ad).Nodup) (C : xC p s m args meth c (xA (LM ad) sz) D 7 (tyM cI) b_Mo_search R_Mo) (hr : meth.sig.returnType = (some .int)) {K96 : Int32 → Int32 → Int32 → St → Option (Int32 × St)} (hK96 : ∀ (x1 x2 x3 : Int32) (st : St), K96 x1 x2 x3 st = some out → j_i p l e rm_Mo_search s m args below meth c sz D (WM ad cI) (LM ad) out 7 (WM ad cI st) [(0, .ref (ad 0)), (1, .int x1), (2, .int x2), (3, .int x3)] 96 []) (n : Nat) : ∀ (x1 x2 x3 x6 : Int32) (st : St), f_Mo_search_191 K96 n x1 x2 x3 x6 st = some out → j_i p l e rm_Mo_search s m args below meth c sz D (WM ad cI) (LM ad) out 7 (WM ad cI st) [(0, .ref (ad 0)), (1, .int x1), (2, .int x2), (3, .int x3), (6, .int x6)] 191 [] := by
  induction n with
  | zero => intro x1 x2 x3 x6 st hf; exact absurd (show (none : Option (Int32 × St)) = some out from hf) (fun h => by cases h)
  | succ n ih => intro x1 x2 x3 x6 st hf; exact wb_Mo_search_191 N C hr hK96 ih x1 x2 x3 x6 st hf
set_option maxHeartbeats 4000000 in
set_option maxRecDepth 20000 in
theorem w_Mo_search_185 {p : Program} {l : Launch} {e : Env} {s : State} {m : MethodId} {args : Array Value} {below : List Frame} {meth : Method} {c : Code} {sz : Nat} {D : va_G} {ad : Nat → Nat} {cI : ClassId × ClassId} {out : Int32 × St} (N : (LM ad).Nodup) (C : xC p s m args meth c (xA (LM ad) sz) D 7 (tyM cI) b_Mo_search R_Mo) (hr : meth.sig.returnType = (some .int)) {K96 : Int32 → Int32 → Int32 → St → Option (Int32 × St)} (hK96 : ∀ (x1 x2 x3 : Int32) (st : St), K96 x1 x2 x3 st = some out → j_i p l e rm_Mo_search s m args below meth c sz D (WM ad cI) (LM ad) out 7 (WM ad cI st) [(0, .ref (ad 0)), (1, .int x1), (2, .int x2), (3, .int x3)] 96 []) (x2 x3 x5 : Int32) (st : St) (hf : f_Mo_search_185 K96 x2 x3 x5 st = some out) : j_i p l e rm_Mo_search s m args below meth c sz D (WM ad cI) (LM ad) out 7 (WM ad cI st) [(0, .ref (ad 0)), (2, .int x2), (3, .int x3), (5, .int x5)] 185 [] := by
  unfold f_Mo_search_185 at hf
  refine xj_iload C d_Mo_search_185 3 rfl ?_
  refine xj_istore_n C d_Mo_search_187 rfl (by decide) rfl ?_
  refine xj_iconst (v := 0) C d_Mo_search_188 rfl ?_
  refine xj_istore C d_Mo_search_189 (by decide) rfl ?_
  exact xj_lv [2, 1, 3, 4, 0] rfl (w_Mo_search_191 N C hr hK96 40 x5 x2 x3 0 st hf)
set_option maxHeartbeats 4000000 in
set_option maxRecDepth 20000 in
theorem wb_Mo_search_112 {p : Program} {l : Launch} {e : Env} {s : State} {m : MethodId} {args : Array Value} {below : List Frame} {meth : Method} {c : Code} {sz : Nat} {D : va_G} {ad : Nat → Nat} {cI : ClassId × ClassId} {out : Int32 × St} (N : (LM ad).Nodup) (C : xC p s m args meth c (xA (LM ad) sz) D 7 (tyM cI) b_Mo_search R_Mo) (hr : meth.sig.returnType = (some .int)) {K96 : Int32 → Int32 → Int32 → St → Option (Int32 × St)} (hK96 : ∀ (x1 x2 x3 : Int32) (st : St), K96 x1 x2 x3 st = some out → j_i p l e rm_Mo_search s m args below meth c sz D (WM ad cI) (LM ad) out 7 (WM ad cI st) [(0, .ref (ad 0)), (1, .int x1), (2, .int x2), (3, .int x3)] 96 []) {K112 : Int32 → Int32 → Int32 → Int32 → Int32 → St → Option (Int32 × St)} (hK112 : ∀ (x1 x2 x3 x4 x5 : Int32) (st : St), K112 x1 x2 x3 x4 x5 st = some out → j_i p l e rm_Mo_search s m args below meth c sz D (WM ad cI) (LM ad) out 7 (WM ad cI st) [(0, .ref (ad 0)), (1, .int x1), (2, .int x2), (3, .int x3), (4, .int x4), (5, .int x5)] 112 []) (x1 x2 x3 x4 x5 : Int32) (st : St) (hf : b_Mo_search_112 K96 K112 x1 x2 x3 x4 x5 st = some out) : j_i p l e rm_Mo_search s m args below meth c sz D (WM ad cI) (LM ad) out 7 (WM ad cI st) [(0, .ref (ad 0)), (1, .int x1), (2, .int x2), (3, .int x3), (4, .int x4), (5, .int x5)] 112 [] := by
  unfold b_Mo_search_112 at hf
  refine xj_iload C d_Mo_search_112 5 rfl ?_
  refine xj_if_lt (tgt := 150) C d_Mo_search_114 (by decide) (fun h9 => ?_) (fun h9 => ?_)
  · have hf := xi_pos h9 hf
    refine xj_aload_n C d_Mo_search_150 rfl 0 rfl ?_
    obtain ⟨o2, ho2, hf⟩ := xb_some hf
    refine xj_callVi (rest := []) C (c_Mo_weighed N ho2) Y_Mo_weighed i_Mo_126 0 rfl rfl (by decide) ⟨rfl, rfl⟩ rfl rfl (Nat.le_of_ble_eq_true rfl) d_Mo_search_151 (fun q h => Or.inl h) ?_
    refine xj_istore C d_Mo_search_154 (by decide) rfl ?_
    refine xj_iload C d_Mo_search_156 0 rfl ?_
    refine xj_iload_n C d_Mo_search_158 rfl 2 rfl ?_
    refine xj_icmp_gt (tgt := 234) C d_Mo_search_159 (by decide) (fun h9 => ?_) (fun h9 => ?_)
    · have hf := xi_pos h9 hf
      exact xj_lv [1, 2, 3, 4] rfl (w_Mo_search_234 N C hr hK96 x1 x2 x3 o2.2 hf)
    · have hf := xi_neg h9 hf
      refine xj_iload C d_Mo_search_162 0 rfl ?_
      refine xj_ldc (v := 1000000000) C k_Mo_121 d_Mo_search_164 ?_
      refine xj_icmp_eq (tgt := 234) C d_Mo_search_166 (by decide) (fun h9 => ?_) (fun h9 => ?_)
      · have hf := xi_pos h9 hf
        exact xj_lv [1, 2, 3, 4] rfl (w_Mo_search_234 N C hr hK96 x1 x2 x3 o2.2 hf)
      · have hf := xi_neg h9 hf
        refine xj_iload C d_Mo_search_169 0 rfl ?_
        refine xj_iload_n C d_Mo_search_171 rfl 2 rfl ?_
        refine xj_icmp_ne (tgt := 185) C d_Mo_search_172 (by decide) (fun h9 => ?_) (fun h9 => ?_)
        · have hf := xi_neg h9 hf
          exact xj_lv [1, 3, 4, 0] rfl (w_Mo_search_185 N C hr hK96 x2 x3 o2.1 o2.2 hf)
        · have hf := xi_pos h9 hf
          refine xj_aload_n C d_Mo_search_175 rfl 1 rfl ?_
          obtain ⟨o9, ho9, hf⟩ := xb_some hf
          refine xj_callVi (rest := []) C (c_Mo_isAhead N ho9) Y_Mo_isAhead i_Mo_130 0 rfl rfl (by decide) ⟨rfl, rfl⟩ rfl rfl (Nat.le_of_ble_eq_true rfl) d_Mo_search_176 (fun q h => Or.inl h) ?_
          refine xj_if_ne (tgt := 185) C d_Mo_search_179 (by decide) (fun h9 => ?_) (fun h9 => ?_)
          · have hf := xi_neg h9 hf
            exact xj_lv [1, 3, 4, 0] rfl (w_Mo_search_185 N C hr hK96 x2 x3 o2.1 o9.2 hf)
          · have hf := xi_pos h9 hf
            refine xj_goto (tgt := 234) C d_Mo_search_182 (by decide) ?_
            exact xj_lv [1, 2, 3, 4] rfl (w_Mo_search_234 N C hr hK96 x1 x2 x3 o9.2 hf)
  · have hf := xi_neg h9 hf
    refine xj_aload_n C d_Mo_search_117 rfl 0 rfl ?_
    refine xj_get C g_Mo_54 0 rfl rfl d_Mo_search_118 ?_
    refine xj_iload C d_Mo_search_121 5 rfl ?_
    refine xj_iload C d_Mo_search_123 4 rfl ?_
    refine xj_iconst (v := 4) C d_Mo_search_125 rfl ?_
    refine xj_aload_n C d_Mo_search_126 rfl 0 rfl ?_
    refine xj_get C g_Mo_72 0 rfl rfl d_Mo_search_127 ?_
    refine xj_imul C d_Mo_search_130 ?_
    obtain ⟨g10, hf⟩ := xb_guard hf
    refine xj_irem C d_Mo_search_131 g10 ?_
    obtain ⟨g11, hf⟩ := xb_guard hf
    obtain ⟨s12, es12, hf⟩ := xlet_ex hf
    refine xj_iast (ws' := WM ad cI s12) C (WM_D N sz _) 14 0 rfl rfl g11 d_Mo_search_132 (by rw [es12]; rfl) ?_
    refine xj_iload C d_Mo_search_133 4 rfl ?_
    refine xj_iconst (v := 4) C d_Mo_search_135 rfl ?_
    refine xj_aload_n C d_Mo_search_136 rfl 0 rfl ?_
    refine xj_get C g_Mo_72 0 rfl rfl d_Mo_search_137 ?_
    refine xj_imul C d_Mo_search_140 ?_
    obtain ⟨g13, hf⟩ := xb_guard hf
    refine xj_idiv C d_Mo_search_141 g13 ?_
    refine xj_topi (fun v14 ev14 => ?_)
    have hf := xlet_at ev14 hf
    refine xj_istore C d_Mo_search_142 (by decide) rfl ?_
    refine xj_iinc (v := x5 + (-1)) (j := 5) C d_Mo_search_144 rfl rfl (by decide) rfl ?_
    refine xj_goto (tgt := 112) C d_Mo_search_147 (by decide) ?_
    exact xj_lv [2, 3, 4, 5, 1, 0] rfl (hK112 x1 x2 x3 v14 (x5 + (-1)) s12 hf)
set_option maxHeartbeats 4000000 in
set_option maxRecDepth 20000 in
theorem w_Mo_search_112 {p : Program} {l : Launch} {e : Env} {s : State} {m : MethodId} {args : Array Value} {below : List Frame} {meth : Method} {c : Code} {sz : Nat} {D : va_G} {ad : Nat → Nat} {cI : ClassId × ClassId} {out : Int32 × St} (N : (LM ad).Nodup) (C : xC p s m args meth c (xA (LM ad) sz) D 7 (tyM cI) b_Mo_search R_Mo) (hr : meth.sig.returnType = (some .int)) {K96 : Int32 → Int32 → Int32 → St → Option (Int32 × St)} (hK96 : ∀ (x1 x2 x3 : Int32) (st : St), K96 x1 x2 x3 st = some out → j_i p l e rm_Mo_search s m args below meth c sz D (WM ad cI) (LM ad) out 7 (WM ad cI st) [(0, .ref (ad 0)), (1, .int x1), (2, .int x2), (3, .int x3)] 96 []) (n : Nat) : ∀ (x1 x2 x3 x4 x5 : Int32) (st : St), f_Mo_search_112 K96 n x1 x2 x3 x4 x5 st = some out → j_i p l e rm_Mo_search s m args below meth c sz D (WM ad cI) (LM ad) out 7 (WM ad cI st) [(0, .ref (ad 0)), (1, .int x1), (2, .int x2), (3, .int x3), (4, .int x4), (5, .int x5)] 112 [] := by
  induction n with
  | zero => intro x1 x2 x3 x4 x5 st hf; exact absurd (show (none : Option (Int32 × St)) = some out from hf) (fun h => by cases h)
  | succ n ih => intro x1 x2 x3 x4 x5 st hf; exact wb_Mo_search_112 N C hr hK96 ih x1 x2 x3 x4 x5 st hf
set_option maxHeartbeats 4000000 in
set_option maxRecDepth 20000 in
theorem wb_Mo_search_96 {p : Program} {l : Launch} {e : Env} {s : State} {m : MethodId} {args : Array Value} {below : List Frame} {meth : Method} {c : Code} {sz : Nat} {D : va_G} {ad : Nat → Nat} {cI : ClassId × ClassId} {out : Int32 × St} (N : (LM ad).Nodup) (C : xC p s m args meth c (xA (LM ad) sz) D 7 (tyM cI) b_Mo_search R_Mo) (hr : meth.sig.returnType = (some .int)) {K96 : Int32 → Int32 → Int32 → St → Option (Int32 × St)} (hK96 : ∀ (x1 x2 x3 : Int32) (st : St), K96 x1 x2 x3 st = some out → j_i p l e rm_Mo_search s m args below meth c sz D (WM ad cI) (LM ad) out 7 (WM ad cI st) [(0, .ref (ad 0)), (1, .int x1), (2, .int x2), (3, .int x3)] 96 []) (x1 x2 x3 : Int32) (st : St) (hf : b_Mo_search_96 K96 x1 x2 x3 st = some out) : j_i p l e rm_Mo_search s m args below meth c sz D (WM ad cI) (LM ad) out 7 (WM ad cI st) [(0, .ref (ad 0)), (1, .int x1), (2, .int x2), (3, .int x3)] 96 [] := by
  unfold b_Mo_search_96 at hf
  refine xj_iload_n C d_Mo_search_96 rfl 3 rfl ?_
  refine xj_iload_n C d_Mo_search_97 rfl 2 rfl ?_
  refine xj_icmp_ge (tgt := 240) C d_Mo_search_98 (by decide) (fun h9 => ?_) (fun h9 => ?_)
  · have hf := xi_pos h9 hf
    refine xj_iload_n C d_Mo_search_240 rfl 1 rfl ?_
    refine xj_ldc (v := 1000000000) C k_Mo_121 d_Mo_search_241 ?_
    refine xj_icmp_ne (tgt := 250) C d_Mo_search_243 (by decide) (fun h9 => ?_) (fun h9 => ?_)
    · have hf := xi_neg h9 hf
      refine xj_iload_n C d_Mo_search_250 rfl 1 rfl ?_
      exact xj_iret C hr hf d_Mo_search_251
    · have hf := xi_pos h9 hf
      refine xj_iconst (v := (-1)) C d_Mo_search_246 rfl ?_
      refine xj_goto (tgt := 251) C d_Mo_search_247 (by decide) ?_
      exact xj_iret C hr hf d_Mo_search_251
  · have hf := xi_neg h9 hf
    refine xj_iload_n C d_Mo_search_101 rfl 3 rfl ?_
    refine xj_istore C d_Mo_search_102 (by decide) rfl ?_
    refine xj_aload_n C d_Mo_search_104 rfl 1 rfl ?_
    refine xj_get C g_Mo_75 0 rfl rfl d_Mo_search_105 ?_
    refine xj_iconst (v := 1) C d_Mo_search_108 rfl ?_
    refine xj_isub C d_Mo_search_109 ?_
    refine xj_topi (fun v1 ev1 => ?_)
    have hf := xlet_at ev1 hf
    refine xj_istore C d_Mo_search_110 (by decide) rfl ?_
    exact xj_lv [2, 3, 4, 5, 1, 0] rfl (w_Mo_search_112 N C hr hK96 40 x1 x2 x3 x3 v1 st hf)
set_option maxHeartbeats 4000000 in
set_option maxRecDepth 20000 in
theorem w_Mo_search_96 {p : Program} {l : Launch} {e : Env} {s : State} {m : MethodId} {args : Array Value} {below : List Frame} {meth : Method} {c : Code} {sz : Nat} {D : va_G} {ad : Nat → Nat} {cI : ClassId × ClassId} {out : Int32 × St} (N : (LM ad).Nodup) (C : xC p s m args meth c (xA (LM ad) sz) D 7 (tyM cI) b_Mo_search R_Mo) (hr : meth.sig.returnType = (some .int)) (n : Nat) : ∀ (x1 x2 x3 : Int32) (st : St), f_Mo_search_96 n x1 x2 x3 st = some out → j_i p l e rm_Mo_search s m args below meth c sz D (WM ad cI) (LM ad) out 7 (WM ad cI st) [(0, .ref (ad 0)), (1, .int x1), (2, .int x2), (3, .int x3)] 96 [] := by
  induction n with
  | zero => intro x1 x2 x3 st hf; exact absurd (show (none : Option (Int32 × St)) = some out from hf) (fun h => by cases h)
  | succ n ih => intro x1 x2 x3 st hf; exact wb_Mo_search_96 N C hr ih x1 x2 x3 st hf
