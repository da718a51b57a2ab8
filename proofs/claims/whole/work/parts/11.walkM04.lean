set_option maxHeartbeats 4000000 in
set_option maxRecDepth 20000 in
theorem w_Mo_rate_36 {p : Program} {l : Launch} {e : Env} {s : State} {m : MethodId} {args : Array Value} {below : List Frame} {meth : Method} {c : Code} {sz : Nat} {D : va_G} {ad : Nat → Nat} {cI : ClassId × ClassId} {out : Int32 × St} (N : (LM ad).Nodup) (C : xC p s m args meth c (xA (LM ad) sz) D 3 (tyM cI) b_Mo_rate R_Mo) (hr : meth.sig.returnType = (some .int)) (x1 x2 y0 : Int32) (st : St) (hf : f_Mo_rate_36 x1 x2 y0 st = some out) : j_i p l e rm_Mo_rate s m args below meth c sz D (WM ad cI) (LM ad) out 3 (WM ad cI st) [(0, .ref (ad 0)), (1, .int x1), (2, .int x2)] 36 [.int y0, .ref (ad 0)] := by
  unfold f_Mo_rate_36 at hf
  obtain ⟨s2, es2, hf⟩ := xlet_ex hf
  refine xj_put (ws' := WM ad cI s2) C g_Mo_69 gw_Mo_thrown (WM_D N sz _) 0 rfl rfl rfl (Nat.le_of_ble_eq_true rfl) d_Mo_rate_36 (by rw [es2]; rfl) ?_
  refine xj_aload_n C d_Mo_rate_39 rfl 0 rfl ?_
  refine xj_get C g_Mo_69 0 rfl rfl d_Mo_rate_40 ?_
  refine xj_if_le (tgt := 50) C d_Mo_rate_43 (by decide) (fun h9 => ?_) (fun h9 => ?_)
  · have hf := xi_pos h9 hf
    refine xj_bipush (v := 60) C d_Mo_rate_50 rfl ?_
    refine xj_iload_n C d_Mo_rate_52 rfl 1 rfl ?_
    refine xj_imul C d_Mo_rate_53 ?_
    refine xj_iload_n C d_Mo_rate_54 rfl 2 rfl ?_
    obtain ⟨g3, hf⟩ := xb_guard hf
    refine xj_idiv C d_Mo_rate_55 g3 ?_
    exact xj_iret C hr hf d_Mo_rate_56
  · have hf := xi_neg h9 hf
    refine xj_iconst (v := 0) C d_Mo_rate_46 rfl ?_
    refine xj_goto (tgt := 56) C d_Mo_rate_47 (by decide) ?_
    exact xj_iret C hr hf d_Mo_rate_56
set_option maxHeartbeats 4000000 in
set_option maxRecDepth 20000 in
theorem w_Mo_rate_23 {p : Program} {l : Launch} {e : Env} {s : State} {m : MethodId} {args : Array Value} {below : List Frame} {meth : Method} {c : Code} {sz : Nat} {D : va_G} {ad : Nat → Nat} {cI : ClassId × ClassId} {out : Int32 × St} (N : (LM ad).Nodup) (C : xC p s m args meth c (xA (LM ad) sz) D 3 (tyM cI) b_Mo_rate R_Mo) (hr : meth.sig.returnType = (some .int)) (x1 x2 : Int32) (st : St) (hf : f_Mo_rate_23 x1 x2 st = some out) : j_i p l e rm_Mo_rate s m args below meth c sz D (WM ad cI) (LM ad) out 3 (WM ad cI st) [(0, .ref (ad 0)), (1, .int x1), (2, .int x2)] 23 [.ref (ad 0)] := by
  unfold f_Mo_rate_23 at hf
  refine xj_iconst (v := 1) C d_Mo_rate_23 rfl ?_
  refine xj_goto (tgt := 36) C d_Mo_rate_24 (by decide) ?_
  exact xj_lv [0, 1, 2] rfl (w_Mo_rate_36 N C hr x1 x2 1 st hf)
set_option maxHeartbeats 4000000 in
set_option maxRecDepth 20000 in
theorem c_Mo_rate {l : Launch} {D : va_G} {ad : Nat → Nat} {cI : ClassId × ClassId} (N : (LM ad).Nodup) {x1 x2 : Int32} {st : St} {out : Int32 × St} (hf : f_Mo_rate x1 x2 st = some out) : xMi l y_Mo_rate b_Mo_rate 3 (some .int) rm_Mo_rate D (tyM cI) (WM ad cI) (LM ad) [.ref (ad 0), .int x1, .int x2] st out := by
  intro sz
  refine xM_of (L := LM ad) (by decide) (Nat.le_of_ble_eq_true rfl) (fun p e s m below meth c hsz hr C => ?_)
  show j_i p l e rm_Mo_rate s m _ below meth c sz D (WM ad cI) (LM ad) out 3 (WM ad cI st) [(0, .ref (ad 0)), (1, .int x1), (2, .int x2)] 0 []
  unfold f_Mo_rate at hf
  refine xj_aload_n C d_Mo_rate_0 rfl 0 rfl ?_
  refine xj_iload_n C d_Mo_rate_1 rfl 1 rfl ?_
  refine xj_iconst (v := 0) C d_Mo_rate_2 rfl ?_
  refine xj_sipush (v := 1000) C d_Mo_rate_3 rfl ?_
  obtain ⟨o1, ho1, hf⟩ := xb_some hf
  refine xj_callSi (rest := [.ref (ad 0)]) C (c_Mo_in N ho1) Y_Mo_in i_Mo_78 (by decide) ⟨rfl, rfl⟩ rfl rfl (Nat.le_of_ble_eq_true rfl) d_Mo_rate_6 (fun q h => Or.inl h) ?_
  refine xj_if_eq (tgt := 23) C d_Mo_rate_9 (by decide) (fun h9 => ?_) (fun h9 => ?_)
  · have hf := xi_pos h9 hf
    exact xj_lv [0, 1, 2] rfl (w_Mo_rate_23 N C hr x1 x2 o1.2 hf)
  · have hf := xi_neg h9 hf
    refine xj_iload_n C d_Mo_rate_12 rfl 2 rfl ?_
    refine xj_iconst (v := 0) C d_Mo_rate_13 rfl ?_
    refine xj_sipush (v := 1000) C d_Mo_rate_14 rfl ?_
    obtain ⟨o4, ho4, hf⟩ := xb_some hf
    refine xj_callSi (rest := [.ref (ad 0)]) C (c_Mo_in N ho4) Y_Mo_in i_Mo_78 (by decide) ⟨rfl, rfl⟩ rfl rfl (Nat.le_of_ble_eq_true rfl) d_Mo_rate_17 (fun q h => Or.inl h) ?_
    refine xj_if_ne (tgt := 27) C d_Mo_rate_20 (by decide) (fun h9 => ?_) (fun h9 => ?_)
    · have hf := xi_neg h9 hf
      refine xj_iload_n C d_Mo_rate_27 rfl 2 rfl ?_
      refine xj_if_ne (tgt := 35) C d_Mo_rate_28 (by decide) (fun h9 => ?_) (fun h9 => ?_)
      · have hf := xi_neg h9 hf
        refine xj_iconst (v := 0) C d_Mo_rate_35 rfl ?_
        exact xj_lv [0, 1, 2] rfl (w_Mo_rate_36 N C hr x1 x2 0 o4.2 hf)
      · have hf := xi_pos h9 hf
        refine xj_iconst (v := 2) C d_Mo_rate_31 rfl ?_
        refine xj_goto (tgt := 36) C d_Mo_rate_32 (by decide) ?_
        exact xj_lv [0, 1, 2] rfl (w_Mo_rate_36 N C hr x1 x2 2 o4.2 hf)
    · have hf := xi_pos h9 hf
      exact xj_lv [0, 1, 2] rfl (w_Mo_rate_23 N C hr x1 x2 o4.2 hf)
set_option maxHeartbeats 4000000 in
set_option maxRecDepth 20000 in
theorem w_Mo_count_53 {p : Program} {l : Launch} {e : Env} {s : State} {m : MethodId} {args : Array Value} {below : List Frame} {meth : Method} {c : Code} {sz : Nat} {D : va_G} {ad : Nat → Nat} {cI : ClassId × ClassId} {out : Int32 × St} (N : (LM ad).Nodup) (C : xC p s m args meth c (xA (LM ad) sz) D 4 (tyM cI) b_Mo_count R_Mo) (hr : meth.sig.returnType = (some .int)) {K9 : Int32 → Int32 → Int32 → St → Option (Int32 × St)} (hK9 : ∀ (x1 x2 x3 : Int32) (st : St), K9 x1 x2 x3 st = some out → j_i p l e rm_Mo_count s m args below meth c sz D (WM ad cI) (LM ad) out 4 (WM ad cI st) [(0, .ref (ad 0)), (1, .int x1), (2, .int x2), (3, .int x3)] 9 []) (x1 x3 y0 y1 : Int32) (st : St) (hf : f_Mo_count_53 K9 x1 x3 y0 y1 st = some out) : j_i p l e rm_Mo_count s m args below meth c sz D (WM ad cI) (LM ad) out 4 (WM ad cI st) [(0, .ref (ad 0)), (1, .int x1), (3, .int x3)] 53 [.int y0, .int y1] := by
  unfold f_Mo_count_53 at hf
  refine xj_iadd C d_Mo_count_53 ?_
  refine xj_topi (fun v4 ev4 => ?_)
  have hf := xlet_at ev4 hf
  refine xj_istore_n C d_Mo_count_54 rfl (by decide) rfl ?_
  refine xj_iinc (v := x3 + 1) (j := 3) C d_Mo_count_55 rfl rfl (by decide) rfl ?_
  refine xj_goto (tgt := 9) C d_Mo_count_58 (by decide) ?_
  exact xj_lv [2, 3, 1, 0] rfl (hK9 x1 v4 (x3 + 1) st hf)
set_option maxHeartbeats 4000000 in
set_option maxRecDepth 20000 in
theorem w_Mo_count_52 {p : Program} {l : Launch} {e : Env} {s : State} {m : MethodId} {args : Array Value} {below : List Frame} {meth : Method} {c : Code} {sz : Nat} {D : va_G} {ad : Nat → Nat} {cI : ClassId × ClassId} {out : Int32 × St} (N : (LM ad).Nodup) (C : xC p s m args meth c (xA (LM ad) sz) D 4 (tyM cI) b_Mo_count R_Mo) (hr : meth.sig.returnType = (some .int)) {K9 : Int32 → Int32 → Int32 → St → Option (Int32 × St)} (hK9 : ∀ (x1 x2 x3 : Int32) (st : St), K9 x1 x2 x3 st = some out → j_i p l e rm_Mo_count s m args below meth c sz D (WM ad cI) (LM ad) out 4 (WM ad cI st) [(0, .ref (ad 0)), (1, .int x1), (2, .int x2), (3, .int x3)] 9 []) (x1 x3 y0 : Int32) (st : St) (hf : f_Mo_count_52 K9 x1 x3 y0 st = some out) : j_i p l e rm_Mo_count s m args below meth c sz D (WM ad cI) (LM ad) out 4 (WM ad cI st) [(0, .ref (ad 0)), (1, .int x1), (3, .int x3)] 52 [.int y0] := by
  unfold f_Mo_count_52 at hf
  refine xj_iconst (v := 0) C d_Mo_count_52 rfl ?_
  exact xj_lv [0, 1, 2] rfl (w_Mo_count_53 N C hr hK9 x1 x3 0 y0 st hf)
set_option maxHeartbeats 4000000 in
set_option maxRecDepth 20000 in
theorem wb_Mo_count_9 {p : Program} {l : Launch} {e : Env} {s : State} {m : MethodId} {args : Array Value} {below : List Frame} {meth : Method} {c : Code} {sz : Nat} {D : va_G} {ad : Nat → Nat} {cI : ClassId × ClassId} {out : Int32 × St} (N : (LM ad).Nodup) (C : xC p s m args meth c (xA (LM ad) sz) D 4 (tyM cI) b_Mo_count R_Mo) (hr : meth.sig.returnType = (some .int)) {K9 : Int32 → Int32 → Int32 → St → Option (Int32 × St)} (hK9 : ∀ (x1 x2 x3 : Int32) (st : St), K9 x1 x2 x3 st = some out → j_i p l e rm_Mo_count s m args below meth c sz D (WM ad cI) (LM ad) out 4 (WM ad cI st) [(0, .ref (ad 0)), (1, .int x1), (2, .int x2), (3, .int x3)] 9 []) (x1 x2 x3 : Int32) (st : St) (hf : b_Mo_count_9 K9 x1 x2 x3 st = some out) : j_i p l e rm_Mo_count s m args below meth c sz D (WM ad cI) (LM ad) out 4 (WM ad cI st) [(0, .ref (ad 0)), (1, .int x1), (2, .int x2), (3, .int x3)] 9 [] := by
  unfold b_Mo_count_9 at hf
  refine xj_iload_n C d_Mo_count_9 rfl 3 rfl ?_
  refine xj_iconst (v := 4) C d_Mo_count_10 rfl ?_
  refine xj_icmp_ge (tgt := 61) C d_Mo_count_11 (by decide) (fun h9 => ?_) (fun h9 => ?_)
  · have hf := xi_pos h9 hf
    refine xj_iload_n C d_Mo_count_61 rfl 1 rfl ?_
    by_cases h09 : x1 = 0
    · have hf := xi_pos h09 hf
      refine xj_tableIn (tgt := 108) C d_Mo_count_62 (by rw [h09]; decide) (by rw [h09]; decide) (by rw [h09]; rfl) (by decide) ?_
      refine xj_aload_n C d_Mo_count_108 rfl 0 rfl ?_
      refine xj_get C g_Mo_72 0 rfl rfl d_Mo_count_109 ?_
      exact xj_iret C hr hf d_Mo_count_112
    have hf := xi_neg h09 hf
    by_cases h19 : x1 = 1
    · have hf := xi_pos h19 hf
      refine xj_tableIn (tgt := 113) C d_Mo_count_62 (by rw [h19]; decide) (by rw [h19]; decide) (by rw [h19]; rfl) (by decide) ?_
      refine xj_aload_n C d_Mo_count_113 rfl 0 rfl ?_
      refine xj_get C g_Mo_75 0 rfl rfl d_Mo_count_114 ?_
      exact xj_iret C hr hf d_Mo_count_117
    have hf := xi_neg h19 hf
    by_cases h29 : x1 = 2
    · have hf := xi_pos h29 hf
      refine xj_tableIn (tgt := 118) C d_Mo_count_62 (by rw [h29]; decide) (by rw [h29]; decide) (by rw [h29]; rfl) (by decide) ?_
      refine xj_aload_n C d_Mo_count_118 rfl 0 rfl ?_
      refine xj_get C g_Mo_90 0 rfl rfl d_Mo_count_119 ?_
      exact xj_iret C hr hf d_Mo_count_122
    have hf := xi_neg h29 hf
    by_cases h39 : x1 = 3
    · have hf := xi_pos h39 hf
      refine xj_tableIn (tgt := 123) C d_Mo_count_62 (by rw [h39]; decide) (by rw [h39]; decide) (by rw [h39]; rfl) (by decide) ?_
      refine xj_aload_n C d_Mo_count_123 rfl 0 rfl ?_
      refine xj_get C g_Mo_82 0 rfl rfl d_Mo_count_124 ?_
      refine xj_if_eq (tgt := 134) C d_Mo_count_127 (by decide) (fun h9 => ?_) (fun h9 => ?_)
      · have hf := xi_pos h9 hf
        refine xj_iconst (v := 0) C d_Mo_count_134 rfl ?_
        exact xj_iret C hr hf d_Mo_count_135
      · have hf := xi_neg h9 hf
        refine xj_iconst (v := 1) C d_Mo_count_130 rfl ?_
        refine xj_goto (tgt := 135) C d_Mo_count_131 (by decide) ?_
        exact xj_iret C hr hf d_Mo_count_135
    have hf := xi_neg h39 hf
    by_cases h49 : x1 = 4
    · have hf := xi_pos h49 hf
      refine xj_tableIn (tgt := 136) C d_Mo_count_62 (by rw [h49]; decide) (by rw [h49]; decide) (by rw [h49]; rfl) (by decide) ?_
      refine xj_aload_n C d_Mo_count_136 rfl 0 rfl ?_
      refine xj_get C g_Mo_93 0 rfl rfl d_Mo_count_137 ?_
      exact xj_iret C hr hf d_Mo_count_140
    have hf := xi_neg h49 hf
    by_cases h59 : x1 = 5
    · have hf := xi_pos h59 hf
      refine xj_tableIn (tgt := 141) C d_Mo_count_62 (by rw [h59]; decide) (by rw [h59]; decide) (by rw [h59]; rfl) (by decide) ?_
      refine xj_aload_n C d_Mo_count_141 rfl 0 rfl ?_
      refine xj_get C g_Mo_7 0 rfl rfl d_Mo_count_142 ?_
      exact xj_iret C hr hf d_Mo_count_145
    have hf := xi_neg h59 hf
    by_cases h69 : x1 = 6
    · have hf := xi_pos h69 hf
      refine xj_tableIn (tgt := 146) C d_Mo_count_62 (by rw [h69]; decide) (by rw [h69]; decide) (by rw [h69]; rfl) (by decide) ?_
      refine xj_aload_n C d_Mo_count_146 rfl 0 rfl ?_
      refine xj_get C g_Mo_82 0 rfl rfl d_Mo_count_147 ?_
      refine xj_if_eq (tgt := 168) C d_Mo_count_150 (by decide) (fun h9 => ?_) (fun h9 => ?_)
      · have hf := xi_pos h9 hf
        refine xj_iconst (v := (-1)) C d_Mo_count_168 rfl ?_
        exact xj_iret C hr hf d_Mo_count_169
      · have hf := xi_neg h9 hf
        refine xj_aload_n C d_Mo_count_153 rfl 0 rfl ?_
        refine xj_iload_n C d_Mo_count_154 rfl 1 rfl ?_
        refine xj_bipush (v := 6) C d_Mo_count_155 rfl ?_
        refine xj_isub C d_Mo_count_157 ?_
        obtain ⟨o2, ho2, hf⟩ := xb_some hf
        refine xj_callVi (rest := []) C (c_Mo_isChamber N ho2) Y_Mo_isChamber i_Mo_86 0 rfl rfl (by decide) ⟨rfl, rfl⟩ rfl rfl (Nat.le_of_ble_eq_true rfl) d_Mo_count_158 (fun q h => Or.inl h) ?_
        refine xj_if_eq (tgt := 168) C d_Mo_count_161 (by decide) (fun h9 => ?_) (fun h9 => ?_)
        · have hf := xi_pos h9 hf
          refine xj_iconst (v := (-1)) C d_Mo_count_168 rfl ?_
          exact xj_iret C hr hf d_Mo_count_169
        · have hf := xi_neg h9 hf
          refine xj_iload_n C d_Mo_count_164 rfl 2 rfl ?_
          refine xj_goto (tgt := 169) C d_Mo_count_165 (by decide) ?_
          exact xj_iret C hr hf d_Mo_count_169
    have hf := xi_neg h69 hf
    by_cases h79 : x1 = 7
    · have hf := xi_pos h79 hf
      refine xj_tableIn (tgt := 146) C d_Mo_count_62 (by rw [h79]; decide) (by rw [h79]; decide) (by rw [h79]; rfl) (by decide) ?_
      refine xj_aload_n C d_Mo_count_146 rfl 0 rfl ?_
      refine xj_get C g_Mo_82 0 rfl rfl d_Mo_count_147 ?_
      refine xj_if_eq (tgt := 168) C d_Mo_count_150 (by decide) (fun h9 => ?_) (fun h9 => ?_)
      · have hf := xi_pos h9 hf
        refine xj_iconst (v := (-1)) C d_Mo_count_168 rfl ?_
        exact xj_iret C hr hf d_Mo_count_169
      · have hf := xi_neg h9 hf
        refine xj_aload_n C d_Mo_count_153 rfl 0 rfl ?_
        refine xj_iload_n C d_Mo_count_154 rfl 1 rfl ?_
        refine xj_bipush (v := 6) C d_Mo_count_155 rfl ?_
        refine xj_isub C d_Mo_count_157 ?_
        obtain ⟨o3, ho3, hf⟩ := xb_some hf
        refine xj_callVi (rest := []) C (c_Mo_isChamber N ho3) Y_Mo_isChamber i_Mo_86 0 rfl rfl (by decide) ⟨rfl, rfl⟩ rfl rfl (Nat.le_of_ble_eq_true rfl) d_Mo_count_158 (fun q h => Or.inl h) ?_
        refine xj_if_eq (tgt := 168) C d_Mo_count_161 (by decide) (fun h9 => ?_) (fun h9 => ?_)
        · have hf := xi_pos h9 hf
          refine xj_iconst (v := (-1)) C d_Mo_count_168 rfl ?_
          exact xj_iret C hr hf d_Mo_count_169
        · have hf := xi_neg h9 hf
          refine xj_iload_n C d_Mo_count_164 rfl 2 rfl ?_
          refine xj_goto (tgt := 169) C d_Mo_count_165 (by decide) ?_
          exact xj_iret C hr hf d_Mo_count_169
    have hf := xi_neg h79 hf
    refine xj_tableOut (tgt := 170) C d_Mo_count_62 (xsw_out 8 (by decide) (fun k hk => by rcases xlt_8 hk with rfl | rfl | rfl | rfl | rfl | rfl | rfl | rfl <;> assumption)) (by decide) ?_
    refine xj_iconst (v := (-1)) C d_Mo_count_170 rfl ?_
    exact xj_iret C hr hf d_Mo_count_171
  · have hf := xi_neg h9 hf
    refine xj_iload_n C d_Mo_count_14 rfl 2 rfl ?_
    refine xj_aload_n C d_Mo_count_15 rfl 0 rfl ?_
    refine xj_get C g_Mo_82 0 rfl rfl d_Mo_count_16 ?_
    refine xj_if_eq (tgt := 52) C d_Mo_count_19 (by decide) (fun h9 => ?_) (fun h9 => ?_)
    · have hf := xi_pos h9 hf
      exact xj_lv [0, 1, 3] rfl (w_Mo_count_52 N C hr hK9 x1 x3 x2 st hf)
    · have hf := xi_neg h9 hf
      refine xj_aload_n C d_Mo_count_22 rfl 0 rfl ?_
      refine xj_iload_n C d_Mo_count_23 rfl 1 rfl ?_
      refine xj_bipush (v := 6) C d_Mo_count_24 rfl ?_
      refine xj_isub C d_Mo_count_26 ?_
      obtain ⟨o5, ho5, hf⟩ := xb_some hf
      refine xj_callVi (rest := [.int x2]) C (c_Mo_isChamber N ho5) Y_Mo_isChamber i_Mo_86 0 rfl rfl (by decide) ⟨rfl, rfl⟩ rfl rfl (Nat.le_of_ble_eq_true rfl) d_Mo_count_27 (fun q h => Or.inl h) ?_
      refine xj_if_eq (tgt := 52) C d_Mo_count_30 (by decide) (fun h9 => ?_) (fun h9 => ?_)
      · have hf := xi_pos h9 hf
        exact xj_lv [0, 1, 3] rfl (w_Mo_count_52 N C hr hK9 x1 x3 x2 o5.2 hf)
      · have hf := xi_neg h9 hf
        refine xj_aload_n C d_Mo_count_33 rfl 0 rfl ?_
        refine xj_iconst (v := 4) C d_Mo_count_34 rfl ?_
        refine xj_iload_n C d_Mo_count_35 rfl 1 rfl ?_
        refine xj_bipush (v := 6) C d_Mo_count_36 rfl ?_
        refine xj_isub C d_Mo_count_38 ?_
        refine xj_imul C d_Mo_count_39 ?_
        refine xj_iload_n C d_Mo_count_40 rfl 3 rfl ?_
        refine xj_iadd C d_Mo_count_41 ?_
        obtain ⟨o6, ho6, hf⟩ := xb_some hf
        refine xj_callVi (rest := [.int x2]) C (c_Mo_shipsOf N ho6) Y_Mo_shipsOf i_Mo_140 0 rfl rfl (by decide) ⟨rfl, rfl⟩ rfl rfl (Nat.le_of_ble_eq_true rfl) d_Mo_count_42 (fun q h => Or.inl h) ?_
        refine xj_if_le (tgt := 52) C d_Mo_count_45 (by decide) (fun h9 => ?_) (fun h9 => ?_)
        · have hf := xi_pos h9 hf
          exact xj_lv [0, 1, 3] rfl (w_Mo_count_52 N C hr hK9 x1 x3 x2 o6.2 hf)
        · have hf := xi_neg h9 hf
          refine xj_iconst (v := 1) C d_Mo_count_48 rfl ?_
          refine xj_goto (tgt := 53) C d_Mo_count_49 (by decide) ?_
          exact xj_lv [0, 1, 3] rfl (w_Mo_count_53 N C hr hK9 x1 x3 1 x2 o6.2 hf)
set_option maxHeartbeats 4000000 in
set_option maxRecDepth 20000 in
theorem w_Mo_count_9 {p : Program} {l : Launch} {e : Env} {s : State} {m : MethodId} {args : Array Value} {below : List Frame} {meth : Method} {c : Code} {sz : Nat} {D : va_G} {ad : Nat → Nat} {cI : ClassId × ClassId} {out : Int32 × St} (N : (LM ad).Nodup) (C : xC p s m args meth c (xA (LM ad) sz) D 4 (tyM cI) b_Mo_count R_Mo) (hr : meth.sig.returnType = (some .int)) (n : Nat) : ∀ (x1 x2 x3 : Int32) (st : St), f_Mo_count_9 n x1 x2 x3 st = some out → j_i p l e rm_Mo_count s m args below meth c sz D (WM ad cI) (LM ad) out 4 (WM ad cI st) [(0, .ref (ad 0)), (1, .int x1), (2, .int x2), (3, .int x3)] 9 [] := by
  induction n with
  | zero => intro x1 x2 x3 st hf; exact absurd (show (none : Option (Int32 × St)) = some out from hf) (fun h => by cases h)
  | succ n ih => intro x1 x2 x3 st hf; exact wb_Mo_count_9 N C hr ih x1 x2 x3 st hf
set_option maxHeartbeats 4000000 in
set_option maxRecDepth 20000 in
theorem c_Mo_count {l : Launch} {D : va_G} {ad : Nat → Nat} {cI : ClassId × ClassId} (N : (LM ad).Nodup) {x1 : Int32} {st : St} {out : Int32 × St} (hf : f_Mo_count x1 st = some out) : xMi l y_Mo_count b_Mo_count 4 (some .int) rm_Mo_count D (tyM cI) (WM ad cI) (LM ad) [.ref (ad 0), .int x1] st out := by
  intro sz
  refine xM_of (L := LM ad) (by decide) (Nat.le_of_ble_eq_true rfl) (fun p e s m below meth c hsz hr C => ?_)
  show j_i p l e rm_Mo_count s m _ below meth c sz D (WM ad cI) (LM ad) out 4 (WM ad cI st) [(0, .ref (ad 0)), (1, .int x1)] 0 []
  unfold f_Mo_count at hf
  refine xj_aload_n C d_Mo_count_0 rfl 0 rfl ?_
  refine xj_iconst (v := 0) C d_Mo_count_1 rfl ?_
  obtain ⟨s1, es1, hf⟩ := xlet_ex hf
  refine xj_put (ws' := WM ad cI s1) C g_Mo_69 gw_Mo_thrown (WM_D N sz _) 0 rfl rfl rfl (Nat.le_of_ble_eq_true rfl) d_Mo_count_2 (by rw [es1]; rfl) ?_
  refine xj_iconst (v := 0) C d_Mo_count_5 rfl ?_
  refine xj_istore_n C d_Mo_count_6 rfl (by decide) rfl ?_
  refine xj_iconst (v := 0) C d_Mo_count_7 rfl ?_
  refine xj_istore_n C d_Mo_count_8 rfl (by decide) rfl ?_
  exact xj_lv [2, 3, 1, 0] rfl (w_Mo_count_9 N C hr 40 x1 0 0 s1 hf)
