theorem w_law_827 {p : Program} {l : Launch} {e : Env} {s : State} {m : MethodId} {b L : Nat} {xs : Nat → Int32} {below : List Frame} {meth : Method} {cd : Code} {D : va_G} {ad am : Nat → Nat} {ao : Nat} {cI cZ cJ : ClassId} (C : xC p s m #[Value.ref b] meth cd (fun q => s.heap.size ≤ q) D 7 (tyL cI cZ cJ) code R_Lw) (hr : meth.sig.returnType = ret) (hX : va_X b L xs s s.heap) (hbl : b < s.heap.size) (hlt : l.stackTraces = false) (hF0 : xF0 s) (N : lw_N ad am ao s) (n : Nat) {K23 : Int32 → St → (Nat → Int64) → St → Option Int32} (hK23 : ∀ (kc ks : Nat) (x4 : Int32) (sc : St) (ov : Nat → Int64) (v : St), kc + n ≤ 669114 ∧ ks + 6 * n ≤ 7088763 → K23 x4 sc ov v = some 1 → jL p l e s m b below meth cd kc ks D (WH ad ao cI cJ (sc, ov) ++ WM am (cI, cZ) v) [(0, .ref b), (1, .ref (ad 0)), (2, .ref (am 0)), (3, .ref ao), (4, .int x4)] 23 []) (kc ks : Nat) (x4 : Int32) (sc : St) (ov : Nat → Int64) (v : St) (hk : kc + n ≤ 669114 ∧ ks + 6 * n ≤ 7088763) (hf : f_law_827 K23 x4 sc ov v = some 1) : jL p l e s m b below meth cd kc ks D (WH ad ao cI cJ (sc, ov) ++ WM am (cI, cZ) v) [(0, .ref b), (1, .ref (ad 0)), (2, .ref (am 0)), (3, .ref ao), (4, .int x4)] 827 [] := by
  unfold f_law_827 at hf
  refine xj_iinc (v := x4 + 6) (j := 4) C d_law_827 rfl rfl (by decide) rfl ?_
  refine xj_goto (tgt := 23) C d_law_830 (by decide) ?_
  exact xj_lv [1, 2, 3, 4, 0] rfl (hK23 (kc) (ks) (x4 + 6) sc ov v (by omega) hf)
set_option maxHeartbeats 4000000 in
set_option maxRecDepth 20000 in
theorem w_law_c0 {p : Program} {l : Launch} {e : Env} {s : State} {m : MethodId} {b L : Nat} {xs : Nat → Int32} {below : List Frame} {meth : Method} {cd : Code} {D : va_G} {ad am : Nat → Nat} {ao : Nat} {cI cZ cJ : ClassId} (C : xC p s m #[Value.ref b] meth cd (fun q => s.heap.size ≤ q) D 7 (tyL cI cZ cJ) code R_Lw) (hr : meth.sig.returnType = ret) (hX : va_X b L xs s s.heap) (hbl : b < s.heap.size) (hlt : l.stackTraces = false) (hF0 : xF0 s) (N : lw_N ad am ao s) (n : Nat) {K23 : Int32 → St → (Nat → Int64) → St → Option Int32} (hK23 : ∀ (kc ks : Nat) (x4 : Int32) (sc : St) (ov : Nat → Int64) (v : St), kc + n ≤ 669114 ∧ ks + 6 * n ≤ 7088763 → K23 x4 sc ov v = some 1 → jL p l e s m b below meth cd kc ks D (WH ad ao cI cJ (sc, ov) ++ WM am (cI, cZ) v) [(0, .ref b), (1, .ref (ad 0)), (2, .ref (am 0)), (3, .ref ao), (4, .int x4)] 23 []) (kc ks : Nat) (x4 : Int32) (sc : St) (ov : Nat → Int64) (v : St) (hk : kc + 1 + n ≤ 669114 ∧ ks + 6 + 6 * n ≤ 7088763) (hf : f_law_c0 L xs K23 x4 sc ov v = some 1) : jL p l e s m b below meth cd kc ks D (WH ad ao cI cJ (sc, ov) ++ WM am (cI, cZ) v) [(0, .ref b), (1, .ref (ad 0)), (2, .ref (am 0)), (3, .ref ao), (4, .int x4)] 104 [] := by
  unfold f_law_c0 at hf
  refine xj_aload_n C d_law_104 rfl 1 rfl ?_
  refine xj_aload_n C d_law_105 rfl 0 rfl ?_
  refine xj_iload C d_law_106 4 rfl ?_
  refine xj_iconst (v := 1) C d_law_108 rfl ?_
  refine xj_iadd C d_law_109 ?_
  obtain ⟨g1, hf⟩ := xb_guard hf
  refine xj_sld C hX hbl (fun h => absurd hbl (Nat.not_lt.mpr h)) g1 d_law_110 ?_
  refine xj_aload_n C d_law_111 rfl 0 rfl ?_
  refine xj_iload C d_law_112 4 rfl ?_
  refine xj_iconst (v := 2) C d_law_114 rfl ?_
  refine xj_iadd C d_law_115 ?_
  obtain ⟨g2, hf⟩ := xb_guard hf
  refine xj_sld C hX hbl (fun h => absurd hbl (Nat.not_lt.mpr h)) g2 d_law_116 ?_
  refine xj_aload_n C d_law_117 rfl 0 rfl ?_
  refine xj_iload C d_law_118 4 rfl ?_
  refine xj_iconst (v := 3) C d_law_120 rfl ?_
  refine xj_iadd C d_law_121 ?_
  obtain ⟨g3, hf⟩ := xb_guard hf
  refine xj_sld C hX hbl (fun h => absurd hbl (Nat.not_lt.mpr h)) g3 d_law_122 ?_
  refine xj_aload_n C d_law_123 rfl 3 rfl ?_
  obtain ⟨o4, ho4, hf⟩ := xb_some hf
  refine xj_hcall (rest := []) (wf := WH ad ao cI cJ) (L := LH ad ao) (wr := WM am (cI, cZ) v) (st := (sc, ov)) C (xS_rf hF0) (fun q h => h) (c_Lw_chamber (cZ := cZ) N.1 hlt N.2.2.1 ho4) ⟨[0, 1, 2], rfl⟩ hw_50 (by decide) ⟨rfl, rfl⟩ rfl rfl (Nat.le_of_ble_eq_true rfl) d_law_124 (by show kc + 1 ≤ 669114; omega) (by show ks + 6 ≤ 7088763; omega) (fun q h => N.2.2.1 q h) (fun q h => N.2.2.2.2 q h) ?_
  refine xj_istore C d_law_127 (by decide) rfl ?_
  refine xj_aload_n C d_law_129 rfl 3 rfl ?_
  refine xj_aload_n C d_law_130 rfl 1 rfl ?_
  refine xj_iload C d_law_131 5 rfl ?_
  refine xj_iconst (v := 1) C d_law_133 rfl ?_
  refine xj_iadd C d_law_134 ?_
  obtain ⟨g5, hf⟩ := xb_guard hf
  refine xj_sld C hX hbl (fun h => absurd hbl (Nat.not_lt.mpr h)) g5 d_law_135 ?_
  refine xj_aload_n C d_law_136 rfl 1 rfl ?_
  refine xj_iload C d_law_137 5 rfl ?_
  refine xj_iconst (v := 2) C d_law_139 rfl ?_
  refine xj_iadd C d_law_140 ?_
  obtain ⟨g6, hf⟩ := xb_guard hf
  refine xj_sld C hX hbl (fun h => absurd hbl (Nat.not_lt.mpr h)) g6 d_law_141 ?_
  refine xj_aload_n C d_law_142 rfl 1 rfl ?_
  refine xj_iload C d_law_143 5 rfl ?_
  refine xj_iconst (v := 3) C d_law_145 rfl ?_
  refine xj_iadd C d_law_146 ?_
  obtain ⟨g7, hf⟩ := xb_guard hf
  refine xj_sld C hX hbl (fun h => absurd hbl (Nat.not_lt.mpr h)) g7 d_law_147 ?_
  obtain ⟨o8, ho8, hf⟩ := xb_some hf
  refine xj_swap ?_
  refine xj_fVi (rest := []) (wf := WM am (cI, cZ)) (L := LM am) (st := v) (wr := WH ad ao cI cJ (o4.2.1, o4.2.2)) C (c_Mo_chamber N.2.1 ho8) ⟨[0, 1], rfl⟩ Y_Mo_chamber i_Lw_55 0 rfl rfl (by decide) ⟨rfl, rfl⟩ rfl rfl (Nat.le_of_ble_eq_true rfl) d_law_148 (by show kc + 1 ≤ 669114; omega) (by show ks + 6 ≤ 7088763; omega) (fun q h => N.2.2.2.1 q h) (fun q h h2 => N.2.2.2.2 q h2 h) ?_
  refine xj_swap ?_
  refine xj_istore C d_law_151 (by decide) rfl ?_
  refine xj_aload_n C d_law_153 rfl 4 rfl ?_
  obtain ⟨o9, ho9, hf⟩ := xb_some hf
  refine xj_swap ?_
  refine xj_fVi (rest := []) (wf := WM am (cI, cZ)) (L := LM am) (st := o8.2) (wr := WH ad ao cI cJ (o4.2.1, o4.2.2)) C (c_Mo_thrown N.2.1 ho9) ⟨[0, 1], rfl⟩ Y_Mo_thrown i_Lw_56 0 rfl rfl (by decide) ⟨rfl, rfl⟩ rfl rfl (Nat.le_of_ble_eq_true rfl) d_law_154 (by show kc + 1 ≤ 669114; omega) (by show ks + 6 ≤ 7088763; omega) (fun q h => N.2.2.2.1 q h) (fun q h h2 => N.2.2.2.2 q h2 h) ?_
  refine xj_swap ?_
  refine xj_iload C d_law_157 1 rfl ?_
  refine xj_icmp_eq (tgt := 164) C d_law_159 (by decide) (fun h9 => ?_) (fun h9 => ?_)
  · have hf := xi_pos h9 hf
    refine xj_iload C d_law_164 1 rfl ?_
    refine xj_if_ne (tgt := 181) C d_law_166 (by decide) (fun h9 => ?_) (fun h9 => ?_)
    · have hf := xi_neg h9 hf
      refine xj_goto (tgt := 827) C d_law_181 (by decide) ?_
      exact xj_lv [2, 3, 4, 5, 6] rfl (w_law_827 C hr hX hbl hlt hF0 N n hK23 (kc + 1) (ks + 6) x4 o4.2.1 o4.2.2 o9.2 (by omega) hf)
    · have hf := xi_pos h9 hf
      refine xj_aload_n C d_law_169 rfl 5 rfl ?_
      refine xj_iconst (v := 0) C d_law_170 rfl ?_
      refine xj_lald C 31 2 rfl rfl (show xin 0 1 by decide) d_law_171 ?_
      refine xj_iload C d_law_172 0 rfl ?_
      refine xj_i2l (v := o8.1.toInt64) C d_law_174 rfl ?_
      refine xj_lcmp C d_law_175 ?_
      refine xj_if_eq (tgt := 181) C d_law_176 (by decide) (fun h9 => ?_) (fun h9 => ?_)
      · have hf := xi_pos h9 hf
        refine xj_goto (tgt := 827) C d_law_181 (by decide) ?_
        exact xj_lv [2, 3, 4, 5, 6] rfl (w_law_827 C hr hX hbl hlt hF0 N n hK23 (kc + 1) (ks + 6) x4 o4.2.1 o4.2.2 o9.2 (by omega) hf)
      · have hf := xi_neg h9 hf
        refine xj_iconst (v := 0) C d_law_179 rfl ?_
        exact absurd hf (by decide)
  · have hf := xi_neg h9 hf
    refine xj_iconst (v := 0) C d_law_162 rfl ?_
    exact absurd hf (by decide)
set_option maxHeartbeats 4000000 in
set_option maxRecDepth 20000 in
theorem w_law_c1 {p : Program} {l : Launch} {e : Env} {s : State} {m : MethodId} {b L : Nat} {xs : Nat → Int32} {below : List Frame} {meth : Method} {cd : Code} {D : va_G} {ad am : Nat → Nat} {ao : Nat} {cI cZ cJ : ClassId} (C : xC p s m #[Value.ref b] meth cd (fun q => s.heap.size ≤ q) D 7 (tyL cI cZ cJ) code R_Lw) (hr : meth.sig.returnType = ret) (hX : va_X b L xs s s.heap) (hbl : b < s.heap.size) (hlt : l.stackTraces = false) (hF0 : xF0 s) (N : lw_N ad am ao s) (n : Nat) {K23 : Int32 → St → (Nat → Int64) → St → Option Int32} (hK23 : ∀ (kc ks : Nat) (x4 : Int32) (sc : St) (ov : Nat → Int64) (v : St), kc + n ≤ 669114 ∧ ks + 6 * n ≤ 7088763 → K23 x4 sc ov v = some 1 → jL p l e s m b below meth cd kc ks D (WH ad ao cI cJ (sc, ov) ++ WM am (cI, cZ) v) [(0, .ref b), (1, .ref (ad 0)), (2, .ref (am 0)), (3, .ref ao), (4, .int x4)] 23 []) (kc ks : Nat) (x4 : Int32) (sc : St) (ov : Nat → Int64) (v : St) (hk : kc + 1 + n ≤ 669114 ∧ ks + 6 + 6 * n ≤ 7088763) (hf : f_law_c1 L xs K23 x4 sc ov v = some 1) : jL p l e s m b below meth cd kc ks D (WH ad ao cI cJ (sc, ov) ++ WM am (cI, cZ) v) [(0, .ref b), (1, .ref (ad 0)), (2, .ref (am 0)), (3, .ref ao), (4, .int x4)] 184 [] := by
  unfold f_law_c1 at hf
  refine xj_aload_n C d_law_184 rfl 1 rfl ?_
  refine xj_aload_n C d_law_185 rfl 0 rfl ?_
  refine xj_iload C d_law_186 4 rfl ?_
  refine xj_iconst (v := 1) C d_law_188 rfl ?_
  refine xj_iadd C d_law_189 ?_
  obtain ⟨g1, hf⟩ := xb_guard hf
  refine xj_sld C hX hbl (fun h => absurd hbl (Nat.not_lt.mpr h)) g1 d_law_190 ?_
  refine xj_aload_n C d_law_191 rfl 0 rfl ?_
  refine xj_iload C d_law_192 4 rfl ?_
  refine xj_iconst (v := 2) C d_law_194 rfl ?_
  refine xj_iadd C d_law_195 ?_
  obtain ⟨g2, hf⟩ := xb_guard hf
  refine xj_sld C hX hbl (fun h => absurd hbl (Nat.not_lt.mpr h)) g2 d_law_196 ?_
  refine xj_aload_n C d_law_197 rfl 0 rfl ?_
  refine xj_iload C d_law_198 4 rfl ?_
  refine xj_iconst (v := 3) C d_law_200 rfl ?_
  refine xj_iadd C d_law_201 ?_
  obtain ⟨g3, hf⟩ := xb_guard hf
  refine xj_sld C hX hbl (fun h => absurd hbl (Nat.not_lt.mpr h)) g3 d_law_202 ?_
  refine xj_aload_n C d_law_203 rfl 0 rfl ?_
  refine xj_iload C d_law_204 4 rfl ?_
  refine xj_iconst (v := 4) C d_law_206 rfl ?_
  refine xj_iadd C d_law_207 ?_
  obtain ⟨g4, hf⟩ := xb_guard hf
  refine xj_sld C hX hbl (fun h => absurd hbl (Nat.not_lt.mpr h)) g4 d_law_208 ?_
  refine xj_aload_n C d_law_209 rfl 0 rfl ?_
  refine xj_iload C d_law_210 4 rfl ?_
  refine xj_iconst (v := 5) C d_law_212 rfl ?_
  refine xj_iadd C d_law_213 ?_
  obtain ⟨g5, hf⟩ := xb_guard hf
  refine xj_sld C hX hbl (fun h => absurd hbl (Nat.not_lt.mpr h)) g5 d_law_214 ?_
  refine xj_aload_n C d_law_215 rfl 3 rfl ?_
  obtain ⟨o6, ho6, hf⟩ := xb_some hf
  refine xj_hcall (rest := []) (wf := WH ad ao cI cJ) (L := LH ad ao) (wr := WM am (cI, cZ) v) (st := (sc, ov)) C (xS_rf hF0) (fun q h => h) (c_Lw_ship (cZ := cZ) N.1 hlt N.2.2.1 ho6) ⟨[0, 1, 2], rfl⟩ hw_60 (by decide) ⟨rfl, rfl⟩ rfl rfl (Nat.le_of_ble_eq_true rfl) d_law_216 (by show kc + 1 ≤ 669114; omega) (by show ks + 6 ≤ 7088763; omega) (fun q h => N.2.2.1 q h) (fun q h => N.2.2.2.2 q h) ?_
  refine xj_istore C d_law_219 (by decide) rfl ?_
  refine xj_aload_n C d_law_221 rfl 3 rfl ?_
  refine xj_aload_n C d_law_222 rfl 1 rfl ?_
  refine xj_iload C d_law_223 5 rfl ?_
  refine xj_iconst (v := 1) C d_law_225 rfl ?_
  refine xj_iadd C d_law_226 ?_
  obtain ⟨g7, hf⟩ := xb_guard hf
  refine xj_sld C hX hbl (fun h => absurd hbl (Nat.not_lt.mpr h)) g7 d_law_227 ?_
  refine xj_aload_n C d_law_228 rfl 1 rfl ?_
  refine xj_iload C d_law_229 5 rfl ?_
  refine xj_iconst (v := 2) C d_law_231 rfl ?_
  refine xj_iadd C d_law_232 ?_
  obtain ⟨g8, hf⟩ := xb_guard hf
  refine xj_sld C hX hbl (fun h => absurd hbl (Nat.not_lt.mpr h)) g8 d_law_233 ?_
  refine xj_aload_n C d_law_234 rfl 1 rfl ?_
  refine xj_iload C d_law_235 5 rfl ?_
  refine xj_iconst (v := 3) C d_law_237 rfl ?_
  refine xj_iadd C d_law_238 ?_
  obtain ⟨g9, hf⟩ := xb_guard hf
  refine xj_sld C hX hbl (fun h => absurd hbl (Nat.not_lt.mpr h)) g9 d_law_239 ?_
  refine xj_aload_n C d_law_240 rfl 1 rfl ?_
  refine xj_iload C d_law_241 5 rfl ?_
  refine xj_iconst (v := 4) C d_law_243 rfl ?_
  refine xj_iadd C d_law_244 ?_
  obtain ⟨g10, hf⟩ := xb_guard hf
  refine xj_sld C hX hbl (fun h => absurd hbl (Nat.not_lt.mpr h)) g10 d_law_245 ?_
  refine xj_aload_n C d_law_246 rfl 1 rfl ?_
  refine xj_iload C d_law_247 5 rfl ?_
  refine xj_iconst (v := 5) C d_law_249 rfl ?_
  refine xj_iadd C d_law_250 ?_
  obtain ⟨g11, hf⟩ := xb_guard hf
  refine xj_sld C hX hbl (fun h => absurd hbl (Nat.not_lt.mpr h)) g11 d_law_251 ?_
  obtain ⟨o12, ho12, hf⟩ := xb_some hf
  refine xj_swap ?_
  refine xj_fVi (rest := []) (wf := WM am (cI, cZ)) (L := LM am) (st := v) (wr := WH ad ao cI cJ (o6.2.1, o6.2.2)) C (c_Mo_ship N.2.1 ho12) ⟨[0, 1], rfl⟩ Y_Mo_ship i_Lw_63 0 rfl rfl (by decide) ⟨rfl, rfl⟩ rfl rfl (Nat.le_of_ble_eq_true rfl) d_law_252 (by show kc + 1 ≤ 669114; omega) (by show ks + 6 ≤ 7088763; omega) (fun q h => N.2.2.2.1 q h) (fun q h h2 => N.2.2.2.2 q h2 h) ?_
  refine xj_swap ?_
  refine xj_istore C d_law_255 (by decide) rfl ?_
  refine xj_aload_n C d_law_257 rfl 4 rfl ?_
  obtain ⟨o13, ho13, hf⟩ := xb_some hf
  refine xj_swap ?_
  refine xj_fVi (rest := []) (wf := WM am (cI, cZ)) (L := LM am) (st := o12.2) (wr := WH ad ao cI cJ (o6.2.1, o6.2.2)) C (c_Mo_thrown N.2.1 ho13) ⟨[0, 1], rfl⟩ Y_Mo_thrown i_Lw_56 0 rfl rfl (by decide) ⟨rfl, rfl⟩ rfl rfl (Nat.le_of_ble_eq_true rfl) d_law_258 (by show kc + 1 ≤ 669114; omega) (by show ks + 6 ≤ 7088763; omega) (fun q h => N.2.2.2.1 q h) (fun q h h2 => N.2.2.2.2 q h2 h) ?_
  refine xj_swap ?_
  refine xj_iload C d_law_261 1 rfl ?_
  refine xj_icmp_eq (tgt := 268) C d_law_263 (by decide) (fun h9 => ?_) (fun h9 => ?_)
  · have hf := xi_pos h9 hf
    refine xj_iload C d_law_268 1 rfl ?_
    refine xj_if_ne (tgt := 285) C d_law_270 (by decide) (fun h9 => ?_) (fun h9 => ?_)
    · have hf := xi_neg h9 hf
      refine xj_goto (tgt := 827) C d_law_285 (by decide) ?_
      exact xj_lv [2, 3, 4, 5, 6] rfl (w_law_827 C hr hX hbl hlt hF0 N n hK23 (kc + 1) (ks + 6) x4 o6.2.1 o6.2.2 o13.2 (by omega) hf)
    · have hf := xi_pos h9 hf
      refine xj_aload_n C d_law_273 rfl 5 rfl ?_
      refine xj_iconst (v := 0) C d_law_274 rfl ?_
      refine xj_lald C 31 2 rfl rfl (show xin 0 1 by decide) d_law_275 ?_
      refine xj_iload C d_law_276 0 rfl ?_
      refine xj_i2l (v := o12.1.toInt64) C d_law_278 rfl ?_
      refine xj_lcmp C d_law_279 ?_
      refine xj_if_eq (tgt := 285) C d_law_280 (by decide) (fun h9 => ?_) (fun h9 => ?_)
      · have hf := xi_pos h9 hf
        refine xj_goto (tgt := 827) C d_law_285 (by decide) ?_
        exact xj_lv [2, 3, 4, 5, 6] rfl (w_law_827 C hr hX hbl hlt hF0 N n hK23 (kc + 1) (ks + 6) x4 o6.2.1 o6.2.2 o13.2 (by omega) hf)
      · have hf := xi_neg h9 hf
        refine xj_iconst (v := 0) C d_law_283 rfl ?_
        exact absurd hf (by decide)
  · have hf := xi_neg h9 hf
    refine xj_iconst (v := 0) C d_law_266 rfl ?_
    exact absurd hf (by decide)
set_option maxHeartbeats 4000000 in
set_option maxRecDepth 20000 in
theorem w_law_c2 {p : Program} {l : Launch} {e : Env} {s : State} {m : MethodId} {b L : Nat} {xs : Nat → Int32} {below : List Frame} {meth : Method} {cd : Code} {D : va_G} {ad am : Nat → Nat} {ao : Nat} {cI cZ cJ : ClassId} (C : xC p s m #[Value.ref b] meth cd (fun q => s.heap.size ≤ q) D 7 (tyL cI cZ cJ) code R_Lw) (hr : meth.sig.returnType = ret) (hX : va_X b L xs s s.heap) (hbl : b < s.heap.size) (hlt : l.stackTraces = false) (hF0 : xF0 s) (N : lw_N ad am ao s) (n : Nat) {K23 : Int32 → St → (Nat → Int64) → St → Option Int32} (hK23 : ∀ (kc ks : Nat) (x4 : Int32) (sc : St) (ov : Nat → Int64) (v : St), kc + n ≤ 669114 ∧ ks + 6 * n ≤ 7088763 → K23 x4 sc ov v = some 1 → jL p l e s m b below meth cd kc ks D (WH ad ao cI cJ (sc, ov) ++ WM am (cI, cZ) v) [(0, .ref b), (1, .ref (ad 0)), (2, .ref (am 0)), (3, .ref ao), (4, .int x4)] 23 []) (kc ks : Nat) (x4 : Int32) (sc : St) (ov : Nat → Int64) (v : St) (hk : kc + 1 + n ≤ 669114 ∧ ks + 6 + 6 * n ≤ 7088763) (hf : f_law_c2 L xs K23 x4 sc ov v = some 1) : jL p l e s m b below meth cd kc ks D (WH ad ao cI cJ (sc, ov) ++ WM am (cI, cZ) v) [(0, .ref b), (1, .ref (ad 0)), (2, .ref (am 0)), (3, .ref ao), (4, .int x4)] 288 [] := by
  unfold f_law_c2 at hf
  refine xj_aload_n C d_law_288 rfl 1 rfl ?_
  refine xj_aload_n C d_law_289 rfl 0 rfl ?_
  refine xj_iload C d_law_290 4 rfl ?_
  refine xj_iconst (v := 1) C d_law_292 rfl ?_
  refine xj_iadd C d_law_293 ?_
  obtain ⟨g1, hf⟩ := xb_guard hf
  refine xj_sld C hX hbl (fun h => absurd hbl (Nat.not_lt.mpr h)) g1 d_law_294 ?_
  refine xj_aload_n C d_law_295 rfl 0 rfl ?_
  refine xj_iload C d_law_296 4 rfl ?_
  refine xj_iconst (v := 2) C d_law_298 rfl ?_
  refine xj_iadd C d_law_299 ?_
  obtain ⟨g2, hf⟩ := xb_guard hf
  refine xj_sld C hX hbl (fun h => absurd hbl (Nat.not_lt.mpr h)) g2 d_law_300 ?_
  refine xj_aload_n C d_law_301 rfl 0 rfl ?_
  refine xj_iload C d_law_302 4 rfl ?_
  refine xj_iconst (v := 3) C d_law_304 rfl ?_
  refine xj_iadd C d_law_305 ?_
  obtain ⟨g3, hf⟩ := xb_guard hf
  refine xj_sld C hX hbl (fun h => absurd hbl (Nat.not_lt.mpr h)) g3 d_law_306 ?_
  obtain ⟨o4, ho4, hf⟩ := xb_some hf
  refine xj_ws (ws' := WC ad cI sc ++ WR am ao cI cZ cJ ov v) WL_eq ?_
  refine xj_fVi (rest := []) (wf := WC ad cI) (L := LC ad) (st := sc) (wr := WR am ao cI cZ cJ ov v) C (c_LR_closed (LH_C N.1).1 ho4) ⟨[0], rfl⟩ Y_LR_closed i_Lw_64 0 rfl rfl (by decide) ⟨rfl, rfl⟩ rfl rfl (Nat.le_of_ble_eq_true rfl) d_law_307 (by show kc ≤ 669114; omega) (by show ks ≤ 7088763; omega) (fun q h => N.2.2.1 q (List.mem_append_left _ h)) (lw_dis1 N) ?_
  refine xj_ws (ws' := WH ad ao cI cJ (o4.2, ov) ++ WM am (cI, cZ) v) WL_eq.symm ?_
  refine xj_aload_n C d_law_310 rfl 2 rfl ?_
  refine xj_aload_n C d_law_311 rfl 0 rfl ?_
  refine xj_iload C d_law_312 4 rfl ?_
  refine xj_iconst (v := 1) C d_law_314 rfl ?_
  refine xj_iadd C d_law_315 ?_
  obtain ⟨g5, hf⟩ := xb_guard hf
  refine xj_sld C hX hbl (fun h => absurd hbl (Nat.not_lt.mpr h)) g5 d_law_316 ?_
  refine xj_aload_n C d_law_317 rfl 0 rfl ?_
  refine xj_iload C d_law_318 4 rfl ?_
  refine xj_iconst (v := 2) C d_law_320 rfl ?_
  refine xj_iadd C d_law_321 ?_
  obtain ⟨g6, hf⟩ := xb_guard hf
  refine xj_sld C hX hbl (fun h => absurd hbl (Nat.not_lt.mpr h)) g6 d_law_322 ?_
  refine xj_aload_n C d_law_323 rfl 0 rfl ?_
  refine xj_iload C d_law_324 4 rfl ?_
  refine xj_iconst (v := 3) C d_law_326 rfl ?_
  refine xj_iadd C d_law_327 ?_
  obtain ⟨g7, hf⟩ := xb_guard hf
  refine xj_sld C hX hbl (fun h => absurd hbl (Nat.not_lt.mpr h)) g7 d_law_328 ?_
  obtain ⟨o8, ho8, hf⟩ := xb_some hf
  refine xj_swap ?_
  refine xj_fVi (rest := [.int o4.1]) (wf := WM am (cI, cZ)) (L := LM am) (st := v) (wr := WH ad ao cI cJ (o4.2, ov)) C (c_Mo_closed N.2.1 ho8) ⟨[0, 1], rfl⟩ Y_Mo_closed i_Lw_68 0 rfl rfl (by decide) ⟨rfl, rfl⟩ rfl rfl (Nat.le_of_ble_eq_true rfl) d_law_329 (by show kc ≤ 669114; omega) (by show ks ≤ 7088763; omega) (fun q h => N.2.2.2.1 q h) (fun q h h2 => N.2.2.2.2 q h2 h) ?_
  refine xj_swap ?_
  refine xj_icmp_eq (tgt := 827) C d_law_332 (by decide) (fun h9 => ?_) (fun h9 => ?_)
  · have hf := xi_pos h9 hf
    exact xj_lv [0, 1, 2, 3, 4] rfl (w_law_827 C hr hX hbl hlt hF0 N n hK23 (kc) (ks) x4 o4.2 ov o8.2 (by omega) hf)
  · have hf := xi_neg h9 hf
    refine xj_iconst (v := 0) C d_law_335 rfl ?_
    exact absurd hf (by decide)
set_option maxHeartbeats 4000000 in
set_option maxRecDepth 20000 in
theorem w_law_c3 {p : Program} {l : Launch} {e : Env} {s : State} {m : MethodId} {b L : Nat} {xs : Nat → Int32} {below : List Frame} {meth : Method} {cd : Code} {D : va_G} {ad am : Nat → Nat} {ao : Nat} {cI cZ cJ : ClassId} (C : xC p s m #[Value.ref b] meth cd (fun q => s.heap.size ≤ q) D 7 (tyL cI cZ cJ) code R_Lw) (hr : meth.sig.returnType = ret) (hX : va_X b L xs s s.heap) (hbl : b < s.heap.size) (hlt : l.stackTraces = false) (hF0 : xF0 s) (N : lw_N ad am ao s) (n : Nat) {K23 : Int32 → St → (Nat → Int64) → St → Option Int32} (hK23 : ∀ (kc ks : Nat) (x4 : Int32) (sc : St) (ov : Nat → Int64) (v : St), kc + n ≤ 669114 ∧ ks + 6 * n ≤ 7088763 → K23 x4 sc ov v = some 1 → jL p l e s m b below meth cd kc ks D (WH ad ao cI cJ (sc, ov) ++ WM am (cI, cZ) v) [(0, .ref b), (1, .ref (ad 0)), (2, .ref (am 0)), (3, .ref ao), (4, .int x4)] 23 []) (kc ks : Nat) (x4 : Int32) (sc : St) (ov : Nat → Int64) (v : St) (hk : kc + 1 + n ≤ 669114 ∧ ks + 6 + 6 * n ≤ 7088763) (hf : f_law_c3 L xs K23 x4 sc ov v = some 1) : jL p l e s m b below meth cd kc ks D (WH ad ao cI cJ (sc, ov) ++ WM am (cI, cZ) v) [(0, .ref b), (1, .ref (ad 0)), (2, .ref (am 0)), (3, .ref ao), (4, .int x4)] 337 [] := by
  unfold f_law_c3 at hf
  refine xj_aload_n C d_law_337 rfl 1 rfl ?_
  refine xj_aload_n C d_law_338 rfl 0 rfl ?_
  refine xj_iload C d_law_339 4 rfl ?_
  refine xj_iconst (v := 1) C d_law_341 rfl ?_
  refine xj_iadd C d_law_342 ?_
  obtain ⟨g1, hf⟩ := xb_guard hf
  refine xj_sld C hX hbl (fun h => absurd hbl (Nat.not_lt.mpr h)) g1 d_law_343 ?_
  refine xj_aload_n C d_law_344 rfl 0 rfl ?_
  refine xj_iload C d_law_345 4 rfl ?_
  refine xj_iconst (v := 2) C d_law_347 rfl ?_
  refine xj_iadd C d_law_348 ?_
  obtain ⟨g2, hf⟩ := xb_guard hf
  refine xj_sld C hX hbl (fun h => absurd hbl (Nat.not_lt.mpr h)) g2 d_law_349 ?_
  obtain ⟨o3, ho3, hf⟩ := xb_some hf
  refine xj_ws (ws' := WC ad cI sc ++ WR am ao cI cZ cJ ov v) WL_eq ?_
  refine xj_fVi (rest := []) (wf := WC ad cI) (L := LC ad) (st := sc) (wr := WR am ao cI cZ cJ ov v) C (c_LR_rule (LH_C N.1).1 ho3) ⟨[0], rfl⟩ Y_LR_rule i_Lw_69 0 rfl rfl (by decide) ⟨rfl, rfl⟩ rfl rfl (Nat.le_of_ble_eq_true rfl) d_law_350 (by show kc ≤ 669114; omega) (by show ks ≤ 7088763; omega) (fun q h => N.2.2.1 q (List.mem_append_left _ h)) (lw_dis1 N) ?_
  refine xj_ws (ws' := WH ad ao cI cJ (o3.2, ov) ++ WM am (cI, cZ) v) WL_eq.symm ?_
  refine xj_aload_n C d_law_353 rfl 2 rfl ?_
  refine xj_aload_n C d_law_354 rfl 0 rfl ?_
  refine xj_iload C d_law_355 4 rfl ?_
  refine xj_iconst (v := 1) C d_law_357 rfl ?_
  refine xj_iadd C d_law_358 ?_
  obtain ⟨g4, hf⟩ := xb_guard hf
  refine xj_sld C hX hbl (fun h => absurd hbl (Nat.not_lt.mpr h)) g4 d_law_359 ?_
  refine xj_aload_n C d_law_360 rfl 0 rfl ?_
  refine xj_iload C d_law_361 4 rfl ?_
  refine xj_iconst (v := 2) C d_law_363 rfl ?_
  refine xj_iadd C d_law_364 ?_
  obtain ⟨g5, hf⟩ := xb_guard hf
  refine xj_sld C hX hbl (fun h => absurd hbl (Nat.not_lt.mpr h)) g5 d_law_365 ?_
  obtain ⟨o6, ho6, hf⟩ := xb_some hf
  refine xj_swap ?_
  refine xj_fVi (rest := [.int o3.1]) (wf := WM am (cI, cZ)) (L := LM am) (st := v) (wr := WH ad ao cI cJ (o3.2, ov)) C (c_Mo_rule N.2.1 ho6) ⟨[0, 1], rfl⟩ Y_Mo_rule i_Lw_72 0 rfl rfl (by decide) ⟨rfl, rfl⟩ rfl rfl (Nat.le_of_ble_eq_true rfl) d_law_366 (by show kc ≤ 669114; omega) (by show ks ≤ 7088763; omega) (fun q h => N.2.2.2.1 q h) (fun q h h2 => N.2.2.2.2 q h2 h) ?_
  refine xj_swap ?_
  refine xj_icmp_eq (tgt := 827) C d_law_369 (by decide) (fun h9 => ?_) (fun h9 => ?_)
  · have hf := xi_pos h9 hf
    exact xj_lv [0, 1, 2, 3, 4] rfl (w_law_827 C hr hX hbl hlt hF0 N n hK23 (kc) (ks) x4 o3.2 ov o6.2 (by omega) hf)
  · have hf := xi_neg h9 hf
    refine xj_iconst (v := 0) C d_law_372 rfl ?_
    exact absurd hf (by decide)
set_option maxHeartbeats 4000000 in
set_option maxRecDepth 20000 in
theorem w_law_c4 {p : Program} {l : Launch} {e : Env} {s : State} {m : MethodId} {b L : Nat} {xs : Nat → Int32} {below : List Frame} {meth : Method} {cd : Code} {D : va_G} {ad am : Nat → Nat} {ao : Nat} {cI cZ cJ : ClassId} (C : xC p s m #[Value.ref b] meth cd (fun q => s.heap.size ≤ q) D 7 (tyL cI cZ cJ) code R_Lw) (hr : meth.sig.returnType = ret) (hX : va_X b L xs s s.heap) (hbl : b < s.heap.size) (hlt : l.stackTraces = false) (hF0 : xF0 s) (N : lw_N ad am ao s) (n : Nat) {K23 : Int32 → St → (Nat → Int64) → St → Option Int32} (hK23 : ∀ (kc ks : Nat) (x4 : Int32) (sc : St) (ov : Nat → Int64) (v : St), kc + n ≤ 669114 ∧ ks + 6 * n ≤ 7088763 → K23 x4 sc ov v = some 1 → jL p l e s m b below meth cd kc ks D (WH ad ao cI cJ (sc, ov) ++ WM am (cI, cZ) v) [(0, .ref b), (1, .ref (ad 0)), (2, .ref (am 0)), (3, .ref ao), (4, .int x4)] 23 []) (kc ks : Nat) (x4 : Int32) (sc : St) (ov : Nat → Int64) (v : St) (hk : kc + 1 + n ≤ 669114 ∧ ks + 6 + 6 * n ≤ 7088763) (hf : f_law_c4 L xs K23 x4 sc ov v = some 1) : jL p l e s m b below meth cd kc ks D (WH ad ao cI cJ (sc, ov) ++ WM am (cI, cZ) v) [(0, .ref b), (1, .ref (ad 0)), (2, .ref (am 0)), (3, .ref ao), (4, .int x4)] 374 [] := by
  unfold f_law_c4 at hf
  refine xj_aload_n C d_law_374 rfl 1 rfl ?_
  obtain ⟨o1, ho1, hf⟩ := xb_some hf
  refine xj_ws (ws' := WC ad cI sc ++ WR am ao cI cZ cJ ov v) WL_eq ?_
  refine xj_fVi (rest := []) (wf := WC ad cI) (L := LC ad) (st := sc) (wr := WR am ao cI cZ cJ ov v) C (c_LR_plan (LH_C N.1).1 ho1) ⟨[0], rfl⟩ Y_LR_plan i_Lw_73 0 rfl rfl (by decide) ⟨rfl, rfl⟩ rfl rfl (Nat.le_of_ble_eq_true rfl) d_law_375 (by show kc ≤ 669114; omega) (by show ks ≤ 7088763; omega) (fun q h => N.2.2.1 q (List.mem_append_left _ h)) (lw_dis1 N) ?_
  refine xj_ws (ws' := WH ad ao cI cJ (o1.2, ov) ++ WM am (cI, cZ) v) WL_eq.symm ?_
  refine xj_aload_n C d_law_378 rfl 2 rfl ?_
  obtain ⟨o2, ho2, hf⟩ := xb_some hf
  refine xj_swap ?_
  refine xj_fVi (rest := [.int o1.1]) (wf := WM am (cI, cZ)) (L := LM am) (st := v) (wr := WH ad ao cI cJ (o1.2, ov)) C (c_Mo_plan N.2.1 ho2) ⟨[0, 1], rfl⟩ Y_Mo_plan i_Lw_76 0 rfl rfl (by decide) ⟨rfl, rfl⟩ rfl rfl (Nat.le_of_ble_eq_true rfl) d_law_379 (by show kc ≤ 669114; omega) (by show ks ≤ 7088763; omega) (fun q h => N.2.2.2.1 q h) (fun q h h2 => N.2.2.2.2 q h2 h) ?_
  refine xj_swap ?_
  refine xj_icmp_eq (tgt := 827) C d_law_382 (by decide) (fun h9 => ?_) (fun h9 => ?_)
  · have hf := xi_pos h9 hf
    exact xj_lv [0, 1, 2, 3, 4] rfl (w_law_827 C hr hX hbl hlt hF0 N n hK23 (kc) (ks) x4 o1.2 ov o2.2 (by omega) hf)
  · have hf := xi_neg h9 hf
    refine xj_iconst (v := 0) C d_law_385 rfl ?_
    exact absurd hf (by decide)
set_option maxHeartbeats 4000000 in
set_option maxRecDepth 20000 in
theorem w_law_c5 {p : Program} {l : Launch} {e : Env} {s : State} {m : MethodId} {b L : Nat} {xs : Nat → Int32} {below : List Frame} {meth : Method} {cd : Code} {D : va_G} {ad am : Nat → Nat} {ao : Nat} {cI cZ cJ : ClassId} (C : xC p s m #[Value.ref b] meth cd (fun q => s.heap.size ≤ q) D 7 (tyL cI cZ cJ) code R_Lw) (hr : meth.sig.returnType = ret) (hX : va_X b L xs s s.heap) (hbl : b < s.heap.size) (hlt : l.stackTraces = false) (hF0 : xF0 s) (N : lw_N ad am ao s) (n : Nat) {K23 : Int32 → St → (Nat → Int64) → St → Option Int32} (hK23 : ∀ (kc ks : Nat) (x4 : Int32) (sc : St) (ov : Nat → Int64) (v : St), kc + n ≤ 669114 ∧ ks + 6 * n ≤ 7088763 → K23 x4 sc ov v = some 1 → jL p l e s m b below meth cd kc ks D (WH ad ao cI cJ (sc, ov) ++ WM am (cI, cZ) v) [(0, .ref b), (1, .ref (ad 0)), (2, .ref (am 0)), (3, .ref ao), (4, .int x4)] 23 []) (kc ks : Nat) (x4 : Int32) (sc : St) (ov : Nat → Int64) (v : St) (hk : kc + 1 + n ≤ 669114 ∧ ks + 6 + 6 * n ≤ 7088763) (hf : f_law_c5 L xs K23 x4 sc ov v = some 1) : jL p l e s m b below meth cd kc ks D (WH ad ao cI cJ (sc, ov) ++ WM am (cI, cZ) v) [(0, .ref b), (1, .ref (ad 0)), (2, .ref (am 0)), (3, .ref ao), (4, .int x4)] 387 [] := by
  unfold f_law_c5 at hf
  refine xj_aload_n C d_law_387 rfl 1 rfl ?_
  refine xj_aload_n C d_law_388 rfl 0 rfl ?_
  refine xj_iload C d_law_389 4 rfl ?_
  refine xj_iconst (v := 1) C d_law_391 rfl ?_
  refine xj_iadd C d_law_392 ?_
  obtain ⟨g1, hf⟩ := xb_guard hf
  refine xj_sld C hX hbl (fun h => absurd hbl (Nat.not_lt.mpr h)) g1 d_law_393 ?_
  refine xj_aload_n C d_law_394 rfl 0 rfl ?_
  refine xj_iload C d_law_395 4 rfl ?_
  refine xj_iconst (v := 2) C d_law_397 rfl ?_
  refine xj_iadd C d_law_398 ?_
  obtain ⟨g2, hf⟩ := xb_guard hf
  refine xj_sld C hX hbl (fun h => absurd hbl (Nat.not_lt.mpr h)) g2 d_law_399 ?_
  refine xj_aload_n C d_law_400 rfl 3 rfl ?_
  obtain ⟨o3, ho3, hf⟩ := xb_some hf
  refine xj_hcall (rest := []) (wf := WH ad ao cI cJ) (L := LH ad ao) (wr := WM am (cI, cZ) v) (st := (sc, ov)) C (xS_rf hF0) (fun q h => h) (c_Lw_fits (cZ := cZ) N.1 hlt N.2.2.1 ho3) ⟨[0, 1, 2], rfl⟩ hw_77 (by decide) ⟨rfl, rfl⟩ rfl rfl (Nat.le_of_ble_eq_true rfl) d_law_401 (by show kc + 1 ≤ 669114; omega) (by show ks + 6 ≤ 7088763; omega) (fun q h => N.2.2.1 q h) (fun q h => N.2.2.2.2 q h) ?_
  refine xj_istore C d_law_404 (by decide) rfl ?_
  refine xj_aload_n C d_law_406 rfl 3 rfl ?_
  refine xj_aload_n C d_law_407 rfl 1 rfl ?_
  refine xj_iload C d_law_408 5 rfl ?_
  refine xj_iconst (v := 1) C d_law_410 rfl ?_
  refine xj_iadd C d_law_411 ?_
  obtain ⟨g4, hf⟩ := xb_guard hf
  refine xj_sld C hX hbl (fun h => absurd hbl (Nat.not_lt.mpr h)) g4 d_law_412 ?_
  refine xj_aload_n C d_law_413 rfl 1 rfl ?_
  refine xj_iload C d_law_414 5 rfl ?_
  refine xj_iconst (v := 2) C d_law_416 rfl ?_
  refine xj_iadd C d_law_417 ?_
  obtain ⟨g5, hf⟩ := xb_guard hf
  refine xj_sld C hX hbl (fun h => absurd hbl (Nat.not_lt.mpr h)) g5 d_law_418 ?_
  obtain ⟨o6, ho6, hf⟩ := xb_some hf
  refine xj_swap ?_
  refine xj_fVi (rest := []) (wf := WM am (cI, cZ)) (L := LM am) (st := v) (wr := WH ad ao cI cJ (o3.2.1, o3.2.2)) C (c_Mo_fits N.2.1 ho6) ⟨[0, 1], rfl⟩ Y_Mo_fits i_Lw_80 0 rfl rfl (by decide) ⟨rfl, rfl⟩ rfl rfl (Nat.le_of_ble_eq_true rfl) d_law_419 (by show kc + 1 ≤ 669114; omega) (by show ks + 6 ≤ 7088763; omega) (fun q h => N.2.2.2.1 q h) (fun q h h2 => N.2.2.2.2 q h2 h) ?_
  refine xj_swap ?_
  refine xj_istore C d_law_422 (by decide) rfl ?_
  refine xj_aload_n C d_law_424 rfl 4 rfl ?_
  obtain ⟨o7, ho7, hf⟩ := xb_some hf
  refine xj_swap ?_
  refine xj_fVi (rest := []) (wf := WM am (cI, cZ)) (L := LM am) (st := o6.2) (wr := WH ad ao cI cJ (o3.2.1, o3.2.2)) C (c_Mo_thrown N.2.1 ho7) ⟨[0, 1], rfl⟩ Y_Mo_thrown i_Lw_56 0 rfl rfl (by decide) ⟨rfl, rfl⟩ rfl rfl (Nat.le_of_ble_eq_true rfl) d_law_425 (by show kc + 1 ≤ 669114; omega) (by show ks + 6 ≤ 7088763; omega) (fun q h => N.2.2.2.1 q h) (fun q h h2 => N.2.2.2.2 q h2 h) ?_
  refine xj_swap ?_
  refine xj_iload C d_law_428 1 rfl ?_
  refine xj_icmp_eq (tgt := 435) C d_law_430 (by decide) (fun h9 => ?_) (fun h9 => ?_)
  · have hf := xi_pos h9 hf
    refine xj_iload C d_law_435 1 rfl ?_
    refine xj_if_ne (tgt := 459) C d_law_437 (by decide) (fun h9 => ?_) (fun h9 => ?_)
    · have hf := xi_neg h9 hf
      refine xj_goto (tgt := 827) C d_law_459 (by decide) ?_
      exact xj_lv [2, 3, 4, 5, 6] rfl (w_law_827 C hr hX hbl hlt hF0 N n hK23 (kc + 1) (ks + 6) x4 o3.2.1 o3.2.2 o7.2 (by omega) hf)
    · have hf := xi_pos h9 hf
      refine xj_aload_n C d_law_440 rfl 5 rfl ?_
      refine xj_iconst (v := 0) C d_law_441 rfl ?_
      refine xj_lald C 31 2 rfl rfl (show xin 0 1 by decide) d_law_442 ?_
      refine xj_iload C d_law_443 0 rfl ?_
      refine xj_if_eq (tgt := 452) C d_law_445 (by decide) (fun h9 => ?_) (fun h9 => ?_)
      · have hf := xi_pos h9 hf
        refine xj_lconst (v := 0) C d_law_452 rfl ?_
        refine xj_lcmp C d_law_453 ?_
        refine xj_if_eq (tgt := 459) C d_law_454 (by decide) (fun h9 => ?_) (fun h9 => ?_)
        · have hf := xi_pos h9 hf
          refine xj_goto (tgt := 827) C d_law_459 (by decide) ?_
          exact xj_lv [2, 3, 4, 5, 6] rfl (w_law_827 C hr hX hbl hlt hF0 N n hK23 (kc + 1) (ks + 6) x4 o3.2.1 o3.2.2 o7.2 (by omega) hf)
        · have hf := xi_neg h9 hf
          refine xj_iconst (v := 0) C d_law_457 rfl ?_
          exact absurd hf (by decide)
      · have hf := xi_neg h9 hf
        refine xj_lconst (v := 1) C d_law_448 rfl ?_
        refine xj_goto (tgt := 453) C d_law_449 (by decide) ?_
        refine xj_lcmp C d_law_453 ?_
        refine xj_if_eq (tgt := 459) C d_law_454 (by decide) (fun h9 => ?_) (fun h9 => ?_)
        · have hf := xi_pos h9 hf
          refine xj_goto (tgt := 827) C d_law_459 (by decide) ?_
          exact xj_lv [2, 3, 4, 5, 6] rfl (w_law_827 C hr hX hbl hlt hF0 N n hK23 (kc + 1) (ks + 6) x4 o3.2.1 o3.2.2 o7.2 (by omega) hf)
        · have hf := xi_neg h9 hf
          refine xj_iconst (v := 0) C d_law_457 rfl ?_
          exact absurd hf (by decide)
  · have hf := xi_neg h9 hf
    refine xj_iconst (v := 0) C d_law_433 rfl ?_
    exact absurd hf (by decide)
set_option maxHeartbeats 4000000 in
set_option maxRecDepth 20000 in
theorem w_law_c6 {p : Program} {l : Launch} {e : Env} {s : State} {m : MethodId} {b L : Nat} {xs : Nat → Int32} {below : List Frame} {meth : Method} {cd : Code} {D : va_G} {ad am : Nat → Nat} {ao : Nat} {cI cZ cJ : ClassId} (C : xC p s m #[Value.ref b] meth cd (fun q => s.heap.size ≤ q) D 7 (tyL cI cZ cJ) code R_Lw) (hr : meth.sig.returnType = ret) (hX : va_X b L xs s s.heap) (hbl : b < s.heap.size) (hlt : l.stackTraces = false) (hF0 : xF0 s) (N : lw_N ad am ao s) (n : Nat) {K23 : Int32 → St → (Nat → Int64) → St → Option Int32} (hK23 : ∀ (kc ks : Nat) (x4 : Int32) (sc : St) (ov : Nat → Int64) (v : St), kc + n ≤ 669114 ∧ ks + 6 * n ≤ 7088763 → K23 x4 sc ov v = some 1 → jL p l e s m b below meth cd kc ks D (WH ad ao cI cJ (sc, ov) ++ WM am (cI, cZ) v) [(0, .ref b), (1, .ref (ad 0)), (2, .ref (am 0)), (3, .ref ao), (4, .int x4)] 23 []) (kc ks : Nat) (x4 : Int32) (sc : St) (ov : Nat → Int64) (v : St) (hk : kc + 1 + n ≤ 669114 ∧ ks + 6 + 6 * n ≤ 7088763) (hf : f_law_c6 L xs K23 x4 sc ov v = some 1) : jL p l e s m b below meth cd kc ks D (WH ad ao cI cJ (sc, ov) ++ WM am (cI, cZ) v) [(0, .ref b), (1, .ref (ad 0)), (2, .ref (am 0)), (3, .ref ao), (4, .int x4)] 462 [] := by
  unfold f_law_c6 at hf
  refine xj_aload_n C d_law_462 rfl 1 rfl ?_
  refine xj_aload_n C d_law_463 rfl 0 rfl ?_
  refine xj_iload C d_law_464 4 rfl ?_
  refine xj_iconst (v := 1) C d_law_466 rfl ?_
  refine xj_iadd C d_law_467 ?_
  obtain ⟨g1, hf⟩ := xb_guard hf
  refine xj_sld C hX hbl (fun h => absurd hbl (Nat.not_lt.mpr h)) g1 d_law_468 ?_
  refine xj_aload_n C d_law_469 rfl 0 rfl ?_
  refine xj_iload C d_law_470 4 rfl ?_
  refine xj_iconst (v := 2) C d_law_472 rfl ?_
  refine xj_iadd C d_law_473 ?_
  obtain ⟨g2, hf⟩ := xb_guard hf
  refine xj_sld C hX hbl (fun h => absurd hbl (Nat.not_lt.mpr h)) g2 d_law_474 ?_
  refine xj_aload_n C d_law_475 rfl 3 rfl ?_
  obtain ⟨o3, ho3, hf⟩ := xb_some hf
  refine xj_hcall (rest := []) (wf := WH ad ao cI cJ) (L := LH ad ao) (wr := WM am (cI, cZ) v) (st := (sc, ov)) C (xS_rf hF0) (fun q h => h) (c_Lw_of (cZ := cZ) N.1 hlt N.2.2.1 ho3) ⟨[0, 1, 2], rfl⟩ hw_81 (by decide) ⟨rfl, rfl⟩ rfl rfl (Nat.le_of_ble_eq_true rfl) d_law_476 (by show kc + 1 ≤ 669114; omega) (by show ks + 6 ≤ 7088763; omega) (fun q h => N.2.2.1 q h) (fun q h => N.2.2.2.2 q h) ?_
  refine xj_istore C d_law_479 (by decide) rfl ?_
  refine xj_aload_n C d_law_481 rfl 3 rfl ?_
  refine xj_aload_n C d_law_482 rfl 1 rfl ?_
  refine xj_iload C d_law_483 5 rfl ?_
  refine xj_iconst (v := 1) C d_law_485 rfl ?_
  refine xj_iadd C d_law_486 ?_
  obtain ⟨g4, hf⟩ := xb_guard hf
  refine xj_sld C hX hbl (fun h => absurd hbl (Nat.not_lt.mpr h)) g4 d_law_487 ?_
  refine xj_aload_n C d_law_488 rfl 1 rfl ?_
  refine xj_iload C d_law_489 5 rfl ?_
  refine xj_iconst (v := 2) C d_law_491 rfl ?_
  refine xj_iadd C d_law_492 ?_
  obtain ⟨g5, hf⟩ := xb_guard hf
  refine xj_sld C hX hbl (fun h => absurd hbl (Nat.not_lt.mpr h)) g5 d_law_493 ?_
  obtain ⟨o6, ho6, hf⟩ := xb_some hf
  refine xj_swap ?_
  refine xj_fVi (rest := []) (wf := WM am (cI, cZ)) (L := LM am) (st := v) (wr := WH ad ao cI cJ (o3.2.1, o3.2.2)) C (c_Mo_of N.2.1 ho6) ⟨[0, 1], rfl⟩ Y_Mo_of i_Lw_83 0 rfl rfl (by decide) ⟨rfl, rfl⟩ rfl rfl (Nat.le_of_ble_eq_true rfl) d_law_494 (by show kc + 1 ≤ 669114; omega) (by show ks + 6 ≤ 7088763; omega) (fun q h => N.2.2.2.1 q h) (fun q h h2 => N.2.2.2.2 q h2 h) ?_
  refine xj_swap ?_
  refine xj_istore C d_law_497 (by decide) rfl ?_
  refine xj_aload_n C d_law_499 rfl 4 rfl ?_
  obtain ⟨o7, ho7, hf⟩ := xb_some hf
  refine xj_swap ?_
  refine xj_fVi (rest := []) (wf := WM am (cI, cZ)) (L := LM am) (st := o6.2) (wr := WH ad ao cI cJ (o3.2.1, o3.2.2)) C (c_Mo_thrown N.2.1 ho7) ⟨[0, 1], rfl⟩ Y_Mo_thrown i_Lw_56 0 rfl rfl (by decide) ⟨rfl, rfl⟩ rfl rfl (Nat.le_of_ble_eq_true rfl) d_law_500 (by show kc + 1 ≤ 669114; omega) (by show ks + 6 ≤ 7088763; omega) (fun q h => N.2.2.2.1 q h) (fun q h h2 => N.2.2.2.2 q h2 h) ?_
  refine xj_swap ?_
  refine xj_iload C d_law_503 1 rfl ?_
  refine xj_icmp_eq (tgt := 510) C d_law_505 (by decide) (fun h9 => ?_) (fun h9 => ?_)
  · have hf := xi_pos h9 hf
    refine xj_iload C d_law_510 1 rfl ?_
    refine xj_if_ne (tgt := 527) C d_law_512 (by decide) (fun h9 => ?_) (fun h9 => ?_)
    · have hf := xi_neg h9 hf
      refine xj_goto (tgt := 827) C d_law_527 (by decide) ?_
      exact xj_lv [2, 3, 4, 5, 6] rfl (w_law_827 C hr hX hbl hlt hF0 N n hK23 (kc + 1) (ks + 6) x4 o3.2.1 o3.2.2 o7.2 (by omega) hf)
    · have hf := xi_pos h9 hf
      refine xj_aload_n C d_law_515 rfl 5 rfl ?_
      refine xj_iconst (v := 0) C d_law_516 rfl ?_
      refine xj_lald C 31 2 rfl rfl (show xin 0 1 by decide) d_law_517 ?_
      refine xj_iload C d_law_518 0 rfl ?_
      refine xj_i2l (v := o6.1.toInt64) C d_law_520 rfl ?_
      refine xj_lcmp C d_law_521 ?_
      refine xj_if_eq (tgt := 527) C d_law_522 (by decide) (fun h9 => ?_) (fun h9 => ?_)
      · have hf := xi_pos h9 hf
        refine xj_goto (tgt := 827) C d_law_527 (by decide) ?_
        exact xj_lv [2, 3, 4, 5, 6] rfl (w_law_827 C hr hX hbl hlt hF0 N n hK23 (kc + 1) (ks + 6) x4 o3.2.1 o3.2.2 o7.2 (by omega) hf)
      · have hf := xi_neg h9 hf
        refine xj_iconst (v := 0) C d_law_525 rfl ?_
        exact absurd hf (by decide)
  · have hf := xi_neg h9 hf
    refine xj_iconst (v := 0) C d_law_508 rfl ?_
    exact absurd hf (by decide)
set_option maxHeartbeats 4000000 in
set_option maxRecDepth 20000 in
theorem w_law_c7 {p : Program} {l : Launch} {e : Env} {s : State} {m : MethodId} {b L : Nat} {xs : Nat → Int32} {below : List Frame} {meth : Method} {cd : Code} {D : va_G} {ad am : Nat → Nat} {ao : Nat} {cI cZ cJ : ClassId} (C : xC p s m #[Value.ref b] meth cd (fun q => s.heap.size ≤ q) D 7 (tyL cI cZ cJ) code R_Lw) (hr : meth.sig.returnType = ret) (hX : va_X b L xs s s.heap) (hbl : b < s.heap.size) (hlt : l.stackTraces = false) (hF0 : xF0 s) (N : lw_N ad am ao s) (n : Nat) {K23 : Int32 → St → (Nat → Int64) → St → Option Int32} (hK23 : ∀ (kc ks : Nat) (x4 : Int32) (sc : St) (ov : Nat → Int64) (v : St), kc + n ≤ 669114 ∧ ks + 6 * n ≤ 7088763 → K23 x4 sc ov v = some 1 → jL p l e s m b below meth cd kc ks D (WH ad ao cI cJ (sc, ov) ++ WM am (cI, cZ) v) [(0, .ref b), (1, .ref (ad 0)), (2, .ref (am 0)), (3, .ref ao), (4, .int x4)] 23 []) (kc ks : Nat) (x4 : Int32) (sc : St) (ov : Nat → Int64) (v : St) (hk : kc + 1 + n ≤ 669114 ∧ ks + 6 + 6 * n ≤ 7088763) (hf : f_law_c7 L xs K23 x4 sc ov v = some 1) : jL p l e s m b below meth cd kc ks D (WH ad ao cI cJ (sc, ov) ++ WM am (cI, cZ) v) [(0, .ref b), (1, .ref (ad 0)), (2, .ref (am 0)), (3, .ref ao), (4, .int x4)] 530 [] := by
  unfold f_law_c7 at hf
  refine xj_aload_n C d_law_530 rfl 1 rfl ?_
  refine xj_aload_n C d_law_531 rfl 0 rfl ?_
  refine xj_iload C d_law_532 4 rfl ?_
  refine xj_iconst (v := 1) C d_law_534 rfl ?_
  refine xj_iadd C d_law_535 ?_
  obtain ⟨g1, hf⟩ := xb_guard hf
  refine xj_sld C hX hbl (fun h => absurd hbl (Nat.not_lt.mpr h)) g1 d_law_536 ?_
  refine xj_aload_n C d_law_537 rfl 0 rfl ?_
  refine xj_iload C d_law_538 4 rfl ?_
  refine xj_iconst (v := 2) C d_law_540 rfl ?_
  refine xj_iadd C d_law_541 ?_
  obtain ⟨g2, hf⟩ := xb_guard hf
  refine xj_sld C hX hbl (fun h => absurd hbl (Nat.not_lt.mpr h)) g2 d_law_542 ?_
  refine xj_aload_n C d_law_543 rfl 0 rfl ?_
  refine xj_iload C d_law_544 4 rfl ?_
  refine xj_iconst (v := 3) C d_law_546 rfl ?_
  refine xj_iadd C d_law_547 ?_
  obtain ⟨g3, hf⟩ := xb_guard hf
  refine xj_sld C hX hbl (fun h => absurd hbl (Nat.not_lt.mpr h)) g3 d_law_548 ?_
  refine xj_aload_n C d_law_549 rfl 3 rfl ?_
  obtain ⟨o4, ho4, hf⟩ := xb_some hf
  refine xj_hcall (rest := []) (wf := WH ad ao cI cJ) (L := LH ad ao) (wr := WM am (cI, cZ) v) (st := (sc, ov)) C (xS_rf hF0) (fun q h => h) (c_Lw_run (cZ := cZ) N.1 hlt N.2.2.1 ho4) ⟨[0, 1, 2], rfl⟩ hw_84 (by decide) ⟨rfl, rfl⟩ rfl rfl (Nat.le_of_ble_eq_true rfl) d_law_550 (by show kc + 1 ≤ 669114; omega) (by show ks + 6 ≤ 7088763; omega) (fun q h => N.2.2.1 q h) (fun q h => N.2.2.2.2 q h) ?_
  refine xj_istore C d_law_553 (by decide) rfl ?_
  refine xj_aload_n C d_law_555 rfl 3 rfl ?_
  refine xj_aload_n C d_law_556 rfl 1 rfl ?_
  refine xj_iload C d_law_557 5 rfl ?_
  refine xj_iconst (v := 1) C d_law_559 rfl ?_
  refine xj_iadd C d_law_560 ?_
  obtain ⟨g5, hf⟩ := xb_guard hf
  refine xj_sld C hX hbl (fun h => absurd hbl (Nat.not_lt.mpr h)) g5 d_law_561 ?_
  refine xj_aload_n C d_law_562 rfl 1 rfl ?_
  refine xj_iload C d_law_563 5 rfl ?_
  refine xj_iconst (v := 2) C d_law_565 rfl ?_
  refine xj_iadd C d_law_566 ?_
  obtain ⟨g6, hf⟩ := xb_guard hf
  refine xj_sld C hX hbl (fun h => absurd hbl (Nat.not_lt.mpr h)) g6 d_law_567 ?_
  refine xj_aload_n C d_law_568 rfl 1 rfl ?_
  refine xj_iload C d_law_569 5 rfl ?_
  refine xj_iconst (v := 3) C d_law_571 rfl ?_
  refine xj_iadd C d_law_572 ?_
  obtain ⟨g7, hf⟩ := xb_guard hf
  refine xj_sld C hX hbl (fun h => absurd hbl (Nat.not_lt.mpr h)) g7 d_law_573 ?_
  obtain ⟨o8, ho8, hf⟩ := xb_some hf
  refine xj_swap ?_
  refine xj_fVi (rest := []) (wf := WM am (cI, cZ)) (L := LM am) (st := v) (wr := WH ad ao cI cJ (o4.2.1, o4.2.2)) C (c_Mo_run N.2.1 ho8) ⟨[0, 1], rfl⟩ Y_Mo_run i_Lw_86 0 rfl rfl (by decide) ⟨rfl, rfl⟩ rfl rfl (Nat.le_of_ble_eq_true rfl) d_law_574 (by show kc + 1 ≤ 669114; omega) (by show ks + 6 ≤ 7088763; omega) (fun q h => N.2.2.2.1 q h) (fun q h h2 => N.2.2.2.2 q h2 h) ?_
  refine xj_swap ?_
  refine xj_istore C d_law_577 (by decide) rfl ?_
  refine xj_aload_n C d_law_579 rfl 4 rfl ?_
  obtain ⟨o9, ho9, hf⟩ := xb_some hf
  refine xj_swap ?_
  refine xj_fVi (rest := []) (wf := WM am (cI, cZ)) (L := LM am) (st := o8.2) (wr := WH ad ao cI cJ (o4.2.1, o4.2.2)) C (c_Mo_thrown N.2.1 ho9) ⟨[0, 1], rfl⟩ Y_Mo_thrown i_Lw_56 0 rfl rfl (by decide) ⟨rfl, rfl⟩ rfl rfl (Nat.le_of_ble_eq_true rfl) d_law_580 (by show kc + 1 ≤ 669114; omega) (by show ks + 6 ≤ 7088763; omega) (fun q h => N.2.2.2.1 q h) (fun q h h2 => N.2.2.2.2 q h2 h) ?_
  refine xj_swap ?_
  refine xj_iload C d_law_583 1 rfl ?_
  refine xj_icmp_eq (tgt := 590) C d_law_585 (by decide) (fun h9 => ?_) (fun h9 => ?_)
  · have hf := xi_pos h9 hf
    refine xj_iload C d_law_590 1 rfl ?_
    refine xj_if_ne (tgt := 607) C d_law_592 (by decide) (fun h9 => ?_) (fun h9 => ?_)
    · have hf := xi_neg h9 hf
      refine xj_goto (tgt := 827) C d_law_607 (by decide) ?_
      exact xj_lv [2, 3, 4, 5, 6] rfl (w_law_827 C hr hX hbl hlt hF0 N n hK23 (kc + 1) (ks + 6) x4 o4.2.1 o4.2.2 o9.2 (by omega) hf)
    · have hf := xi_pos h9 hf
      refine xj_aload_n C d_law_595 rfl 5 rfl ?_
      refine xj_iconst (v := 0) C d_law_596 rfl ?_
      refine xj_lald C 31 2 rfl rfl (show xin 0 1 by decide) d_law_597 ?_
      refine xj_iload C d_law_598 0 rfl ?_
      refine xj_i2l (v := o8.1.toInt64) C d_law_600 rfl ?_
      refine xj_lcmp C d_law_601 ?_
      refine xj_if_eq (tgt := 607) C d_law_602 (by decide) (fun h9 => ?_) (fun h9 => ?_)
      · have hf := xi_pos h9 hf
        refine xj_goto (tgt := 827) C d_law_607 (by decide) ?_
        exact xj_lv [2, 3, 4, 5, 6] rfl (w_law_827 C hr hX hbl hlt hF0 N n hK23 (kc + 1) (ks + 6) x4 o4.2.1 o4.2.2 o9.2 (by omega) hf)
      · have hf := xi_neg h9 hf
        refine xj_iconst (v := 0) C d_law_605 rfl ?_
        exact absurd hf (by decide)
  · have hf := xi_neg h9 hf
    refine xj_iconst (v := 0) C d_law_588 rfl ?_
    exact absurd hf (by decide)
set_option maxHeartbeats 4000000 in
set_option maxRecDepth 20000 in
theorem w_law_c8 {p : Program} {l : Launch} {e : Env} {s : State} {m : MethodId} {b L : Nat} {xs : Nat → Int32} {below : List Frame} {meth : Method} {cd : Code} {D : va_G} {ad am : Nat → Nat} {ao : Nat} {cI cZ cJ : ClassId} (C : xC p s m #[Value.ref b] meth cd (fun q => s.heap.size ≤ q) D 7 (tyL cI cZ cJ) code R_Lw) (hr : meth.sig.returnType = ret) (hX : va_X b L xs s s.heap) (hbl : b < s.heap.size) (hlt : l.stackTraces = false) (hF0 : xF0 s) (N : lw_N ad am ao s) (n : Nat) {K23 : Int32 → St → (Nat → Int64) → St → Option Int32} (hK23 : ∀ (kc ks : Nat) (x4 : Int32) (sc : St) (ov : Nat → Int64) (v : St), kc + n ≤ 669114 ∧ ks + 6 * n ≤ 7088763 → K23 x4 sc ov v = some 1 → jL p l e s m b below meth cd kc ks D (WH ad ao cI cJ (sc, ov) ++ WM am (cI, cZ) v) [(0, .ref b), (1, .ref (ad 0)), (2, .ref (am 0)), (3, .ref ao), (4, .int x4)] 23 []) (kc ks : Nat) (x4 : Int32) (sc : St) (ov : Nat → Int64) (v : St) (hk : kc + 1 + n ≤ 669114 ∧ ks + 6 + 6 * n ≤ 7088763) (hf : f_law_c8 L xs K23 x4 sc ov v = some 1) : jL p l e s m b below meth cd kc ks D (WH ad ao cI cJ (sc, ov) ++ WM am (cI, cZ) v) [(0, .ref b), (1, .ref (ad 0)), (2, .ref (am 0)), (3, .ref ao), (4, .int x4)] 610 [] := by
  unfold f_law_c8 at hf
  refine xj_aload_n C d_law_610 rfl 1 rfl ?_
  refine xj_aload_n C d_law_611 rfl 0 rfl ?_
  refine xj_iload C d_law_612 4 rfl ?_
  refine xj_iconst (v := 1) C d_law_614 rfl ?_
  refine xj_iadd C d_law_615 ?_
  obtain ⟨g1, hf⟩ := xb_guard hf
  refine xj_sld C hX hbl (fun h => absurd hbl (Nat.not_lt.mpr h)) g1 d_law_616 ?_
  refine xj_aload_n C d_law_617 rfl 0 rfl ?_
  refine xj_iload C d_law_618 4 rfl ?_
  refine xj_iconst (v := 2) C d_law_620 rfl ?_
  refine xj_iadd C d_law_621 ?_
  obtain ⟨g2, hf⟩ := xb_guard hf
  refine xj_sld C hX hbl (fun h => absurd hbl (Nat.not_lt.mpr h)) g2 d_law_622 ?_
  refine xj_aload_n C d_law_623 rfl 3 rfl ?_
  obtain ⟨o3, ho3, hf⟩ := xb_some hf
  refine xj_hcall (rest := []) (wf := WH ad ao cI cJ) (L := LH ad ao) (wr := WM am (cI, cZ) v) (st := (sc, ov)) C (xS_rf hF0) (fun q h => h) (c_Lw_late (cZ := cZ) N.1 hlt N.2.2.1 ho3) ⟨[0, 1, 2], rfl⟩ hw_87 (by decide) ⟨rfl, rfl⟩ rfl rfl (Nat.le_of_ble_eq_true rfl) d_law_624 (by show kc + 1 ≤ 669114; omega) (by show ks + 6 ≤ 7088763; omega) (fun q h => N.2.2.1 q h) (fun q h => N.2.2.2.2 q h) ?_
  refine xj_istore C d_law_627 (by decide) rfl ?_
  refine xj_aload_n C d_law_629 rfl 3 rfl ?_
  refine xj_aload_n C d_law_630 rfl 1 rfl ?_
  refine xj_iload C d_law_631 5 rfl ?_
  refine xj_iconst (v := 1) C d_law_633 rfl ?_
  refine xj_iadd C d_law_634 ?_
  obtain ⟨g4, hf⟩ := xb_guard hf
  refine xj_sld C hX hbl (fun h => absurd hbl (Nat.not_lt.mpr h)) g4 d_law_635 ?_
  refine xj_aload_n C d_law_636 rfl 1 rfl ?_
  refine xj_iload C d_law_637 5 rfl ?_
  refine xj_iconst (v := 2) C d_law_639 rfl ?_
  refine xj_iadd C d_law_640 ?_
  obtain ⟨g5, hf⟩ := xb_guard hf
  refine xj_sld C hX hbl (fun h => absurd hbl (Nat.not_lt.mpr h)) g5 d_law_641 ?_
  obtain ⟨o6, ho6, hf⟩ := xb_some hf
  refine xj_swap ?_
  refine xj_fVi (rest := []) (wf := WM am (cI, cZ)) (L := LM am) (st := v) (wr := WH ad ao cI cJ (o3.2.1, o3.2.2)) C (c_Mo_late N.2.1 ho6) ⟨[0, 1], rfl⟩ Y_Mo_late i_Lw_89 0 rfl rfl (by decide) ⟨rfl, rfl⟩ rfl rfl (Nat.le_of_ble_eq_true rfl) d_law_642 (by show kc + 1 ≤ 669114; omega) (by show ks + 6 ≤ 7088763; omega) (fun q h => N.2.2.2.1 q h) (fun q h h2 => N.2.2.2.2 q h2 h) ?_
  refine xj_swap ?_
  refine xj_istore C d_law_645 (by decide) rfl ?_
  refine xj_aload_n C d_law_647 rfl 4 rfl ?_
  obtain ⟨o7, ho7, hf⟩ := xb_some hf
  refine xj_swap ?_
  refine xj_fVi (rest := []) (wf := WM am (cI, cZ)) (L := LM am) (st := o6.2) (wr := WH ad ao cI cJ (o3.2.1, o3.2.2)) C (c_Mo_thrown N.2.1 ho7) ⟨[0, 1], rfl⟩ Y_Mo_thrown i_Lw_56 0 rfl rfl (by decide) ⟨rfl, rfl⟩ rfl rfl (Nat.le_of_ble_eq_true rfl) d_law_648 (by show kc + 1 ≤ 669114; omega) (by show ks + 6 ≤ 7088763; omega) (fun q h => N.2.2.2.1 q h) (fun q h h2 => N.2.2.2.2 q h2 h) ?_
  refine xj_swap ?_
  refine xj_iload C d_law_651 1 rfl ?_
  refine xj_icmp_eq (tgt := 658) C d_law_653 (by decide) (fun h9 => ?_) (fun h9 => ?_)
  · have hf := xi_pos h9 hf
    refine xj_iload C d_law_658 1 rfl ?_
    refine xj_if_ne (tgt := 675) C d_law_660 (by decide) (fun h9 => ?_) (fun h9 => ?_)
    · have hf := xi_neg h9 hf
      refine xj_goto (tgt := 827) C d_law_675 (by decide) ?_
      exact xj_lv [2, 3, 4, 5, 6] rfl (w_law_827 C hr hX hbl hlt hF0 N n hK23 (kc + 1) (ks + 6) x4 o3.2.1 o3.2.2 o7.2 (by omega) hf)
    · have hf := xi_pos h9 hf
      refine xj_aload_n C d_law_663 rfl 5 rfl ?_
      refine xj_iconst (v := 0) C d_law_664 rfl ?_
      refine xj_lald C 31 2 rfl rfl (show xin 0 1 by decide) d_law_665 ?_
      refine xj_iload C d_law_666 0 rfl ?_
      refine xj_i2l (v := o6.1.toInt64) C d_law_668 rfl ?_
      refine xj_lcmp C d_law_669 ?_
      refine xj_if_eq (tgt := 675) C d_law_670 (by decide) (fun h9 => ?_) (fun h9 => ?_)
      · have hf := xi_pos h9 hf
        refine xj_goto (tgt := 827) C d_law_675 (by decide) ?_
        exact xj_lv [2, 3, 4, 5, 6] rfl (w_law_827 C hr hX hbl hlt hF0 N n hK23 (kc + 1) (ks + 6) x4 o3.2.1 o3.2.2 o7.2 (by omega) hf)
      · have hf := xi_neg h9 hf
        refine xj_iconst (v := 0) C d_law_673 rfl ?_
        exact absurd hf (by decide)
  · have hf := xi_neg h9 hf
    refine xj_iconst (v := 0) C d_law_656 rfl ?_
    exact absurd hf (by decide)
set_option maxHeartbeats 4000000 in
set_option maxRecDepth 20000 in
theorem w_law_c9 {p : Program} {l : Launch} {e : Env} {s : State} {m : MethodId} {b L : Nat} {xs : Nat → Int32} {below : List Frame} {meth : Method} {cd : Code} {D : va_G} {ad am : Nat → Nat} {ao : Nat} {cI cZ cJ : ClassId} (C : xC p s m #[Value.ref b] meth cd (fun q => s.heap.size ≤ q) D 7 (tyL cI cZ cJ) code R_Lw) (hr : meth.sig.returnType = ret) (hX : va_X b L xs s s.heap) (hbl : b < s.heap.size) (hlt : l.stackTraces = false) (hF0 : xF0 s) (N : lw_N ad am ao s) (n : Nat) {K23 : Int32 → St → (Nat → Int64) → St → Option Int32} (hK23 : ∀ (kc ks : Nat) (x4 : Int32) (sc : St) (ov : Nat → Int64) (v : St), kc + n ≤ 669114 ∧ ks + 6 * n ≤ 7088763 → K23 x4 sc ov v = some 1 → jL p l e s m b below meth cd kc ks D (WH ad ao cI cJ (sc, ov) ++ WM am (cI, cZ) v) [(0, .ref b), (1, .ref (ad 0)), (2, .ref (am 0)), (3, .ref ao), (4, .int x4)] 23 []) (kc ks : Nat) (x4 : Int32) (sc : St) (ov : Nat → Int64) (v : St) (hk : kc + 1 + n ≤ 669114 ∧ ks + 6 + 6 * n ≤ 7088763) (hf : f_law_c9 L xs K23 x4 sc ov v = some 1) : jL p l e s m b below meth cd kc ks D (WH ad ao cI cJ (sc, ov) ++ WM am (cI, cZ) v) [(0, .ref b), (1, .ref (ad 0)), (2, .ref (am 0)), (3, .ref ao), (4, .int x4)] 678 [] := by
  unfold f_law_c9 at hf
  refine xj_aload_n C d_law_678 rfl 1 rfl ?_
  refine xj_aload_n C d_law_679 rfl 0 rfl ?_
  refine xj_iload C d_law_680 4 rfl ?_
  refine xj_iconst (v := 1) C d_law_682 rfl ?_
  refine xj_iadd C d_law_683 ?_
  obtain ⟨g1, hf⟩ := xb_guard hf
  refine xj_sld C hX hbl (fun h => absurd hbl (Nat.not_lt.mpr h)) g1 d_law_684 ?_
  refine xj_aload_n C d_law_685 rfl 3 rfl ?_
  obtain ⟨o2, ho2, hf⟩ := xb_some hf
  refine xj_hcall (rest := []) (wf := WH ad ao cI cJ) (L := LH ad ao) (wr := WM am (cI, cZ) v) (st := (sc, ov)) C (xS_rf hF0) (fun q h => h) (c_Lw_home (cZ := cZ) N.1 hlt N.2.2.1 ho2) ⟨[0, 1, 2], rfl⟩ hw_90 (by decide) ⟨rfl, rfl⟩ rfl rfl (Nat.le_of_ble_eq_true rfl) d_law_686 (by show kc + 1 ≤ 669114; omega) (by show ks + 6 ≤ 7088763; omega) (fun q h => N.2.2.1 q h) (fun q h => N.2.2.2.2 q h) ?_
  refine xj_istore C d_law_689 (by decide) rfl ?_
  refine xj_aload_n C d_law_691 rfl 3 rfl ?_
  refine xj_aload_n C d_law_692 rfl 1 rfl ?_
  refine xj_iload C d_law_693 5 rfl ?_
  refine xj_iconst (v := 1) C d_law_695 rfl ?_
  refine xj_iadd C d_law_696 ?_
  obtain ⟨g3, hf⟩ := xb_guard hf
  refine xj_sld C hX hbl (fun h => absurd hbl (Nat.not_lt.mpr h)) g3 d_law_697 ?_
  obtain ⟨o4, ho4, hf⟩ := xb_some hf
  refine xj_swap ?_
  refine xj_fVi (rest := []) (wf := WM am (cI, cZ)) (L := LM am) (st := v) (wr := WH ad ao cI cJ (o2.2.1, o2.2.2)) C (c_Mo_home N.2.1 ho4) ⟨[0, 1], rfl⟩ Y_Mo_home i_Lw_93 0 rfl rfl (by decide) ⟨rfl, rfl⟩ rfl rfl (Nat.le_of_ble_eq_true rfl) d_law_698 (by show kc + 1 ≤ 669114; omega) (by show ks + 6 ≤ 7088763; omega) (fun q h => N.2.2.2.1 q h) (fun q h h2 => N.2.2.2.2 q h2 h) ?_
  refine xj_swap ?_
  refine xj_istore C d_law_701 (by decide) rfl ?_
  refine xj_aload_n C d_law_703 rfl 4 rfl ?_
  obtain ⟨o5, ho5, hf⟩ := xb_some hf
  refine xj_swap ?_
  refine xj_fVi (rest := []) (wf := WM am (cI, cZ)) (L := LM am) (st := o4.2) (wr := WH ad ao cI cJ (o2.2.1, o2.2.2)) C (c_Mo_thrown N.2.1 ho5) ⟨[0, 1], rfl⟩ Y_Mo_thrown i_Lw_56 0 rfl rfl (by decide) ⟨rfl, rfl⟩ rfl rfl (Nat.le_of_ble_eq_true rfl) d_law_704 (by show kc + 1 ≤ 669114; omega) (by show ks + 6 ≤ 7088763; omega) (fun q h => N.2.2.2.1 q h) (fun q h h2 => N.2.2.2.2 q h2 h) ?_
  refine xj_swap ?_
  refine xj_iload C d_law_707 1 rfl ?_
  refine xj_icmp_eq (tgt := 714) C d_law_709 (by decide) (fun h9 => ?_) (fun h9 => ?_)
  · have hf := xi_pos h9 hf
    refine xj_iload C d_law_714 1 rfl ?_
    refine xj_if_ne (tgt := 731) C d_law_716 (by decide) (fun h9 => ?_) (fun h9 => ?_)
    · have hf := xi_neg h9 hf
      refine xj_goto (tgt := 827) C d_law_731 (by decide) ?_
      exact xj_lv [2, 3, 4, 5, 6] rfl (w_law_827 C hr hX hbl hlt hF0 N n hK23 (kc + 1) (ks + 6) x4 o2.2.1 o2.2.2 o5.2 (by omega) hf)
    · have hf := xi_pos h9 hf
      refine xj_aload_n C d_law_719 rfl 5 rfl ?_
      refine xj_iconst (v := 0) C d_law_720 rfl ?_
      refine xj_lald C 31 2 rfl rfl (show xin 0 1 by decide) d_law_721 ?_
      refine xj_iload C d_law_722 0 rfl ?_
      refine xj_i2l (v := o4.1.toInt64) C d_law_724 rfl ?_
      refine xj_lcmp C d_law_725 ?_
      refine xj_if_eq (tgt := 731) C d_law_726 (by decide) (fun h9 => ?_) (fun h9 => ?_)
      · have hf := xi_pos h9 hf
        refine xj_goto (tgt := 827) C d_law_731 (by decide) ?_
        exact xj_lv [2, 3, 4, 5, 6] rfl (w_law_827 C hr hX hbl hlt hF0 N n hK23 (kc + 1) (ks + 6) x4 o2.2.1 o2.2.2 o5.2 (by omega) hf)
      · have hf := xi_neg h9 hf
        refine xj_iconst (v := 0) C d_law_729 rfl ?_
        exact absurd hf (by decide)
  · have hf := xi_neg h9 hf
    refine xj_iconst (v := 0) C d_law_712 rfl ?_
    exact absurd hf (by decide)
set_option maxHeartbeats 4000000 in
set_option maxRecDepth 20000 in
theorem w_law_c10 {p : Program} {l : Launch} {e : Env} {s : State} {m : MethodId} {b L : Nat} {xs : Nat → Int32} {below : List Frame} {meth : Method} {cd : Code} {D : va_G} {ad am : Nat → Nat} {ao : Nat} {cI cZ cJ : ClassId} (C : xC p s m #[Value.ref b] meth cd (fun q => s.heap.size ≤ q) D 7 (tyL cI cZ cJ) code R_Lw) (hr : meth.sig.returnType = ret) (hX : va_X b L xs s s.heap) (hbl : b < s.heap.size) (hlt : l.stackTraces = false) (hF0 : xF0 s) (N : lw_N ad am ao s) (n : Nat) {K23 : Int32 → St → (Nat → Int64) → St → Option Int32} (hK23 : ∀ (kc ks : Nat) (x4 : Int32) (sc : St) (ov : Nat → Int64) (v : St), kc + n ≤ 669114 ∧ ks + 6 * n ≤ 7088763 → K23 x4 sc ov v = some 1 → jL p l e s m b below meth cd kc ks D (WH ad ao cI cJ (sc, ov) ++ WM am (cI, cZ) v) [(0, .ref b), (1, .ref (ad 0)), (2, .ref (am 0)), (3, .ref ao), (4, .int x4)] 23 []) (kc ks : Nat) (x4 : Int32) (sc : St) (ov : Nat → Int64) (v : St) (hk : kc + 1 + n ≤ 669114 ∧ ks + 6 + 6 * n ≤ 7088763) (hf : f_law_c10 L xs K23 x4 sc ov v = some 1) : jL p l e s m b below meth cd kc ks D (WH ad ao cI cJ (sc, ov) ++ WM am (cI, cZ) v) [(0, .ref b), (1, .ref (ad 0)), (2, .ref (am 0)), (3, .ref ao), (4, .int x4)] 734 [] := by
  unfold f_law_c10 at hf
  refine xj_aload_n C d_law_734 rfl 1 rfl ?_
  refine xj_aload_n C d_law_735 rfl 0 rfl ?_
  refine xj_iload C d_law_736 4 rfl ?_
  refine xj_iconst (v := 1) C d_law_738 rfl ?_
  refine xj_iadd C d_law_739 ?_
  obtain ⟨g1, hf⟩ := xb_guard hf
  refine xj_sld C hX hbl (fun h => absurd hbl (Nat.not_lt.mpr h)) g1 d_law_740 ?_
  refine xj_aload_n C d_law_741 rfl 0 rfl ?_
  refine xj_iload C d_law_742 4 rfl ?_
  refine xj_iconst (v := 2) C d_law_744 rfl ?_
  refine xj_iadd C d_law_745 ?_
  obtain ⟨g2, hf⟩ := xb_guard hf
  refine xj_sld C hX hbl (fun h => absurd hbl (Nat.not_lt.mpr h)) g2 d_law_746 ?_
  refine xj_aload_n C d_law_747 rfl 3 rfl ?_
  obtain ⟨o3, ho3, hf⟩ := xb_some hf
  refine xj_hcall (rest := []) (wf := WH ad ao cI cJ) (L := LH ad ao) (wr := WM am (cI, cZ) v) (st := (sc, ov)) C (xS_rf hF0) (fun q h => h) (c_Lw_rate (cZ := cZ) N.1 hlt N.2.2.1 ho3) ⟨[0, 1, 2], rfl⟩ hw_94 (by decide) ⟨rfl, rfl⟩ rfl rfl (Nat.le_of_ble_eq_true rfl) d_law_748 (by show kc + 1 ≤ 669114; omega) (by show ks + 6 ≤ 7088763; omega) (fun q h => N.2.2.1 q h) (fun q h => N.2.2.2.2 q h) ?_
  refine xj_istore C d_law_751 (by decide) rfl ?_
  refine xj_aload_n C d_law_753 rfl 3 rfl ?_
  refine xj_aload_n C d_law_754 rfl 1 rfl ?_
  refine xj_iload C d_law_755 5 rfl ?_
  refine xj_iconst (v := 1) C d_law_757 rfl ?_
  refine xj_iadd C d_law_758 ?_
  obtain ⟨g4, hf⟩ := xb_guard hf
  refine xj_sld C hX hbl (fun h => absurd hbl (Nat.not_lt.mpr h)) g4 d_law_759 ?_
  refine xj_aload_n C d_law_760 rfl 1 rfl ?_
  refine xj_iload C d_law_761 5 rfl ?_
  refine xj_iconst (v := 2) C d_law_763 rfl ?_
  refine xj_iadd C d_law_764 ?_
  obtain ⟨g5, hf⟩ := xb_guard hf
  refine xj_sld C hX hbl (fun h => absurd hbl (Nat.not_lt.mpr h)) g5 d_law_765 ?_
  obtain ⟨o6, ho6, hf⟩ := xb_some hf
  refine xj_swap ?_
  refine xj_fVi (rest := []) (wf := WM am (cI, cZ)) (L := LM am) (st := v) (wr := WH ad ao cI cJ (o3.2.1, o3.2.2)) C (c_Mo_rate N.2.1 ho6) ⟨[0, 1], rfl⟩ Y_Mo_rate i_Lw_96 0 rfl rfl (by decide) ⟨rfl, rfl⟩ rfl rfl (Nat.le_of_ble_eq_true rfl) d_law_766 (by show kc + 1 ≤ 669114; omega) (by show ks + 6 ≤ 7088763; omega) (fun q h => N.2.2.2.1 q h) (fun q h h2 => N.2.2.2.2 q h2 h) ?_
  refine xj_swap ?_
  refine xj_istore C d_law_769 (by decide) rfl ?_
  refine xj_aload_n C d_law_771 rfl 4 rfl ?_
  obtain ⟨o7, ho7, hf⟩ := xb_some hf
  refine xj_swap ?_
  refine xj_fVi (rest := []) (wf := WM am (cI, cZ)) (L := LM am) (st := o6.2) (wr := WH ad ao cI cJ (o3.2.1, o3.2.2)) C (c_Mo_thrown N.2.1 ho7) ⟨[0, 1], rfl⟩ Y_Mo_thrown i_Lw_56 0 rfl rfl (by decide) ⟨rfl, rfl⟩ rfl rfl (Nat.le_of_ble_eq_true rfl) d_law_772 (by show kc + 1 ≤ 669114; omega) (by show ks + 6 ≤ 7088763; omega) (fun q h => N.2.2.2.1 q h) (fun q h h2 => N.2.2.2.2 q h2 h) ?_
  refine xj_swap ?_
  refine xj_iload C d_law_775 1 rfl ?_
  refine xj_icmp_eq (tgt := 782) C d_law_777 (by decide) (fun h9 => ?_) (fun h9 => ?_)
  · have hf := xi_pos h9 hf
    refine xj_iload C d_law_782 1 rfl ?_
    refine xj_if_ne (tgt := 799) C d_law_784 (by decide) (fun h9 => ?_) (fun h9 => ?_)
    · have hf := xi_neg h9 hf
      refine xj_goto (tgt := 827) C d_law_799 (by decide) ?_
      exact xj_lv [2, 3, 4, 5, 6] rfl (w_law_827 C hr hX hbl hlt hF0 N n hK23 (kc + 1) (ks + 6) x4 o3.2.1 o3.2.2 o7.2 (by omega) hf)
    · have hf := xi_pos h9 hf
      refine xj_aload_n C d_law_787 rfl 5 rfl ?_
      refine xj_iconst (v := 0) C d_law_788 rfl ?_
      refine xj_lald C 31 2 rfl rfl (show xin 0 1 by decide) d_law_789 ?_
      refine xj_iload C d_law_790 0 rfl ?_
      refine xj_i2l (v := o6.1.toInt64) C d_law_792 rfl ?_
      refine xj_lcmp C d_law_793 ?_
      refine xj_if_eq (tgt := 799) C d_law_794 (by decide) (fun h9 => ?_) (fun h9 => ?_)
      · have hf := xi_pos h9 hf
        refine xj_goto (tgt := 827) C d_law_799 (by decide) ?_
        exact xj_lv [2, 3, 4, 5, 6] rfl (w_law_827 C hr hX hbl hlt hF0 N n hK23 (kc + 1) (ks + 6) x4 o3.2.1 o3.2.2 o7.2 (by omega) hf)
      · have hf := xi_neg h9 hf
        refine xj_iconst (v := 0) C d_law_797 rfl ?_
        exact absurd hf (by decide)
  · have hf := xi_neg h9 hf
    refine xj_iconst (v := 0) C d_law_780 rfl ?_
    exact absurd hf (by decide)
set_option maxHeartbeats 4000000 in
set_option maxRecDepth 20000 in
theorem w_law_c11 {p : Program} {l : Launch} {e : Env} {s : State} {m : MethodId} {b L : Nat} {xs : Nat → Int32} {below : List Frame} {meth : Method} {cd : Code} {D : va_G} {ad am : Nat → Nat} {ao : Nat} {cI cZ cJ : ClassId} (C : xC p s m #[Value.ref b] meth cd (fun q => s.heap.size ≤ q) D 7 (tyL cI cZ cJ) code R_Lw) (hr : meth.sig.returnType = ret) (hX : va_X b L xs s s.heap) (hbl : b < s.heap.size) (hlt : l.stackTraces = false) (hF0 : xF0 s) (N : lw_N ad am ao s) (n : Nat) {K23 : Int32 → St → (Nat → Int64) → St → Option Int32} (hK23 : ∀ (kc ks : Nat) (x4 : Int32) (sc : St) (ov : Nat → Int64) (v : St), kc + n ≤ 669114 ∧ ks + 6 * n ≤ 7088763 → K23 x4 sc ov v = some 1 → jL p l e s m b below meth cd kc ks D (WH ad ao cI cJ (sc, ov) ++ WM am (cI, cZ) v) [(0, .ref b), (1, .ref (ad 0)), (2, .ref (am 0)), (3, .ref ao), (4, .int x4)] 23 []) (kc ks : Nat) (x4 : Int32) (sc : St) (ov : Nat → Int64) (v : St) (hk : kc + 1 + n ≤ 669114 ∧ ks + 6 + 6 * n ≤ 7088763) (hf : f_law_c11 L xs K23 x4 sc ov v = some 1) : jL p l e s m b below meth cd kc ks D (WH ad ao cI cJ (sc, ov) ++ WM am (cI, cZ) v) [(0, .ref b), (1, .ref (ad 0)), (2, .ref (am 0)), (3, .ref ao), (4, .int x4)] 802 [] := by
  unfold f_law_c11 at hf
  refine xj_aload_n C d_law_802 rfl 1 rfl ?_
  refine xj_aload_n C d_law_803 rfl 0 rfl ?_
  refine xj_iload C d_law_804 4 rfl ?_
  refine xj_iconst (v := 1) C d_law_806 rfl ?_
  refine xj_iadd C d_law_807 ?_
  obtain ⟨g1, hf⟩ := xb_guard hf
  refine xj_sld C hX hbl (fun h => absurd hbl (Nat.not_lt.mpr h)) g1 d_law_808 ?_
  obtain ⟨o2, ho2, hf⟩ := xb_some hf
  refine xj_ws (ws' := WC ad cI sc ++ WR am ao cI cZ cJ ov v) WL_eq ?_
  refine xj_fVi (rest := []) (wf := WC ad cI) (L := LC ad) (st := sc) (wr := WR am ao cI cZ cJ ov v) C (c_LR_count (LH_C N.1).1 ho2) ⟨[0], rfl⟩ Y_LR_count i_Lw_97 0 rfl rfl (by decide) ⟨rfl, rfl⟩ rfl rfl (Nat.le_of_ble_eq_true rfl) d_law_809 (by show kc ≤ 669114; omega) (by show ks ≤ 7088763; omega) (fun q h => N.2.2.1 q (List.mem_append_left _ h)) (lw_dis1 N) ?_
  refine xj_ws (ws' := WH ad ao cI cJ (o2.2, ov) ++ WM am (cI, cZ) v) WL_eq.symm ?_
  refine xj_aload_n C d_law_812 rfl 2 rfl ?_
  refine xj_aload_n C d_law_813 rfl 0 rfl ?_
  refine xj_iload C d_law_814 4 rfl ?_
  refine xj_iconst (v := 1) C d_law_816 rfl ?_
  refine xj_iadd C d_law_817 ?_
  obtain ⟨g3, hf⟩ := xb_guard hf
  refine xj_sld C hX hbl (fun h => absurd hbl (Nat.not_lt.mpr h)) g3 d_law_818 ?_
  obtain ⟨o4, ho4, hf⟩ := xb_some hf
  refine xj_swap ?_
  refine xj_fVi (rest := [.int o2.1]) (wf := WM am (cI, cZ)) (L := LM am) (st := v) (wr := WH ad ao cI cJ (o2.2, ov)) C (c_Mo_count N.2.1 ho4) ⟨[0, 1], rfl⟩ Y_Mo_count i_Lw_100 0 rfl rfl (by decide) ⟨rfl, rfl⟩ rfl rfl (Nat.le_of_ble_eq_true rfl) d_law_819 (by show kc ≤ 669114; omega) (by show ks ≤ 7088763; omega) (fun q h => N.2.2.2.1 q h) (fun q h h2 => N.2.2.2.2 q h2 h) ?_
  refine xj_swap ?_
  refine xj_icmp_eq (tgt := 827) C d_law_822 (by decide) (fun h9 => ?_) (fun h9 => ?_)
  · have hf := xi_pos h9 hf
    exact xj_lv [0, 1, 2, 3, 4] rfl (w_law_827 C hr hX hbl hlt hF0 N n hK23 (kc) (ks) x4 o2.2 ov o4.2 (by omega) hf)
  · have hf := xi_neg h9 hf
    refine xj_iconst (v := 0) C d_law_825 rfl ?_
    exact absurd hf (by decide)
set_option maxHeartbeats 4000000 in
set_option maxRecDepth 20000 in
theorem wb_law_23 {p : Program} {l : Launch} {e : Env} {s : State} {m : MethodId} {b L : Nat} {xs : Nat → Int32} {below : List Frame} {meth : Method} {cd : Code} {D : va_G} {ad am : Nat → Nat} {ao : Nat} {cI cZ cJ : ClassId} (C : xC p s m #[Value.ref b] meth cd (fun q => s.heap.size ≤ q) D 7 (tyL cI cZ cJ) code R_Lw) (hr : meth.sig.returnType = ret) (hX : va_X b L xs s s.heap) (hbl : b < s.heap.size) (hlt : l.stackTraces = false) (hF0 : xF0 s) (N : lw_N ad am ao s) (n : Nat) {K23 : Int32 → St → (Nat → Int64) → St → Option Int32} (hK23 : ∀ (kc ks : Nat) (x4 : Int32) (sc : St) (ov : Nat → Int64) (v : St), kc + n ≤ 669114 ∧ ks + 6 * n ≤ 7088763 → K23 x4 sc ov v = some 1 → jL p l e s m b below meth cd kc ks D (WH ad ao cI cJ (sc, ov) ++ WM am (cI, cZ) v) [(0, .ref b), (1, .ref (ad 0)), (2, .ref (am 0)), (3, .ref ao), (4, .int x4)] 23 []) (kc ks : Nat) (x4 : Int32) (sc : St) (ov : Nat → Int64) (v : St) (hk : kc + 1 + n ≤ 669114 ∧ ks + 6 + 6 * n ≤ 7088763) (hf : b_law_23 L xs K23 x4 sc ov v = some 1) : jL p l e s m b below meth cd kc ks D (WH ad ao cI cJ (sc, ov) ++ WM am (cI, cZ) v) [(0, .ref b), (1, .ref (ad 0)), (2, .ref (am 0)), (3, .ref ao), (4, .int x4)] 23 [] := by
  unfold b_law_23 at hf
  refine xj_iload C d_law_23 4 rfl ?_
  refine xj_aload_n C d_law_25 rfl 0 rfl ?_
  refine xj_slen C hX hbl (fun h => absurd hbl (Nat.not_lt.mpr h)) d_law_26 ?_
  refine xj_bipush (v := 6) C d_law_27 rfl ?_
  refine xj_isub C d_law_29 ?_
  refine xj_icmp_gt (tgt := 833) C d_law_30 (by decide) (fun h9 => ?_) (fun h9 => ?_)
  · have hf := xi_pos h9 hf
    refine xj_iconst (v := 1) C d_law_833 rfl ?_
    exact xj_lw1 C hr (by omega) d_law_834
  · have hf := xi_neg h9 hf
    refine xj_aload_n C d_law_33 rfl 0 rfl ?_
    refine xj_iload C d_law_34 4 rfl ?_
    obtain ⟨g1, hf⟩ := xb_guard hf
    refine xj_sld C hX hbl (fun h => absurd hbl (Nat.not_lt.mpr h)) g1 d_law_36 ?_
    refine xj_bipush (v := 15) C d_law_37 rfl ?_
    refine xj_iand C d_law_39 ?_
    by_cases h09 : ((xs x4.toNatClampNeg) &&& 15) = 0
    · have hf := xi_pos h09 hf
      refine xj_tableIn (tgt := 104) C d_law_40 (by rw [h09]; decide) (by rw [h09]; decide) (by rw [h09]; rfl) (by decide) ?_
      exact w_law_c0 C hr hX hbl hlt hF0 N n hK23 kc ks x4 sc ov v hk hf
    have hf := xi_neg h09 hf
    by_cases h19 : ((xs x4.toNatClampNeg) &&& 15) = 1
    · have hf := xi_pos h19 hf
      refine xj_tableIn (tgt := 184) C d_law_40 (by rw [h19]; decide) (by rw [h19]; decide) (by rw [h19]; rfl) (by decide) ?_
      exact w_law_c1 C hr hX hbl hlt hF0 N n hK23 kc ks x4 sc ov v hk hf
    have hf := xi_neg h19 hf
    by_cases h29 : ((xs x4.toNatClampNeg) &&& 15) = 2
    · have hf := xi_pos h29 hf
      refine xj_tableIn (tgt := 288) C d_law_40 (by rw [h29]; decide) (by rw [h29]; decide) (by rw [h29]; rfl) (by decide) ?_
      exact w_law_c2 C hr hX hbl hlt hF0 N n hK23 kc ks x4 sc ov v hk hf
    have hf := xi_neg h29 hf
    by_cases h39 : ((xs x4.toNatClampNeg) &&& 15) = 3
    · have hf := xi_pos h39 hf
      refine xj_tableIn (tgt := 337) C d_law_40 (by rw [h39]; decide) (by rw [h39]; decide) (by rw [h39]; rfl) (by decide) ?_
      exact w_law_c3 C hr hX hbl hlt hF0 N n hK23 kc ks x4 sc ov v hk hf
    have hf := xi_neg h39 hf
    by_cases h49 : ((xs x4.toNatClampNeg) &&& 15) = 4
    · have hf := xi_pos h49 hf
      refine xj_tableIn (tgt := 374) C d_law_40 (by rw [h49]; decide) (by rw [h49]; decide) (by rw [h49]; rfl) (by decide) ?_
      exact w_law_c4 C hr hX hbl hlt hF0 N n hK23 kc ks x4 sc ov v hk hf
    have hf := xi_neg h49 hf
    by_cases h59 : ((xs x4.toNatClampNeg) &&& 15) = 5
    · have hf := xi_pos h59 hf
      refine xj_tableIn (tgt := 387) C d_law_40 (by rw [h59]; decide) (by rw [h59]; decide) (by rw [h59]; rfl) (by decide) ?_
      exact w_law_c5 C hr hX hbl hlt hF0 N n hK23 kc ks x4 sc ov v hk hf
    have hf := xi_neg h59 hf
    by_cases h69 : ((xs x4.toNatClampNeg) &&& 15) = 6
    · have hf := xi_pos h69 hf
      refine xj_tableIn (tgt := 462) C d_law_40 (by rw [h69]; decide) (by rw [h69]; decide) (by rw [h69]; rfl) (by decide) ?_
      exact w_law_c6 C hr hX hbl hlt hF0 N n hK23 kc ks x4 sc ov v hk hf
    have hf := xi_neg h69 hf
    by_cases h79 : ((xs x4.toNatClampNeg) &&& 15) = 7
    · have hf := xi_pos h79 hf
      refine xj_tableIn (tgt := 530) C d_law_40 (by rw [h79]; decide) (by rw [h79]; decide) (by rw [h79]; rfl) (by decide) ?_
      exact w_law_c7 C hr hX hbl hlt hF0 N n hK23 kc ks x4 sc ov v hk hf
    have hf := xi_neg h79 hf
    by_cases h89 : ((xs x4.toNatClampNeg) &&& 15) = 8
    · have hf := xi_pos h89 hf
      refine xj_tableIn (tgt := 610) C d_law_40 (by rw [h89]; decide) (by rw [h89]; decide) (by rw [h89]; rfl) (by decide) ?_
      exact w_law_c8 C hr hX hbl hlt hF0 N n hK23 kc ks x4 sc ov v hk hf
    have hf := xi_neg h89 hf
    by_cases h99 : ((xs x4.toNatClampNeg) &&& 15) = 9
    · have hf := xi_pos h99 hf
      refine xj_tableIn (tgt := 678) C d_law_40 (by rw [h99]; decide) (by rw [h99]; decide) (by rw [h99]; rfl) (by decide) ?_
      exact w_law_c9 C hr hX hbl hlt hF0 N n hK23 kc ks x4 sc ov v hk hf
    have hf := xi_neg h99 hf
    by_cases h109 : ((xs x4.toNatClampNeg) &&& 15) = 10
    · have hf := xi_pos h109 hf
      refine xj_tableIn (tgt := 734) C d_law_40 (by rw [h109]; decide) (by rw [h109]; decide) (by rw [h109]; rfl) (by decide) ?_
      exact w_law_c10 C hr hX hbl hlt hF0 N n hK23 kc ks x4 sc ov v hk hf
    have hf := xi_neg h109 hf
    by_cases h119 : ((xs x4.toNatClampNeg) &&& 15) = 11
    · have hf := xi_pos h119 hf
      refine xj_tableIn (tgt := 802) C d_law_40 (by rw [h119]; decide) (by rw [h119]; decide) (by rw [h119]; rfl) (by decide) ?_
      exact w_law_c11 C hr hX hbl hlt hF0 N n hK23 kc ks x4 sc ov v hk hf
    have hf := xi_neg h119 hf
    refine xj_tableOut (tgt := 827) C d_law_40 (xsw_out 12 (by decide) (fun k hk => by rcases xlt_12 hk with rfl | rfl | rfl | rfl | rfl | rfl | rfl | rfl | rfl | rfl | rfl | rfl <;> assumption)) (by decide) ?_
    exact xj_lv [0, 1, 2, 3, 4] rfl (w_law_827 C hr hX hbl hlt hF0 N n hK23 (kc) (ks) x4 sc ov v (by omega) hf)
theorem w_law_23 {p : Program} {l : Launch} {e : Env} {s : State} {m : MethodId} {b L : Nat} {xs : Nat → Int32} {below : List Frame} {meth : Method} {cd : Code} {D : va_G} {ad am : Nat → Nat} {ao : Nat} {cI cZ cJ : ClassId} (C : xC p s m #[Value.ref b] meth cd (fun q => s.heap.size ≤ q) D 7 (tyL cI cZ cJ) code R_Lw) (hr : meth.sig.returnType = ret) (hX : va_X b L xs s s.heap) (hbl : b < s.heap.size) (hlt : l.stackTraces = false) (hF0 : xF0 s) (N : lw_N ad am ao s) (n : Nat) : ∀ (kc ks : Nat) (x4 : Int32) (sc : St) (ov : Nat → Int64) (v : St), kc + n ≤ 669114 ∧ ks + 6 * n ≤ 7088763 → f_law_23 L xs n x4 sc ov v = some 1 → jL p l e s m b below meth cd kc ks D (WH ad ao cI cJ (sc, ov) ++ WM am (cI, cZ) v) [(0, .ref b), (1, .ref (ad 0)), (2, .ref (am 0)), (3, .ref ao), (4, .int x4)] 23 [] := by
  induction n with
  | zero => intro kc ks x4 sc ov v hk hf; exact absurd (show (none : Option Int32) = some 1 from hf) (fun h => by cases h)
  | succ n ih => intro kc ks x4 sc ov v hk hf; exact wb_law_23 C hr hX hbl hlt hF0 N n ih kc ks x4 sc ov v (by omega) hf
