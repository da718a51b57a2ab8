/-- the addresses of the law's world: apart, and all of them new -/
def lw_N (ad am : Nat → Nat) (ao : Nat) (s : State) : Prop := (LH ad ao).Nodup ∧ (LM am).Nodup ∧ (∀ q ∈ LH ad ao, s.heap.size ≤ q) ∧ (∀ q ∈ LM am, s.heap.size ≤ q) ∧ ∀ q ∈ LM am, q ∉ LH ad ao
theorem xS_rf {s : State} (h : xF0 s) : xS s s := ⟨State.WarmedH.refl s, fun _ _ => rfl, h⟩
/-- the law's world without the class's -/
def WR (am : Nat → Nat) (ao : Nat) (cI cZ cJ : ClassId) (ov : Nat → Int64) (v : St) : va_W := [(ao, .inl (cJ, 1, .inr (.inl ov)))] ++ WM am (cI, cZ) v
theorem WL_eq {ad am : Nat → Nat} {ao : Nat} {cI cZ cJ : ClassId} {sc : St} {ov : Nat → Int64} {v : St} : WH ad ao cI cJ (sc, ov) ++ WM am (cI, cZ) v = WC ad cI sc ++ WR am ao cI cZ cJ ov v := List.append_assoc _ _ _
theorem lw_dis1 {ad am : Nat → Nat} {ao : Nat} {s : State} {cI cZ cJ : ClassId} {ov : Nat → Int64} {v : St} (N : lw_N ad am ao s) : ∀ a ∈ (WR am ao cI cZ cJ ov v).map (·.1), a ∉ LC ad := by
  intro a ha
  unfold WR at ha
  rw [List.map_append] at ha
  rcases List.mem_append.mp ha with h | h
  · rw [List.mem_singleton.mp h]; exact (LH_C N.1).2
  · exact fun h2 => N.2.2.2.2 a h (List.mem_append_left _ h2)
theorem xlt_12 {k : Nat} (h : k < 12) : k = 0 ∨ k = 1 ∨ k = 2 ∨ k = 3 ∨ k = 4 ∨ k = 5 ∨ k = 6 ∨ k = 7 ∨ k = 8 ∨ k = 9 ∨ k = 10 ∨ k = 11 := by omega
abbrev jL (p : Program) (l : Launch) (e : Env) (s : State) (m : MethodId) (b : Nat) (below : List Frame) (meth : Method) (cd : Code) (kc ks : Nat) (D : va_G) (ws : va_W) (lv : List (Nat × Value)) (pc : Nat) (st : List Value) : Prop := xJ p l e room_1 s m #[Value.ref b] below meth cd kc ks (lw_Z below #[Value.ref b] s) (fun q => s.heap.size ≤ q) D 7 ws lv pc st
theorem d_law_0 : decode code 0 = .ok (.new 8, 3) := by decide +kernel
theorem d_law_3 : decode code 3 = .ok (.dup, 1) := by decide +kernel
theorem d_law_4 : decode code 4 = .ok (.invokespecial 46, 3) := by decide +kernel
theorem d_law_7 : decode code 7 = .ok (.astore_n 1, 1) := by decide +kernel
theorem d_law_8 : decode code 8 = .ok (.new 47, 3) := by decide +kernel
theorem d_law_11 : decode code 11 = .ok (.dup, 1) := by decide +kernel
theorem d_law_12 : decode code 12 = .ok (.invokespecial 49, 3) := by decide +kernel
theorem d_law_15 : decode code 15 = .ok (.astore_n 2, 1) := by decide +kernel
theorem d_law_16 : decode code 16 = .ok (.iconst 1, 1) := by decide +kernel
theorem d_law_17 : decode code 17 = .ok (.newarray .long, 2) := by decide +kernel
theorem d_law_19 : decode code 19 = .ok (.astore_n 3, 1) := by decide +kernel
theorem d_law_20 : decode code 20 = .ok (.iconst 0, 1) := by decide +kernel
theorem d_law_21 : decode code 21 = .ok (.istore 4, 2) := by decide +kernel
theorem d_law_23 : decode code 23 = .ok (.iload 4, 2) := by decide +kernel
theorem d_law_25 : decode code 25 = .ok (.aload_n 0, 1) := by decide +kernel
theorem d_law_26 : decode code 26 = .ok (.arraylength, 1) := by decide +kernel
theorem d_law_27 : decode code 27 = .ok (.bipush 6, 2) := by decide +kernel
theorem d_law_29 : decode code 29 = .ok (.isub, 1) := by decide +kernel
theorem d_law_30 : decode code 30 = .ok (.if_icmp .gt 803, 3) := by decide +kernel
theorem d_law_33 : decode code 33 = .ok (.aload_n 0, 1) := by decide +kernel
theorem d_law_34 : decode code 34 = .ok (.iload 4, 2) := by decide +kernel
theorem d_law_36 : decode code 36 = .ok (.iaload, 1) := by decide +kernel
theorem d_law_37 : decode code 37 = .ok (.bipush 15, 2) := by decide +kernel
theorem d_law_39 : decode code 39 = .ok (.iand, 1) := by decide +kernel
theorem d_law_40 : decode code 40 = .ok (.tableswitch 787 0 11 #[64, 144, 248, 297, 334, 347, 422, 490, 570, 638, 694, 762], 64) := by decide +kernel
theorem d_law_104 : decode code 104 = .ok (.aload_n 1, 1) := by decide +kernel
theorem d_law_105 : decode code 105 = .ok (.aload_n 0, 1) := by decide +kernel
theorem d_law_106 : decode code 106 = .ok (.iload 4, 2) := by decide +kernel
theorem d_law_108 : decode code 108 = .ok (.iconst 1, 1) := by decide +kernel
theorem d_law_109 : decode code 109 = .ok (.iadd, 1) := by decide +kernel
theorem d_law_110 : decode code 110 = .ok (.iaload, 1) := by decide +kernel
theorem d_law_111 : decode code 111 = .ok (.aload_n 0, 1) := by decide +kernel
theorem d_law_112 : decode code 112 = .ok (.iload 4, 2) := by decide +kernel
theorem d_law_114 : decode code 114 = .ok (.iconst 2, 1) := by decide +kernel
theorem d_law_115 : decode code 115 = .ok (.iadd, 1) := by decide +kernel
theorem d_law_116 : decode code 116 = .ok (.iaload, 1) := by decide +kernel
theorem d_law_117 : decode code 117 = .ok (.aload_n 0, 1) := by decide +kernel
theorem d_law_118 : decode code 118 = .ok (.iload 4, 2) := by decide +kernel
theorem d_law_120 : decode code 120 = .ok (.iconst 3, 1) := by decide +kernel
theorem d_law_121 : decode code 121 = .ok (.iadd, 1) := by decide +kernel
theorem d_law_122 : decode code 122 = .ok (.iaload, 1) := by decide +kernel
theorem d_law_123 : decode code 123 = .ok (.aload_n 3, 1) := by decide +kernel
theorem d_law_124 : decode code 124 = .ok (.invokestatic 50, 3) := by decide +kernel
theorem d_law_127 : decode code 127 = .ok (.istore 5, 2) := by decide +kernel
theorem d_law_129 : decode code 129 = .ok (.aload_n 2, 1) := by decide +kernel
theorem d_law_130 : decode code 130 = .ok (.aload_n 0, 1) := by decide +kernel
theorem d_law_131 : decode code 131 = .ok (.iload 4, 2) := by decide +kernel
theorem d_law_133 : decode code 133 = .ok (.iconst 1, 1) := by decide +kernel
theorem d_law_134 : decode code 134 = .ok (.iadd, 1) := by decide +kernel
theorem d_law_135 : decode code 135 = .ok (.iaload, 1) := by decide +kernel
theorem d_law_136 : decode code 136 = .ok (.aload_n 0, 1) := by decide +kernel
theorem d_law_137 : decode code 137 = .ok (.iload 4, 2) := by decide +kernel
theorem d_law_139 : decode code 139 = .ok (.iconst 2, 1) := by decide +kernel
theorem d_law_140 : decode code 140 = .ok (.iadd, 1) := by decide +kernel
theorem d_law_141 : decode code 141 = .ok (.iaload, 1) := by decide +kernel
theorem d_law_142 : decode code 142 = .ok (.aload_n 0, 1) := by decide +kernel
theorem d_law_143 : decode code 143 = .ok (.iload 4, 2) := by decide +kernel
theorem d_law_145 : decode code 145 = .ok (.iconst 3, 1) := by decide +kernel
theorem d_law_146 : decode code 146 = .ok (.iadd, 1) := by decide +kernel
theorem d_law_147 : decode code 147 = .ok (.iaload, 1) := by decide +kernel
theorem d_law_148 : decode code 148 = .ok (.invokevirtual 55, 3) := by decide +kernel
theorem d_law_151 : decode code 151 = .ok (.istore 6, 2) := by decide +kernel
theorem d_law_153 : decode code 153 = .ok (.aload_n 2, 1) := by decide +kernel
theorem d_law_154 : decode code 154 = .ok (.invokevirtual 56, 3) := by decide +kernel
theorem d_law_157 : decode code 157 = .ok (.iload 5, 2) := by decide +kernel
theorem d_law_159 : decode code 159 = .ok (.if_icmp .eq 5, 3) := by decide +kernel
theorem d_law_162 : decode code 162 = .ok (.iconst 0, 1) := by decide +kernel
theorem d_law_163 : decode code 163 = .ok (.ireturn, 1) := by decide +kernel
theorem d_law_164 : decode code 164 = .ok (.iload 5, 2) := by decide +kernel
theorem d_law_166 : decode code 166 = .ok (.ifCond .ne 15, 3) := by decide +kernel
theorem d_law_169 : decode code 169 = .ok (.aload_n 3, 1) := by decide +kernel
theorem d_law_170 : decode code 170 = .ok (.iconst 0, 1) := by decide +kernel
theorem d_law_171 : decode code 171 = .ok (.laload, 1) := by decide +kernel
theorem d_law_172 : decode code 172 = .ok (.iload 6, 2) := by decide +kernel
theorem d_law_174 : decode code 174 = .ok (.i2l, 1) := by decide +kernel
theorem d_law_175 : decode code 175 = .ok (.lcmp, 1) := by decide +kernel
theorem d_law_176 : decode code 176 = .ok (.ifCond .eq 5, 3) := by decide +kernel
theorem d_law_179 : decode code 179 = .ok (.iconst 0, 1) := by decide +kernel
theorem d_law_180 : decode code 180 = .ok (.ireturn, 1) := by decide +kernel
theorem d_law_181 : decode code 181 = .ok (.goto 646, 3) := by decide +kernel
theorem d_law_184 : decode code 184 = .ok (.aload_n 1, 1) := by decide +kernel
theorem d_law_185 : decode code 185 = .ok (.aload_n 0, 1) := by decide +kernel
theorem d_law_186 : decode code 186 = .ok (.iload 4, 2) := by decide +kernel
theorem d_law_188 : decode code 188 = .ok (.iconst 1, 1) := by decide +kernel
theorem d_law_189 : decode code 189 = .ok (.iadd, 1) := by decide +kernel
theorem d_law_190 : decode code 190 = .ok (.iaload, 1) := by decide +kernel
theorem d_law_191 : decode code 191 = .ok (.aload_n 0, 1) := by decide +kernel
theorem d_law_192 : decode code 192 = .ok (.iload 4, 2) := by decide +kernel
theorem d_law_194 : decode code 194 = .ok (.iconst 2, 1) := by decide +kernel
theorem d_law_195 : decode code 195 = .ok (.iadd, 1) := by decide +kernel
theorem d_law_196 : decode code 196 = .ok (.iaload, 1) := by decide +kernel
theorem d_law_197 : decode code 197 = .ok (.aload_n 0, 1) := by decide +kernel
theorem d_law_198 : decode code 198 = .ok (.iload 4, 2) := by decide +kernel
theorem d_law_200 : decode code 200 = .ok (.iconst 3, 1) := by decide +kernel
theorem d_law_201 : decode code 201 = .ok (.iadd, 1) := by decide +kernel
theorem d_law_202 : decode code 202 = .ok (.iaload, 1) := by decide +kernel
theorem d_law_203 : decode code 203 = .ok (.aload_n 0, 1) := by decide +kernel
theorem d_law_204 : decode code 204 = .ok (.iload 4, 2) := by decide +kernel
theorem d_law_206 : decode code 206 = .ok (.iconst 4, 1) := by decide +kernel
theorem d_law_207 : decode code 207 = .ok (.iadd, 1) := by decide +kernel
theorem d_law_208 : decode code 208 = .ok (.iaload, 1) := by decide +kernel
theorem d_law_209 : decode code 209 = .ok (.aload_n 0, 1) := by decide +kernel
theorem d_law_210 : decode code 210 = .ok (.iload 4, 2) := by decide +kernel
theorem d_law_212 : decode code 212 = .ok (.iconst 5, 1) := by decide +kernel
theorem d_law_213 : decode code 213 = .ok (.iadd, 1) := by decide +kernel
theorem d_law_214 : decode code 214 = .ok (.iaload, 1) := by decide +kernel
theorem d_law_215 : decode code 215 = .ok (.aload_n 3, 1) := by decide +kernel
theorem d_law_216 : decode code 216 = .ok (.invokestatic 60, 3) := by decide +kernel
theorem d_law_219 : decode code 219 = .ok (.istore 5, 2) := by decide +kernel
theorem d_law_221 : decode code 221 = .ok (.aload_n 2, 1) := by decide +kernel
theorem d_law_222 : decode code 222 = .ok (.aload_n 0, 1) := by decide +kernel
theorem d_law_223 : decode code 223 = .ok (.iload 4, 2) := by decide +kernel
theorem d_law_225 : decode code 225 = .ok (.iconst 1, 1) := by decide +kernel
theorem d_law_226 : decode code 226 = .ok (.iadd, 1) := by decide +kernel
theorem d_law_227 : decode code 227 = .ok (.iaload, 1) := by decide +kernel
theorem d_law_228 : decode code 228 = .ok (.aload_n 0, 1) := by decide +kernel
theorem d_law_229 : decode code 229 = .ok (.iload 4, 2) := by decide +kernel
theorem d_law_231 : decode code 231 = .ok (.iconst 2, 1) := by decide +kernel
theorem d_law_232 : decode code 232 = .ok (.iadd, 1) := by decide +kernel
theorem d_law_233 : decode code 233 = .ok (.iaload, 1) := by decide +kernel
theorem d_law_234 : decode code 234 = .ok (.aload_n 0, 1) := by decide +kernel
theorem d_law_235 : decode code 235 = .ok (.iload 4, 2) := by decide +kernel
theorem d_law_237 : decode code 237 = .ok (.iconst 3, 1) := by decide +kernel
theorem d_law_238 : decode code 238 = .ok (.iadd, 1) := by decide +kernel
theorem d_law_239 : decode code 239 = .ok (.iaload, 1) := by decide +kernel
theorem d_law_240 : decode code 240 = .ok (.aload_n 0, 1) := by decide +kernel
theorem d_law_241 : decode code 241 = .ok (.iload 4, 2) := by decide +kernel
theorem d_law_243 : decode code 243 = .ok (.iconst 4, 1) := by decide +kernel
theorem d_law_244 : decode code 244 = .ok (.iadd, 1) := by decide +kernel
theorem d_law_245 : decode code 245 = .ok (.iaload, 1) := by decide +kernel
theorem d_law_246 : decode code 246 = .ok (.aload_n 0, 1) := by decide +kernel
theorem d_law_247 : decode code 247 = .ok (.iload 4, 2) := by decide +kernel
theorem d_law_249 : decode code 249 = .ok (.iconst 5, 1) := by decide +kernel
theorem d_law_250 : decode code 250 = .ok (.iadd, 1) := by decide +kernel
theorem d_law_251 : decode code 251 = .ok (.iaload, 1) := by decide +kernel
theorem d_law_252 : decode code 252 = .ok (.invokevirtual 63, 3) := by decide +kernel
theorem d_law_255 : decode code 255 = .ok (.istore 6, 2) := by decide +kernel
theorem d_law_257 : decode code 257 = .ok (.aload_n 2, 1) := by decide +kernel
theorem d_law_258 : decode code 258 = .ok (.invokevirtual 56, 3) := by decide +kernel
theorem d_law_261 : decode code 261 = .ok (.iload 5, 2) := by decide +kernel
theorem d_law_263 : decode code 263 = .ok (.if_icmp .eq 5, 3) := by decide +kernel
theorem d_law_266 : decode code 266 = .ok (.iconst 0, 1) := by decide +kernel
theorem d_law_267 : decode code 267 = .ok (.ireturn, 1) := by decide +kernel
theorem d_law_268 : decode code 268 = .ok (.iload 5, 2) := by decide +kernel
theorem d_law_270 : decode code 270 = .ok (.ifCond .ne 15, 3) := by decide +kernel
theorem d_law_273 : decode code 273 = .ok (.aload_n 3, 1) := by decide +kernel
theorem d_law_274 : decode code 274 = .ok (.iconst 0, 1) := by decide +kernel
theorem d_law_275 : decode code 275 = .ok (.laload, 1) := by decide +kernel
theorem d_law_276 : decode code 276 = .ok (.iload 6, 2) := by decide +kernel
theorem d_law_278 : decode code 278 = .ok (.i2l, 1) := by decide +kernel
theorem d_law_279 : decode code 279 = .ok (.lcmp, 1) := by decide +kernel
theorem d_law_280 : decode code 280 = .ok (.ifCond .eq 5, 3) := by decide +kernel
theorem d_law_283 : decode code 283 = .ok (.iconst 0, 1) := by decide +kernel
theorem d_law_284 : decode code 284 = .ok (.ireturn, 1) := by decide +kernel
theorem d_law_285 : decode code 285 = .ok (.goto 542, 3) := by decide +kernel
theorem d_law_288 : decode code 288 = .ok (.aload_n 1, 1) := by decide +kernel
theorem d_law_289 : decode code 289 = .ok (.aload_n 0, 1) := by decide +kernel
theorem d_law_290 : decode code 290 = .ok (.iload 4, 2) := by decide +kernel
theorem d_law_292 : decode code 292 = .ok (.iconst 1, 1) := by decide +kernel
theorem d_law_293 : decode code 293 = .ok (.iadd, 1) := by decide +kernel
theorem d_law_294 : decode code 294 = .ok (.iaload, 1) := by decide +kernel
theorem d_law_295 : decode code 295 = .ok (.aload_n 0, 1) := by decide +kernel
theorem d_law_296 : decode code 296 = .ok (.iload 4, 2) := by decide +kernel
theorem d_law_298 : decode code 298 = .ok (.iconst 2, 1) := by decide +kernel
theorem d_law_299 : decode code 299 = .ok (.iadd, 1) := by decide +kernel
theorem d_law_300 : decode code 300 = .ok (.iaload, 1) := by decide +kernel
theorem d_law_301 : decode code 301 = .ok (.aload_n 0, 1) := by decide +kernel
theorem d_law_302 : decode code 302 = .ok (.iload 4, 2) := by decide +kernel
theorem d_law_304 : decode code 304 = .ok (.iconst 3, 1) := by decide +kernel
theorem d_law_305 : decode code 305 = .ok (.iadd, 1) := by decide +kernel
theorem d_law_306 : decode code 306 = .ok (.iaload, 1) := by decide +kernel
theorem d_law_307 : decode code 307 = .ok (.invokevirtual 64, 3) := by decide +kernel
theorem d_law_310 : decode code 310 = .ok (.aload_n 2, 1) := by decide +kernel
theorem d_law_311 : decode code 311 = .ok (.aload_n 0, 1) := by decide +kernel
theorem d_law_312 : decode code 312 = .ok (.iload 4, 2) := by decide +kernel
theorem d_law_314 : decode code 314 = .ok (.iconst 1, 1) := by decide +kernel
theorem d_law_315 : decode code 315 = .ok (.iadd, 1) := by decide +kernel
theorem d_law_316 : decode code 316 = .ok (.iaload, 1) := by decide +kernel
theorem d_law_317 : decode code 317 = .ok (.aload_n 0, 1) := by decide +kernel
theorem d_law_318 : decode code 318 = .ok (.iload 4, 2) := by decide +kernel
theorem d_law_320 : decode code 320 = .ok (.iconst 2, 1) := by decide +kernel
theorem d_law_321 : decode code 321 = .ok (.iadd, 1) := by decide +kernel
theorem d_law_322 : decode code 322 = .ok (.iaload, 1) := by decide +kernel
theorem d_law_323 : decode code 323 = .ok (.aload_n 0, 1) := by decide +kernel
theorem d_law_324 : decode code 324 = .ok (.iload 4, 2) := by decide +kernel
theorem d_law_326 : decode code 326 = .ok (.iconst 3, 1) := by decide +kernel
theorem d_law_327 : decode code 327 = .ok (.iadd, 1) := by decide +kernel
theorem d_law_328 : decode code 328 = .ok (.iaload, 1) := by decide +kernel
theorem d_law_329 : decode code 329 = .ok (.invokevirtual 68, 3) := by decide +kernel
theorem d_law_332 : decode code 332 = .ok (.if_icmp .eq 495, 3) := by decide +kernel
theorem d_law_335 : decode code 335 = .ok (.iconst 0, 1) := by decide +kernel
theorem d_law_336 : decode code 336 = .ok (.ireturn, 1) := by decide +kernel
theorem d_law_337 : decode code 337 = .ok (.aload_n 1, 1) := by decide +kernel
theorem d_law_338 : decode code 338 = .ok (.aload_n 0, 1) := by decide +kernel
theorem d_law_339 : decode code 339 = .ok (.iload 4, 2) := by decide +kernel
theorem d_law_341 : decode code 341 = .ok (.iconst 1, 1) := by decide +kernel
theorem d_law_342 : decode code 342 = .ok (.iadd, 1) := by decide +kernel
theorem d_law_343 : decode code 343 = .ok (.iaload, 1) := by decide +kernel
theorem d_law_344 : decode code 344 = .ok (.aload_n 0, 1) := by decide +kernel
theorem d_law_345 : decode code 345 = .ok (.iload 4, 2) := by decide +kernel
theorem d_law_347 : decode code 347 = .ok (.iconst 2, 1) := by decide +kernel
theorem d_law_348 : decode code 348 = .ok (.iadd, 1) := by decide +kernel
theorem d_law_349 : decode code 349 = .ok (.iaload, 1) := by decide +kernel
theorem d_law_350 : decode code 350 = .ok (.invokevirtual 69, 3) := by decide +kernel
theorem d_law_353 : decode code 353 = .ok (.aload_n 2, 1) := by decide +kernel
theorem d_law_354 : decode code 354 = .ok (.aload_n 0, 1) := by decide +kernel
theorem d_law_355 : decode code 355 = .ok (.iload 4, 2) := by decide +kernel
theorem d_law_357 : decode code 357 = .ok (.iconst 1, 1) := by decide +kernel
theorem d_law_358 : decode code 358 = .ok (.iadd, 1) := by decide +kernel
theorem d_law_359 : decode code 359 = .ok (.iaload, 1) := by decide +kernel
theorem d_law_360 : decode code 360 = .ok (.aload_n 0, 1) := by decide +kernel
theorem d_law_361 : decode code 361 = .ok (.iload 4, 2) := by decide +kernel
theorem d_law_363 : decode code 363 = .ok (.iconst 2, 1) := by decide +kernel
theorem d_law_364 : decode code 364 = .ok (.iadd, 1) := by decide +kernel
theorem d_law_365 : decode code 365 = .ok (.iaload, 1) := by decide +kernel
theorem d_law_366 : decode code 366 = .ok (.invokevirtual 72, 3) := by decide +kernel
theorem d_law_369 : decode code 369 = .ok (.if_icmp .eq 458, 3) := by decide +kernel
theorem d_law_372 : decode code 372 = .ok (.iconst 0, 1) := by decide +kernel
theorem d_law_373 : decode code 373 = .ok (.ireturn, 1) := by decide +kernel
theorem d_law_374 : decode code 374 = .ok (.aload_n 1, 1) := by decide +kernel
theorem d_law_375 : decode code 375 = .ok (.invokevirtual 73, 3) := by decide +kernel
theorem d_law_378 : decode code 378 = .ok (.aload_n 2, 1) := by decide +kernel
theorem d_law_379 : decode code 379 = .ok (.invokevirtual 76, 3) := by decide +kernel
theorem d_law_382 : decode code 382 = .ok (.if_icmp .eq 445, 3) := by decide +kernel
theorem d_law_385 : decode code 385 = .ok (.iconst 0, 1) := by decide +kernel
theorem d_law_386 : decode code 386 = .ok (.ireturn, 1) := by decide +kernel
theorem d_law_387 : decode code 387 = .ok (.aload_n 1, 1) := by decide +kernel
theorem d_law_388 : decode code 388 = .ok (.aload_n 0, 1) := by decide +kernel
theorem d_law_389 : decode code 389 = .ok (.iload 4, 2) := by decide +kernel
theorem d_law_391 : decode code 391 = .ok (.iconst 1, 1) := by decide +kernel
theorem d_law_392 : decode code 392 = .ok (.iadd, 1) := by decide +kernel
theorem d_law_393 : decode code 393 = .ok (.iaload, 1) := by decide +kernel
theorem d_law_394 : decode code 394 = .ok (.aload_n 0, 1) := by decide +kernel
theorem d_law_395 : decode code 395 = .ok (.iload 4, 2) := by decide +kernel
theorem d_law_397 : decode code 397 = .ok (.iconst 2, 1) := by decide +kernel
theorem d_law_398 : decode code 398 = .ok (.iadd, 1) := by decide +kernel
theorem d_law_399 : decode code 399 = .ok (.iaload, 1) := by decide +kernel
theorem d_law_400 : decode code 400 = .ok (.aload_n 3, 1) := by decide +kernel
theorem d_law_401 : decode code 401 = .ok (.invokestatic 77, 3) := by decide +kernel
theorem d_law_404 : decode code 404 = .ok (.istore 5, 2) := by decide +kernel
theorem d_law_406 : decode code 406 = .ok (.aload_n 2, 1) := by decide +kernel
theorem d_law_407 : decode code 407 = .ok (.aload_n 0, 1) := by decide +kernel
theorem d_law_408 : decode code 408 = .ok (.iload 4, 2) := by decide +kernel
theorem d_law_410 : decode code 410 = .ok (.iconst 1, 1) := by decide +kernel
theorem d_law_411 : decode code 411 = .ok (.iadd, 1) := by decide +kernel
theorem d_law_412 : decode code 412 = .ok (.iaload, 1) := by decide +kernel
theorem d_law_413 : decode code 413 = .ok (.aload_n 0, 1) := by decide +kernel
theorem d_law_414 : decode code 414 = .ok (.iload 4, 2) := by decide +kernel
theorem d_law_416 : decode code 416 = .ok (.iconst 2, 1) := by decide +kernel
theorem d_law_417 : decode code 417 = .ok (.iadd, 1) := by decide +kernel
theorem d_law_418 : decode code 418 = .ok (.iaload, 1) := by decide +kernel
theorem d_law_419 : decode code 419 = .ok (.invokevirtual 80, 3) := by decide +kernel
theorem d_law_422 : decode code 422 = .ok (.istore 6, 2) := by decide +kernel
theorem d_law_424 : decode code 424 = .ok (.aload_n 2, 1) := by decide +kernel
theorem d_law_425 : decode code 425 = .ok (.invokevirtual 56, 3) := by decide +kernel
theorem d_law_428 : decode code 428 = .ok (.iload 5, 2) := by decide +kernel
theorem d_law_430 : decode code 430 = .ok (.if_icmp .eq 5, 3) := by decide +kernel
theorem d_law_433 : decode code 433 = .ok (.iconst 0, 1) := by decide +kernel
theorem d_law_434 : decode code 434 = .ok (.ireturn, 1) := by decide +kernel
theorem d_law_435 : decode code 435 = .ok (.iload 5, 2) := by decide +kernel
theorem d_law_437 : decode code 437 = .ok (.ifCond .ne 22, 3) := by decide +kernel
theorem d_law_440 : decode code 440 = .ok (.aload_n 3, 1) := by decide +kernel
theorem d_law_441 : decode code 441 = .ok (.iconst 0, 1) := by decide +kernel
theorem d_law_442 : decode code 442 = .ok (.laload, 1) := by decide +kernel
theorem d_law_443 : decode code 443 = .ok (.iload 6, 2) := by decide +kernel
theorem d_law_445 : decode code 445 = .ok (.ifCond .eq 7, 3) := by decide +kernel
theorem d_law_448 : decode code 448 = .ok (.lconst 1, 1) := by decide +kernel
theorem d_law_449 : decode code 449 = .ok (.goto 4, 3) := by decide +kernel
theorem d_law_452 : decode code 452 = .ok (.lconst 0, 1) := by decide +kernel
theorem d_law_453 : decode code 453 = .ok (.lcmp, 1) := by decide +kernel
theorem d_law_454 : decode code 454 = .ok (.ifCond .eq 5, 3) := by decide +kernel
theorem d_law_457 : decode code 457 = .ok (.iconst 0, 1) := by decide +kernel
theorem d_law_458 : decode code 458 = .ok (.ireturn, 1) := by decide +kernel
theorem d_law_459 : decode code 459 = .ok (.goto 368, 3) := by decide +kernel
theorem d_law_462 : decode code 462 = .ok (.aload_n 1, 1) := by decide +kernel
theorem d_law_463 : decode code 463 = .ok (.aload_n 0, 1) := by decide +kernel
theorem d_law_464 : decode code 464 = .ok (.iload 4, 2) := by decide +kernel
theorem d_law_466 : decode code 466 = .ok (.iconst 1, 1) := by decide +kernel
theorem d_law_467 : decode code 467 = .ok (.iadd, 1) := by decide +kernel
theorem d_law_468 : decode code 468 = .ok (.iaload, 1) := by decide +kernel
theorem d_law_469 : decode code 469 = .ok (.aload_n 0, 1) := by decide +kernel
theorem d_law_470 : decode code 470 = .ok (.iload 4, 2) := by decide +kernel
theorem d_law_472 : decode code 472 = .ok (.iconst 2, 1) := by decide +kernel
theorem d_law_473 : decode code 473 = .ok (.iadd, 1) := by decide +kernel
theorem d_law_474 : decode code 474 = .ok (.iaload, 1) := by decide +kernel
theorem d_law_475 : decode code 475 = .ok (.aload_n 3, 1) := by decide +kernel
theorem d_law_476 : decode code 476 = .ok (.invokestatic 81, 3) := by decide +kernel
theorem d_law_479 : decode code 479 = .ok (.istore 5, 2) := by decide +kernel
theorem d_law_481 : decode code 481 = .ok (.aload_n 2, 1) := by decide +kernel
theorem d_law_482 : decode code 482 = .ok (.aload_n 0, 1) := by decide +kernel
theorem d_law_483 : decode code 483 = .ok (.iload 4, 2) := by decide +kernel
theorem d_law_485 : decode code 485 = .ok (.iconst 1, 1) := by decide +kernel
theorem d_law_486 : decode code 486 = .ok (.iadd, 1) := by decide +kernel
theorem d_law_487 : decode code 487 = .ok (.iaload, 1) := by decide +kernel
theorem d_law_488 : decode code 488 = .ok (.aload_n 0, 1) := by decide +kernel
theorem d_law_489 : decode code 489 = .ok (.iload 4, 2) := by decide +kernel
theorem d_law_491 : decode code 491 = .ok (.iconst 2, 1) := by decide +kernel
theorem d_law_492 : decode code 492 = .ok (.iadd, 1) := by decide +kernel
theorem d_law_493 : decode code 493 = .ok (.iaload, 1) := by decide +kernel
theorem d_law_494 : decode code 494 = .ok (.invokevirtual 83, 3) := by decide +kernel
theorem d_law_497 : decode code 497 = .ok (.istore 6, 2) := by decide +kernel
theorem d_law_499 : decode code 499 = .ok (.aload_n 2, 1) := by decide +kernel
theorem d_law_500 : decode code 500 = .ok (.invokevirtual 56, 3) := by decide +kernel
theorem d_law_503 : decode code 503 = .ok (.iload 5, 2) := by decide +kernel
theorem d_law_505 : decode code 505 = .ok (.if_icmp .eq 5, 3) := by decide +kernel
theorem d_law_508 : decode code 508 = .ok (.iconst 0, 1) := by decide +kernel
theorem d_law_509 : decode code 509 = .ok (.ireturn, 1) := by decide +kernel
theorem d_law_510 : decode code 510 = .ok (.iload 5, 2) := by decide +kernel
theorem d_law_512 : decode code 512 = .ok (.ifCond .ne 15, 3) := by decide +kernel
theorem d_law_515 : decode code 515 = .ok (.aload_n 3, 1) := by decide +kernel
theorem d_law_516 : decode code 516 = .ok (.iconst 0, 1) := by decide +kernel
theorem d_law_517 : decode code 517 = .ok (.laload, 1) := by decide +kernel
theorem d_law_518 : decode code 518 = .ok (.iload 6, 2) := by decide +kernel
theorem d_law_520 : decode code 520 = .ok (.i2l, 1) := by decide +kernel
theorem d_law_521 : decode code 521 = .ok (.lcmp, 1) := by decide +kernel
theorem d_law_522 : decode code 522 = .ok (.ifCond .eq 5, 3) := by decide +kernel
theorem d_law_525 : decode code 525 = .ok (.iconst 0, 1) := by decide +kernel
theorem d_law_526 : decode code 526 = .ok (.ireturn, 1) := by decide +kernel
theorem d_law_527 : decode code 527 = .ok (.goto 300, 3) := by decide +kernel
theorem d_law_530 : decode code 530 = .ok (.aload_n 1, 1) := by decide +kernel
theorem d_law_531 : decode code 531 = .ok (.aload_n 0, 1) := by decide +kernel
theorem d_law_532 : decode code 532 = .ok (.iload 4, 2) := by decide +kernel
theorem d_law_534 : decode code 534 = .ok (.iconst 1, 1) := by decide +kernel
theorem d_law_535 : decode code 535 = .ok (.iadd, 1) := by decide +kernel
theorem d_law_536 : decode code 536 = .ok (.iaload, 1) := by decide +kernel
theorem d_law_537 : decode code 537 = .ok (.aload_n 0, 1) := by decide +kernel
theorem d_law_538 : decode code 538 = .ok (.iload 4, 2) := by decide +kernel
theorem d_law_540 : decode code 540 = .ok (.iconst 2, 1) := by decide +kernel
theorem d_law_541 : decode code 541 = .ok (.iadd, 1) := by decide +kernel
theorem d_law_542 : decode code 542 = .ok (.iaload, 1) := by decide +kernel
theorem d_law_543 : decode code 543 = .ok (.aload_n 0, 1) := by decide +kernel
theorem d_law_544 : decode code 544 = .ok (.iload 4, 2) := by decide +kernel
theorem d_law_546 : decode code 546 = .ok (.iconst 3, 1) := by decide +kernel
theorem d_law_547 : decode code 547 = .ok (.iadd, 1) := by decide +kernel
theorem d_law_548 : decode code 548 = .ok (.iaload, 1) := by decide +kernel
theorem d_law_549 : decode code 549 = .ok (.aload_n 3, 1) := by decide +kernel
theorem d_law_550 : decode code 550 = .ok (.invokestatic 84, 3) := by decide +kernel
theorem d_law_553 : decode code 553 = .ok (.istore 5, 2) := by decide +kernel
theorem d_law_555 : decode code 555 = .ok (.aload_n 2, 1) := by decide +kernel
theorem d_law_556 : decode code 556 = .ok (.aload_n 0, 1) := by decide +kernel
theorem d_law_557 : decode code 557 = .ok (.iload 4, 2) := by decide +kernel
theorem d_law_559 : decode code 559 = .ok (.iconst 1, 1) := by decide +kernel
theorem d_law_560 : decode code 560 = .ok (.iadd, 1) := by decide +kernel
theorem d_law_561 : decode code 561 = .ok (.iaload, 1) := by decide +kernel
theorem d_law_562 : decode code 562 = .ok (.aload_n 0, 1) := by decide +kernel
theorem d_law_563 : decode code 563 = .ok (.iload 4, 2) := by decide +kernel
theorem d_law_565 : decode code 565 = .ok (.iconst 2, 1) := by decide +kernel
theorem d_law_566 : decode code 566 = .ok (.iadd, 1) := by decide +kernel
theorem d_law_567 : decode code 567 = .ok (.iaload, 1) := by decide +kernel
theorem d_law_568 : decode code 568 = .ok (.aload_n 0, 1) := by decide +kernel
theorem d_law_569 : decode code 569 = .ok (.iload 4, 2) := by decide +kernel
theorem d_law_571 : decode code 571 = .ok (.iconst 3, 1) := by decide +kernel
theorem d_law_572 : decode code 572 = .ok (.iadd, 1) := by decide +kernel
theorem d_law_573 : decode code 573 = .ok (.iaload, 1) := by decide +kernel
theorem d_law_574 : decode code 574 = .ok (.invokevirtual 86, 3) := by decide +kernel
theorem d_law_577 : decode code 577 = .ok (.istore 6, 2) := by decide +kernel
theorem d_law_579 : decode code 579 = .ok (.aload_n 2, 1) := by decide +kernel
theorem d_law_580 : decode code 580 = .ok (.invokevirtual 56, 3) := by decide +kernel
theorem d_law_583 : decode code 583 = .ok (.iload 5, 2) := by decide +kernel
theorem d_law_585 : decode code 585 = .ok (.if_icmp .eq 5, 3) := by decide +kernel
theorem d_law_588 : decode code 588 = .ok (.iconst 0, 1) := by decide +kernel
theorem d_law_589 : decode code 589 = .ok (.ireturn, 1) := by decide +kernel
theorem d_law_590 : decode code 590 = .ok (.iload 5, 2) := by decide +kernel
theorem d_law_592 : decode code 592 = .ok (.ifCond .ne 15, 3) := by decide +kernel
theorem d_law_595 : decode code 595 = .ok (.aload_n 3, 1) := by decide +kernel
theorem d_law_596 : decode code 596 = .ok (.iconst 0, 1) := by decide +kernel
theorem d_law_597 : decode code 597 = .ok (.laload, 1) := by decide +kernel
theorem d_law_598 : decode code 598 = .ok (.iload 6, 2) := by decide +kernel
theorem d_law_600 : decode code 600 = .ok (.i2l, 1) := by decide +kernel
theorem d_law_601 : decode code 601 = .ok (.lcmp, 1) := by decide +kernel
theorem d_law_602 : decode code 602 = .ok (.ifCond .eq 5, 3) := by decide +kernel
theorem d_law_605 : decode code 605 = .ok (.iconst 0, 1) := by decide +kernel
theorem d_law_606 : decode code 606 = .ok (.ireturn, 1) := by decide +kernel
theorem d_law_607 : decode code 607 = .ok (.goto 220, 3) := by decide +kernel
theorem d_law_610 : decode code 610 = .ok (.aload_n 1, 1) := by decide +kernel
theorem d_law_611 : decode code 611 = .ok (.aload_n 0, 1) := by decide +kernel
theorem d_law_612 : decode code 612 = .ok (.iload 4, 2) := by decide +kernel
theorem d_law_614 : decode code 614 = .ok (.iconst 1, 1) := by decide +kernel
theorem d_law_615 : decode code 615 = .ok (.iadd, 1) := by decide +kernel
theorem d_law_616 : decode code 616 = .ok (.iaload, 1) := by decide +kernel
theorem d_law_617 : decode code 617 = .ok (.aload_n 0, 1) := by decide +kernel
theorem d_law_618 : decode code 618 = .ok (.iload 4, 2) := by decide +kernel
theorem d_law_620 : decode code 620 = .ok (.iconst 2, 1) := by decide +kernel
theorem d_law_621 : decode code 621 = .ok (.iadd, 1) := by decide +kernel
theorem d_law_622 : decode code 622 = .ok (.iaload, 1) := by decide +kernel
theorem d_law_623 : decode code 623 = .ok (.aload_n 3, 1) := by decide +kernel
theorem d_law_624 : decode code 624 = .ok (.invokestatic 87, 3) := by decide +kernel
theorem d_law_627 : decode code 627 = .ok (.istore 5, 2) := by decide +kernel
theorem d_law_629 : decode code 629 = .ok (.aload_n 2, 1) := by decide +kernel
theorem d_law_630 : decode code 630 = .ok (.aload_n 0, 1) := by decide +kernel
theorem d_law_631 : decode code 631 = .ok (.iload 4, 2) := by decide +kernel
theorem d_law_633 : decode code 633 = .ok (.iconst 1, 1) := by decide +kernel
theorem d_law_634 : decode code 634 = .ok (.iadd, 1) := by decide +kernel
theorem d_law_635 : decode code 635 = .ok (.iaload, 1) := by decide +kernel
theorem d_law_636 : decode code 636 = .ok (.aload_n 0, 1) := by decide +kernel
theorem d_law_637 : decode code 637 = .ok (.iload 4, 2) := by decide +kernel
theorem d_law_639 : decode code 639 = .ok (.iconst 2, 1) := by decide +kernel
theorem d_law_640 : decode code 640 = .ok (.iadd, 1) := by decide +kernel
theorem d_law_641 : decode code 641 = .ok (.iaload, 1) := by decide +kernel
theorem d_law_642 : decode code 642 = .ok (.invokevirtual 89, 3) := by decide +kernel
theorem d_law_645 : decode code 645 = .ok (.istore 6, 2) := by decide +kernel
theorem d_law_647 : decode code 647 = .ok (.aload_n 2, 1) := by decide +kernel
theorem d_law_648 : decode code 648 = .ok (.invokevirtual 56, 3) := by decide +kernel
theorem d_law_651 : decode code 651 = .ok (.iload 5, 2) := by decide +kernel
theorem d_law_653 : decode code 653 = .ok (.if_icmp .eq 5, 3) := by decide +kernel
theorem d_law_656 : decode code 656 = .ok (.iconst 0, 1) := by decide +kernel
theorem d_law_657 : decode code 657 = .ok (.ireturn, 1) := by decide +kernel
theorem d_law_658 : decode code 658 = .ok (.iload 5, 2) := by decide +kernel
theorem d_law_660 : decode code 660 = .ok (.ifCond .ne 15, 3) := by decide +kernel
theorem d_law_663 : decode code 663 = .ok (.aload_n 3, 1) := by decide +kernel
theorem d_law_664 : decode code 664 = .ok (.iconst 0, 1) := by decide +kernel
theorem d_law_665 : decode code 665 = .ok (.laload, 1) := by decide +kernel
theorem d_law_666 : decode code 666 = .ok (.iload 6, 2) := by decide +kernel
theorem d_law_668 : decode code 668 = .ok (.i2l, 1) := by decide +kernel
theorem d_law_669 : decode code 669 = .ok (.lcmp, 1) := by decide +kernel
theorem d_law_670 : decode code 670 = .ok (.ifCond .eq 5, 3) := by decide +kernel
theorem d_law_673 : decode code 673 = .ok (.iconst 0, 1) := by decide +kernel
theorem d_law_674 : decode code 674 = .ok (.ireturn, 1) := by decide +kernel
theorem d_law_675 : decode code 675 = .ok (.goto 152, 3) := by decide +kernel
theorem d_law_678 : decode code 678 = .ok (.aload_n 1, 1) := by decide +kernel
theorem d_law_679 : decode code 679 = .ok (.aload_n 0, 1) := by decide +kernel
theorem d_law_680 : decode code 680 = .ok (.iload 4, 2) := by decide +kernel
theorem d_law_682 : decode code 682 = .ok (.iconst 1, 1) := by decide +kernel
theorem d_law_683 : decode code 683 = .ok (.iadd, 1) := by decide +kernel
theorem d_law_684 : decode code 684 = .ok (.iaload, 1) := by decide +kernel
theorem d_law_685 : decode code 685 = .ok (.aload_n 3, 1) := by decide +kernel
theorem d_law_686 : decode code 686 = .ok (.invokestatic 90, 3) := by decide +kernel
theorem d_law_689 : decode code 689 = .ok (.istore 5, 2) := by decide +kernel
theorem d_law_691 : decode code 691 = .ok (.aload_n 2, 1) := by decide +kernel
theorem d_law_692 : decode code 692 = .ok (.aload_n 0, 1) := by decide +kernel
theorem d_law_693 : decode code 693 = .ok (.iload 4, 2) := by decide +kernel
theorem d_law_695 : decode code 695 = .ok (.iconst 1, 1) := by decide +kernel
theorem d_law_696 : decode code 696 = .ok (.iadd, 1) := by decide +kernel
theorem d_law_697 : decode code 697 = .ok (.iaload, 1) := by decide +kernel
theorem d_law_698 : decode code 698 = .ok (.invokevirtual 93, 3) := by decide +kernel
theorem d_law_701 : decode code 701 = .ok (.istore 6, 2) := by decide +kernel
theorem d_law_703 : decode code 703 = .ok (.aload_n 2, 1) := by decide +kernel
theorem d_law_704 : decode code 704 = .ok (.invokevirtual 56, 3) := by decide +kernel
theorem d_law_707 : decode code 707 = .ok (.iload 5, 2) := by decide +kernel
theorem d_law_709 : decode code 709 = .ok (.if_icmp .eq 5, 3) := by decide +kernel
theorem d_law_712 : decode code 712 = .ok (.iconst 0, 1) := by decide +kernel
theorem d_law_713 : decode code 713 = .ok (.ireturn, 1) := by decide +kernel
theorem d_law_714 : decode code 714 = .ok (.iload 5, 2) := by decide +kernel
theorem d_law_716 : decode code 716 = .ok (.ifCond .ne 15, 3) := by decide +kernel
theorem d_law_719 : decode code 719 = .ok (.aload_n 3, 1) := by decide +kernel
theorem d_law_720 : decode code 720 = .ok (.iconst 0, 1) := by decide +kernel
theorem d_law_721 : decode code 721 = .ok (.laload, 1) := by decide +kernel
theorem d_law_722 : decode code 722 = .ok (.iload 6, 2) := by decide +kernel
theorem d_law_724 : decode code 724 = .ok (.i2l, 1) := by decide +kernel
theorem d_law_725 : decode code 725 = .ok (.lcmp, 1) := by decide +kernel
theorem d_law_726 : decode code 726 = .ok (.ifCond .eq 5, 3) := by decide +kernel
theorem d_law_729 : decode code 729 = .ok (.iconst 0, 1) := by decide +kernel
theorem d_law_730 : decode code 730 = .ok (.ireturn, 1) := by decide +kernel
theorem d_law_731 : decode code 731 = .ok (.goto 96, 3) := by decide +kernel
theorem d_law_734 : decode code 734 = .ok (.aload_n 1, 1) := by decide +kernel
theorem d_law_735 : decode code 735 = .ok (.aload_n 0, 1) := by decide +kernel
theorem d_law_736 : decode code 736 = .ok (.iload 4, 2) := by decide +kernel
theorem d_law_738 : decode code 738 = .ok (.iconst 1, 1) := by decide +kernel
theorem d_law_739 : decode code 739 = .ok (.iadd, 1) := by decide +kernel
theorem d_law_740 : decode code 740 = .ok (.iaload, 1) := by decide +kernel
theorem d_law_741 : decode code 741 = .ok (.aload_n 0, 1) := by decide +kernel
theorem d_law_742 : decode code 742 = .ok (.iload 4, 2) := by decide +kernel
theorem d_law_744 : decode code 744 = .ok (.iconst 2, 1) := by decide +kernel
theorem d_law_745 : decode code 745 = .ok (.iadd, 1) := by decide +kernel
theorem d_law_746 : decode code 746 = .ok (.iaload, 1) := by decide +kernel
theorem d_law_747 : decode code 747 = .ok (.aload_n 3, 1) := by decide +kernel
theorem d_law_748 : decode code 748 = .ok (.invokestatic 94, 3) := by decide +kernel
theorem d_law_751 : decode code 751 = .ok (.istore 5, 2) := by decide +kernel
theorem d_law_753 : decode code 753 = .ok (.aload_n 2, 1) := by decide +kernel
theorem d_law_754 : decode code 754 = .ok (.aload_n 0, 1) := by decide +kernel
theorem d_law_755 : decode code 755 = .ok (.iload 4, 2) := by decide +kernel
theorem d_law_757 : decode code 757 = .ok (.iconst 1, 1) := by decide +kernel
theorem d_law_758 : decode code 758 = .ok (.iadd, 1) := by decide +kernel
theorem d_law_759 : decode code 759 = .ok (.iaload, 1) := by decide +kernel
theorem d_law_760 : decode code 760 = .ok (.aload_n 0, 1) := by decide +kernel
theorem d_law_761 : decode code 761 = .ok (.iload 4, 2) := by decide +kernel
theorem d_law_763 : decode code 763 = .ok (.iconst 2, 1) := by decide +kernel
theorem d_law_764 : decode code 764 = .ok (.iadd, 1) := by decide +kernel
theorem d_law_765 : decode code 765 = .ok (.iaload, 1) := by decide +kernel
theorem d_law_766 : decode code 766 = .ok (.invokevirtual 96, 3) := by decide +kernel
theorem d_law_769 : decode code 769 = .ok (.istore 6, 2) := by decide +kernel
theorem d_law_771 : decode code 771 = .ok (.aload_n 2, 1) := by decide +kernel
theorem d_law_772 : decode code 772 = .ok (.invokevirtual 56, 3) := by decide +kernel
theorem d_law_775 : decode code 775 = .ok (.iload 5, 2) := by decide +kernel
theorem d_law_777 : decode code 777 = .ok (.if_icmp .eq 5, 3) := by decide +kernel
theorem d_law_780 : decode code 780 = .ok (.iconst 0, 1) := by decide +kernel
theorem d_law_781 : decode code 781 = .ok (.ireturn, 1) := by decide +kernel
theorem d_law_782 : decode code 782 = .ok (.iload 5, 2) := by decide +kernel
theorem d_law_784 : decode code 784 = .ok (.ifCond .ne 15, 3) := by decide +kernel
theorem d_law_787 : decode code 787 = .ok (.aload_n 3, 1) := by decide +kernel
theorem d_law_788 : decode code 788 = .ok (.iconst 0, 1) := by decide +kernel
theorem d_law_789 : decode code 789 = .ok (.laload, 1) := by decide +kernel
theorem d_law_790 : decode code 790 = .ok (.iload 6, 2) := by decide +kernel
theorem d_law_792 : decode code 792 = .ok (.i2l, 1) := by decide +kernel
theorem d_law_793 : decode code 793 = .ok (.lcmp, 1) := by decide +kernel
theorem d_law_794 : decode code 794 = .ok (.ifCond .eq 5, 3) := by decide +kernel
theorem d_law_797 : decode code 797 = .ok (.iconst 0, 1) := by decide +kernel
theorem d_law_798 : decode code 798 = .ok (.ireturn, 1) := by decide +kernel
theorem d_law_799 : decode code 799 = .ok (.goto 28, 3) := by decide +kernel
theorem d_law_802 : decode code 802 = .ok (.aload_n 1, 1) := by decide +kernel
theorem d_law_803 : decode code 803 = .ok (.aload_n 0, 1) := by decide +kernel
theorem d_law_804 : decode code 804 = .ok (.iload 4, 2) := by decide +kernel
theorem d_law_806 : decode code 806 = .ok (.iconst 1, 1) := by decide +kernel
theorem d_law_807 : decode code 807 = .ok (.iadd, 1) := by decide +kernel
theorem d_law_808 : decode code 808 = .ok (.iaload, 1) := by decide +kernel
theorem d_law_809 : decode code 809 = .ok (.invokevirtual 97, 3) := by decide +kernel
theorem d_law_812 : decode code 812 = .ok (.aload_n 2, 1) := by decide +kernel
theorem d_law_813 : decode code 813 = .ok (.aload_n 0, 1) := by decide +kernel
theorem d_law_814 : decode code 814 = .ok (.iload 4, 2) := by decide +kernel
theorem d_law_816 : decode code 816 = .ok (.iconst 1, 1) := by decide +kernel
theorem d_law_817 : decode code 817 = .ok (.iadd, 1) := by decide +kernel
theorem d_law_818 : decode code 818 = .ok (.iaload, 1) := by decide +kernel
theorem d_law_819 : decode code 819 = .ok (.invokevirtual 100, 3) := by decide +kernel
theorem d_law_822 : decode code 822 = .ok (.if_icmp .eq 5, 3) := by decide +kernel
theorem d_law_825 : decode code 825 = .ok (.iconst 0, 1) := by decide +kernel
theorem d_law_826 : decode code 826 = .ok (.ireturn, 1) := by decide +kernel
theorem d_law_827 : decode code 827 = .ok (.iinc 4 6, 3) := by decide +kernel
theorem d_law_830 : decode code 830 = .ok (.goto (-807), 3) := by decide +kernel
theorem d_law_833 : decode code 833 = .ok (.iconst 1, 1) := by decide +kernel
theorem d_law_834 : decode code 834 = .ok (.ireturn, 1) := by decide +kernel
set_option maxRecDepth 20000 in
theorem Y_Mo_count : xY y_Mo_count b_Mo_count 4 (some .int) 1 := ⟨BIG_at 830 rfl rfl, BIG_at 7 (by decide +kernel) (by decide +kernel), by decide +kernel, by decide +kernel, by decide +kernel⟩
theorem i_Lw_100 : xIV R_Lw 100 y_Mo_count := ⟨BIG_at 827 (by decide +kernel) (by decide +kernel), BIG_at 828 (by decide +kernel) (by decide +kernel), BIG_at 829 (by decide +kernel) (by decide +kernel)⟩
set_option maxRecDepth 20000 in
theorem Y_Mo_chamber : xY y_Mo_chamber b_Mo_chamber 4 (some .int) 3 := ⟨BIG_at 725 rfl rfl, BIG_at 7 (by decide +kernel) (by decide +kernel), by decide +kernel, by decide +kernel, by decide +kernel⟩
theorem i_Lw_55 : xIV R_Lw 55 y_Mo_chamber := ⟨BIG_at 722 (by decide +kernel) (by decide +kernel), BIG_at 723 (by decide +kernel) (by decide +kernel), BIG_at 724 (by decide +kernel) (by decide +kernel)⟩
set_option maxRecDepth 20000 in
theorem Y_Mo_thrown : xY y_Mo_thrown b_Mo_thrown 1 (some .int) 0 := ⟨BIG_at 721 rfl rfl, BIG_at 7 (by decide +kernel) (by decide +kernel), by decide +kernel, by decide +kernel, by decide +kernel⟩
theorem i_Lw_56 : xIV R_Lw 56 y_Mo_thrown := ⟨BIG_at 718 (by decide +kernel) (by decide +kernel), BIG_at 719 (by decide +kernel) (by decide +kernel), BIG_at 720 (by decide +kernel) (by decide +kernel)⟩
set_option maxRecDepth 20000 in
theorem Y_Mo_ship : xY y_Mo_ship b_Mo_ship 6 (some .int) 5 := ⟨BIG_at 732 rfl rfl, BIG_at 7 (by decide +kernel) (by decide +kernel), by decide +kernel, by decide +kernel, by decide +kernel⟩
theorem i_Lw_63 : xIV R_Lw 63 y_Mo_ship := ⟨BIG_at 729 (by decide +kernel) (by decide +kernel), BIG_at 730 (by decide +kernel) (by decide +kernel), BIG_at 731 (by decide +kernel) (by decide +kernel)⟩
set_option maxRecDepth 20000 in
theorem Y_LR_closed : xY y_LR_closed b_LR_closed 4 (some .boolean) 3 := ⟨BIG_at 172 rfl rfl, BIG_at 1 (by decide +kernel) (by decide +kernel), by decide +kernel, by decide +kernel, by decide +kernel⟩
theorem i_Lw_64 : xIV R_Lw 64 y_LR_closed := ⟨BIG_at 169 (by decide +kernel) (by decide +kernel), BIG_at 170 (by decide +kernel) (by decide +kernel), BIG_at 171 (by decide +kernel) (by decide +kernel)⟩
set_option maxRecDepth 20000 in
theorem Y_Mo_closed : xY y_Mo_closed b_Mo_closed 4 (some .boolean) 3 := ⟨BIG_at 736 rfl rfl, BIG_at 7 (by decide +kernel) (by decide +kernel), by decide +kernel, by decide +kernel, by decide +kernel⟩
theorem i_Lw_68 : xIV R_Lw 68 y_Mo_closed := ⟨BIG_at 733 (by decide +kernel) (by decide +kernel), BIG_at 734 (by decide +kernel) (by decide +kernel), BIG_at 735 (by decide +kernel) (by decide +kernel)⟩
set_option maxRecDepth 20000 in
theorem Y_LR_rule : xY y_LR_rule b_LR_rule 3 (some .boolean) 2 := ⟨BIG_at 188 rfl rfl, BIG_at 1 (by decide +kernel) (by decide +kernel), by decide +kernel, by decide +kernel, by decide +kernel⟩
theorem i_Lw_69 : xIV R_Lw 69 y_LR_rule := ⟨BIG_at 185 (by decide +kernel) (by decide +kernel), BIG_at 186 (by decide +kernel) (by decide +kernel), BIG_at 187 (by decide +kernel) (by decide +kernel)⟩
set_option maxRecDepth 20000 in
theorem Y_Mo_rule : xY y_Mo_rule b_Mo_rule 3 (some .boolean) 2 := ⟨BIG_at 744 rfl rfl, BIG_at 7 (by decide +kernel) (by decide +kernel), by decide +kernel, by decide +kernel, by decide +kernel⟩
theorem i_Lw_72 : xIV R_Lw 72 y_Mo_rule := ⟨BIG_at 741 (by decide +kernel) (by decide +kernel), BIG_at 742 (by decide +kernel) (by decide +kernel), BIG_at 743 (by decide +kernel) (by decide +kernel)⟩
set_option maxRecDepth 20000 in
theorem Y_LR_plan : xY y_LR_plan b_LR_plan 1 (some .int) 0 := ⟨BIG_at 203 rfl rfl, BIG_at 1 (by decide +kernel) (by decide +kernel), by decide +kernel, by decide +kernel, by decide +kernel⟩
theorem i_Lw_73 : xIV R_Lw 73 y_LR_plan := ⟨BIG_at 200 (by decide +kernel) (by decide +kernel), BIG_at 201 (by decide +kernel) (by decide +kernel), BIG_at 202 (by decide +kernel) (by decide +kernel)⟩
set_option maxRecDepth 20000 in
theorem Y_Mo_plan : xY y_Mo_plan b_Mo_plan 2 (some .int) 0 := ⟨BIG_at 760 rfl rfl, BIG_at 7 (by decide +kernel) (by decide +kernel), by decide +kernel, by decide +kernel, by decide +kernel⟩
theorem i_Lw_76 : xIV R_Lw 76 y_Mo_plan := ⟨BIG_at 757 (by decide +kernel) (by decide +kernel), BIG_at 758 (by decide +kernel) (by decide +kernel), BIG_at 759 (by decide +kernel) (by decide +kernel)⟩
set_option maxRecDepth 20000 in
theorem Y_Mo_fits : xY y_Mo_fits b_Mo_fits 3 (some .boolean) 2 := ⟨BIG_at 748 rfl rfl, BIG_at 7 (by decide +kernel) (by decide +kernel), by decide +kernel, by decide +kernel, by decide +kernel⟩
theorem i_Lw_80 : xIV R_Lw 80 y_Mo_fits := ⟨BIG_at 745 (by decide +kernel) (by decide +kernel), BIG_at 746 (by decide +kernel) (by decide +kernel), BIG_at 747 (by decide +kernel) (by decide +kernel)⟩
set_option maxRecDepth 20000 in
theorem Y_Mo_of : xY y_Mo_of b_Mo_of 4 (some .int) 2 := ⟨BIG_at 800 rfl rfl, BIG_at 7 (by decide +kernel) (by decide +kernel), by decide +kernel, by decide +kernel, by decide +kernel⟩
theorem i_Lw_83 : xIV R_Lw 83 y_Mo_of := ⟨BIG_at 797 (by decide +kernel) (by decide +kernel), BIG_at 798 (by decide +kernel) (by decide +kernel), BIG_at 799 (by decide +kernel) (by decide +kernel)⟩
set_option maxRecDepth 20000 in
theorem Y_Mo_run : xY y_Mo_run b_Mo_run 5 (some .int) 3 := ⟨BIG_at 812 rfl rfl, BIG_at 7 (by decide +kernel) (by decide +kernel), by decide +kernel, by decide +kernel, by decide +kernel⟩
theorem i_Lw_86 : xIV R_Lw 86 y_Mo_run := ⟨BIG_at 809 (by decide +kernel) (by decide +kernel), BIG_at 810 (by decide +kernel) (by decide +kernel), BIG_at 811 (by decide +kernel) (by decide +kernel)⟩
set_option maxRecDepth 20000 in
theorem Y_Mo_late : xY y_Mo_late b_Mo_late 8 (some .int) 2 := ⟨BIG_at 816 rfl rfl, BIG_at 7 (by decide +kernel) (by decide +kernel), by decide +kernel, by decide +kernel, by decide +kernel⟩
theorem i_Lw_89 : xIV R_Lw 89 y_Mo_late := ⟨BIG_at 813 (by decide +kernel) (by decide +kernel), BIG_at 814 (by decide +kernel) (by decide +kernel), BIG_at 815 (by decide +kernel) (by decide +kernel)⟩
set_option maxRecDepth 20000 in
theorem Y_Mo_home : xY y_Mo_home b_Mo_home 3 (some .int) 1 := ⟨BIG_at 822 rfl rfl, BIG_at 7 (by decide +kernel) (by decide +kernel), by decide +kernel, by decide +kernel, by decide +kernel⟩
theorem i_Lw_93 : xIV R_Lw 93 y_Mo_home := ⟨BIG_at 819 (by decide +kernel) (by decide +kernel), BIG_at 820 (by decide +kernel) (by decide +kernel), BIG_at 821 (by decide +kernel) (by decide +kernel)⟩
set_option maxRecDepth 20000 in
theorem Y_Mo_rate : xY y_Mo_rate b_Mo_rate 3 (some .int) 2 := ⟨BIG_at 826 rfl rfl, BIG_at 7 (by decide +kernel) (by decide +kernel), by decide +kernel, by decide +kernel, by decide +kernel⟩
theorem i_Lw_96 : xIV R_Lw 96 y_Mo_rate := ⟨BIG_at 823 (by decide +kernel) (by decide +kernel), BIG_at 824 (by decide +kernel) (by decide +kernel), BIG_at 825 (by decide +kernel) (by decide +kernel)⟩
set_option maxRecDepth 20000 in
theorem Y_LR_count : xY y_LR_count b_LR_count 2 (some .int) 1 := ⟨BIG_at 348 rfl rfl, BIG_at 1 (by decide +kernel) (by decide +kernel), by decide +kernel, by decide +kernel, by decide +kernel⟩
theorem i_Lw_97 : xIV R_Lw 97 y_LR_count := ⟨BIG_at 345 (by decide +kernel) (by decide +kernel), BIG_at 346 (by decide +kernel) (by decide +kernel), BIG_at 347 (by decide +kernel) (by decide +kernel)⟩
set_option maxRecDepth 20000 in
theorem hw_50 : xYW R_Lw 50 y_Lw_chamber b_Lw_chamber 6 (some .int) [(0, 12, 15, 13), (0, 12, 19, 15)] 5 := ⟨BIG_at 385 rfl rfl, BIG_at 0 (by decide +kernel) (by decide +kernel), by decide +kernel, by decide +kernel, BIG_at 383 (by decide +kernel) (by decide +kernel), BIG_at 384 (by decide +kernel) (by decide +kernel)⟩
set_option maxRecDepth 20000 in
theorem hw_60 : xYW R_Lw 60 y_Lw_ship b_Lw_ship 8 (some .int) [(0, 16, 19, 13), (0, 16, 23, 15)] 7 := ⟨BIG_at 486 rfl rfl, BIG_at 0 (by decide +kernel) (by decide +kernel), by decide +kernel, by decide +kernel, BIG_at 484 (by decide +kernel) (by decide +kernel), BIG_at 485 (by decide +kernel) (by decide +kernel)⟩
set_option maxRecDepth 20000 in
theorem hw_77 : xYW R_Lw 77 y_Lw_fits b_Lw_fits 5 (some .int) [(0, 17, 20, 13)] 4 := ⟨BIG_at 499 rfl rfl, BIG_at 0 (by decide +kernel) (by decide +kernel), by decide +kernel, by decide +kernel, BIG_at 497 (by decide +kernel) (by decide +kernel), BIG_at 498 (by decide +kernel) (by decide +kernel)⟩
set_option maxRecDepth 20000 in
theorem hw_81 : xYW R_Lw 81 y_Lw_of b_Lw_of 5 (some .int) [(0, 10, 13, 29), (0, 10, 17, 15)] 4 := ⟨BIG_at 510 rfl rfl, BIG_at 0 (by decide +kernel) (by decide +kernel), by decide +kernel, by decide +kernel, BIG_at 508 (by decide +kernel) (by decide +kernel), BIG_at 509 (by decide +kernel) (by decide +kernel)⟩
set_option maxRecDepth 20000 in
theorem hw_84 : xYW R_Lw 84 y_Lw_run b_Lw_run 6 (some .int) [(0, 12, 15, 29), (0, 12, 19, 15)] 5 := ⟨BIG_at 564 rfl rfl, BIG_at 0 (by decide +kernel) (by decide +kernel), by decide +kernel, by decide +kernel, BIG_at 562 (by decide +kernel) (by decide +kernel), BIG_at 563 (by decide +kernel) (by decide +kernel)⟩
set_option maxRecDepth 20000 in
theorem hw_87 : xYW R_Lw 87 y_Lw_late b_Lw_late 5 (some .int) [(0, 10, 13, 29), (0, 10, 17, 13), (0, 10, 21, 15)] 4 := ⟨BIG_at 580 rfl rfl, BIG_at 0 (by decide +kernel) (by decide +kernel), by decide +kernel, by decide +kernel, BIG_at 578 (by decide +kernel) (by decide +kernel), BIG_at 579 (by decide +kernel) (by decide +kernel)⟩
set_option maxRecDepth 20000 in
theorem hw_90 : xYW R_Lw 90 y_Lw_home b_Lw_home 4 (some .int) [(0, 9, 12, 29)] 3 := ⟨BIG_at 605 rfl rfl, BIG_at 0 (by decide +kernel) (by decide +kernel), by decide +kernel, by decide +kernel, BIG_at 603 (by decide +kernel) (by decide +kernel), BIG_at 604 (by decide +kernel) (by decide +kernel)⟩
set_option maxRecDepth 20000 in
theorem hw_94 : xYW R_Lw 94 y_Lw_rate b_Lw_rate 5 (some .int) [(0, 10, 13, 13), (0, 10, 17, 44)] 4 := ⟨BIG_at 612 rfl rfl, BIG_at 0 (by decide +kernel) (by decide +kernel), by decide +kernel, by decide +kernel, BIG_at 610 (by decide +kernel) (by decide +kernel), BIG_at 611 (by decide +kernel) (by decide +kernel)⟩
