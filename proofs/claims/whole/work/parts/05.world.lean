abbrev St : Type := (Nat → Int32) × (Nat → Nat → Int32)
/-- the class's world: 31 cells, at the addresses ad 0, ad 1, .. -/
def WC (ad : Nat → Nat) (cI : ClassId) (st : St) : va_W :=
  [(ad 0, .inr (0, [.ref (ad 1), .ref (ad 2), .ref (ad 3), .ref (ad 4)])),
  (ad 1, .inr (1, [.ref (ad 8), .ref (ad 9), .ref (ad 10), .int (st.1 0), .ref (ad 11), .ref (ad 12), .ref (ad 13), .int (st.1 1)])),
  (ad 2, .inr (2, [.ref (ad 14), .ref (ad 15), .ref (ad 16), .ref (ad 17), .ref (ad 18), .int (st.1 2)])),
  (ad 3, .inr (3, [.ref (ad 1), .ref (ad 2), .ref (ad 19), .ref (ad 20), .ref (ad 21), .int (st.1 3)])),
  (ad 4, .inr (5, [.ref (ad 1), .ref (ad 2), .ref (ad 3), .ref (ad 5), .ref (ad 6), .ref (ad 7), .int (st.1 7), .int (st.1 8)])),
  (ad 5, .inr (4, [.ref (ad 22), .ref (ad 23), .ref (ad 24), .int (st.1 4)])),
  (ad 6, .inr (4, [.ref (ad 25), .ref (ad 26), .ref (ad 27), .int (st.1 5)])),
  (ad 7, .inr (4, [.ref (ad 28), .ref (ad 29), .ref (ad 30), .int (st.1 6)])),
  (ad 8, .inl (cI, 2, .inl (st.2 0))),
  (ad 9, .inl (cI, 2, .inl (st.2 1))),
  (ad 10, .inl (cI, 2, .inl (st.2 2))),
  (ad 11, .inl (cI, 8, .inl (st.2 3))),
  (ad 12, .inl (cI, 8, .inl (st.2 4))),
  (ad 13, .inl (cI, 8, .inl (st.2 5))),
  (ad 14, .inl (cI, 4, .inl (st.2 6))),
  (ad 15, .inl (cI, 4, .inl (st.2 7))),
  (ad 16, .inl (cI, 4, .inl (st.2 8))),
  (ad 17, .inl (cI, 4, .inl (st.2 9))),
  (ad 18, .inl (cI, 4, .inl (st.2 10))),
  (ad 19, .inl (cI, 4, .inl (st.2 11))),
  (ad 20, .inl (cI, 4, .inl (st.2 12))),
  (ad 21, .inl (cI, 128, .inl (st.2 13))),
  (ad 22, .inl (cI, 4, .inl (st.2 14))),
  (ad 23, .inl (cI, 4, .inl (st.2 15))),
  (ad 24, .inl (cI, 4, .inl (st.2 16))),
  (ad 25, .inl (cI, 4, .inl (st.2 17))),
  (ad 26, .inl (cI, 4, .inl (st.2 18))),
  (ad 27, .inl (cI, 4, .inl (st.2 19))),
  (ad 28, .inl (cI, 4, .inl (st.2 20))),
  (ad 29, .inl (cI, 4, .inl (st.2 21))),
  (ad 30, .inl (cI, 4, .inl (st.2 22)))]
def LC (ad : Nat → Nat) : List Nat := [ad 0, ad 1, ad 2, ad 3, ad 4, ad 5, ad 6, ad 7, ad 8, ad 9, ad 10, ad 11, ad 12, ad 13, ad 14, ad 15, ad 16, ad 17, ad 18, ad 19, ad 20, ad 21, ad 22, ad 23, ad 24, ad 25, ad 26, ad 27, ad 28, ad 29, ad 30]
theorem WC_D {ad : Nat → Nat} {cI : ClassId} (N : (LC ad).Nodup) (sz : Nat) (st : St) : va_D (xA (LC ad) sz) (WC ad cI st) := xD_L (L := LC ad) (wf := WC ad cI) (fun _ => rfl) N sz st
def sI (st : St) (k : Nat) (v : Int32) : St := (upd st.1 k v, st.2)
def sA (st : St) (k i : Nat) (v : Int32) : St := (st.1, fun j => if j = k then upd (st.2 k) i v else st.2 j)
theorem xlt_3 {k : Nat} (h : k < 3) : k = 0 ∨ k = 1 ∨ k = 2 := by omega
theorem xlt_7 {k : Nat} (h : k < 7) : k = 0 ∨ k = 1 ∨ k = 2 ∨ k = 3 ∨ k = 4 ∨ k = 5 ∨ k = 6 := by omega
theorem xlt_8 {k : Nat} (h : k < 8) : k = 0 ∨ k = 1 ∨ k = 2 ∨ k = 3 ∨ k = 4 ∨ k = 5 ∨ k = 6 ∨ k = 7 := by omega
def tyC (cI : ClassId) : List (ClassId × FieldType) := [(cI, .int)]
set_option maxRecDepth 20000 in
theorem Y_Be_layFrom : xY y_Be_layFrom b_Be_layFrom 14 (some .boolean) 4 := ⟨BIG_at 290 rfl rfl, BIG_at 4 (by decide +kernel) (by decide +kernel), by decide +kernel, by decide +kernel, by decide +kernel⟩
theorem i_Be_33 : xIV R_Be 33 y_Be_layFrom := ⟨BIG_at 287 (by decide +kernel) (by decide +kernel), BIG_at 289 (by decide +kernel) (by decide +kernel), BIG_sel (q := (y_Be_layFrom, 6)) 5 (by decide +kernel) (by decide +kernel)⟩
set_option maxRecDepth 20000 in
theorem Y_LR_holds : xY y_LR_holds b_LR_holds 2 (some .boolean) 2 := ⟨BIG_at 254 rfl rfl, BIG_at 1 (by decide +kernel) (by decide +kernel), by decide +kernel, by decide +kernel, by decide +kernel⟩
theorem i_Be_37 : xISN R_Be 37 y_LR_holds := ⟨"LockRuns", by decide +kernel, BIG_at 253 (by decide +kernel) (by decide +kernel)⟩
set_option maxRecDepth 20000 in
theorem Y_Fl_length : xY y_Fl_length b_Fl_length 2 (some .int) 1 := ⟨BIG_at 295 rfl rfl, BIG_at 3 (by decide +kernel) (by decide +kernel), by decide +kernel, by decide +kernel, by decide +kernel⟩
theorem i_Be_41 : xIV R_Be 41 y_Fl_length := ⟨BIG_at 292 (by decide +kernel) (by decide +kernel), BIG_at 293 (by decide +kernel) (by decide +kernel), BIG_at 294 (by decide +kernel) (by decide +kernel)⟩
set_option maxRecDepth 20000 in
theorem Y_Fl_width : xY y_Fl_width b_Fl_width 2 (some .int) 1 := ⟨BIG_at 299 rfl rfl, BIG_at 3 (by decide +kernel) (by decide +kernel), by decide +kernel, by decide +kernel, by decide +kernel⟩
theorem i_Be_47 : xIV R_Be 47 y_Fl_width := ⟨BIG_at 296 (by decide +kernel) (by decide +kernel), BIG_at 297 (by decide +kernel) (by decide +kernel), BIG_at 298 (by decide +kernel) (by decide +kernel)⟩
set_option maxRecDepth 20000 in
theorem Y_Ch_length : xY y_Ch_length b_Ch_length 2 (some .int) 1 := ⟨BIG_at 303 rfl rfl, BIG_at 2 (by decide +kernel) (by decide +kernel), by decide +kernel, by decide +kernel, by decide +kernel⟩
theorem i_Be_50 : xIV R_Be 50 y_Ch_length := ⟨BIG_at 300 (by decide +kernel) (by decide +kernel), BIG_at 301 (by decide +kernel) (by decide +kernel), BIG_at 302 (by decide +kernel) (by decide +kernel)⟩
set_option maxRecDepth 20000 in
theorem Y_Ch_width : xY y_Ch_width b_Ch_width 2 (some .int) 1 := ⟨BIG_at 307 rfl rfl, BIG_at 2 (by decide +kernel) (by decide +kernel), by decide +kernel, by decide +kernel, by decide +kernel⟩
theorem i_Be_53 : xIV R_Be 53 y_Ch_width := ⟨BIG_at 304 (by decide +kernel) (by decide +kernel), BIG_at 305 (by decide +kernel) (by decide +kernel), BIG_at 306 (by decide +kernel) (by decide +kernel)⟩
set_option maxRecDepth 20000 in
theorem Y_Fl_side : xY y_Fl_side b_Fl_side 2 (some .int) 1 := ⟨BIG_at 311 rfl rfl, BIG_at 3 (by decide +kernel) (by decide +kernel), by decide +kernel, by decide +kernel, by decide +kernel⟩
theorem i_Be_54 : xIV R_Be 54 y_Fl_side := ⟨BIG_at 308 (by decide +kernel) (by decide +kernel), BIG_at 309 (by decide +kernel) (by decide +kernel), BIG_at 310 (by decide +kernel) (by decide +kernel)⟩
set_option maxRecDepth 20000 in
theorem Y_Be_cells : xY y_Be_cells b_Be_cells 7 (some .int) 4 := ⟨BIG_at 314 rfl rfl, BIG_at 4 (by decide +kernel) (by decide +kernel), by decide +kernel, by decide +kernel, by decide +kernel⟩
theorem i_Be_57 : xIS R_Be 57 y_Be_cells := ⟨BIG_at 312 (by decide +kernel) (by decide +kernel), BIG_at 313 (by decide +kernel) (by decide +kernel)⟩
set_option maxRecDepth 20000 in
theorem Y_Ch_has : xY y_Ch_has b_Ch_has 2 (some .boolean) 1 := ⟨BIG_at 176 rfl rfl, BIG_at 2 (by decide +kernel) (by decide +kernel), by decide +kernel, by decide +kernel, by decide +kernel⟩
theorem i_Ch_37 : xIV R_Ch 37 y_Ch_has := ⟨BIG_at 273 (by decide +kernel) (by decide +kernel), BIG_at 174 (by decide +kernel) (by decide +kernel), BIG_at 175 (by decide +kernel) (by decide +kernel)⟩
set_option maxRecDepth 20000 in
theorem Y_Ch_pastSpans : xY y_Ch_pastSpans b_Ch_pastSpans 6 (some .int) 2 := ⟨BIG_at 331 rfl rfl, BIG_at 2 (by decide +kernel) (by decide +kernel), by decide +kernel, by decide +kernel, by decide +kernel⟩
theorem i_Ch_41 : xIV R_Ch 41 y_Ch_pastSpans := ⟨BIG_at 328 (by decide +kernel) (by decide +kernel), BIG_at 330 (by decide +kernel) (by decide +kernel), BIG_sel (q := (y_Ch_pastSpans, 8)) 6 (by decide +kernel) (by decide +kernel)⟩
set_option maxRecDepth 20000 in
theorem Y_Ch_fill : xY y_Ch_fill b_Ch_fill 2 (some .int) 1 := ⟨BIG_at 272 rfl rfl, BIG_at 2 (by decide +kernel) (by decide +kernel), by decide +kernel, by decide +kernel, by decide +kernel⟩
theorem i_Ch_45 : xIV R_Ch 45 y_Ch_fill := ⟨BIG_at 332 (by decide +kernel) (by decide +kernel), BIG_at 270 (by decide +kernel) (by decide +kernel), BIG_at 271 (by decide +kernel) (by decide +kernel)⟩
set_option maxRecDepth 20000 in
theorem Y_Fl_has : xY y_Fl_has b_Fl_has 2 (some .boolean) 1 := ⟨BIG_at 239 rfl rfl, BIG_at 3 (by decide +kernel) (by decide +kernel), by decide +kernel, by decide +kernel, by decide +kernel⟩
theorem i_Fl_31 : xIV R_Fl 31 y_Fl_has := ⟨BIG_at 236 (by decide +kernel) (by decide +kernel), BIG_at 237 (by decide +kernel) (by decide +kernel), BIG_at 238 (by decide +kernel) (by decide +kernel)⟩
theorem i_Fl_35 : xISN R_Fl 35 y_LR_holds := ⟨"LockRuns", by decide +kernel, BIG_at 253 (by decide +kernel) (by decide +kernel)⟩
set_option maxRecDepth 20000 in
theorem Y_Fl_waiting : xY y_Fl_waiting b_Fl_waiting 5 (some .int) 2 := ⟨BIG_at 340 rfl rfl, BIG_at 3 (by decide +kernel) (by decide +kernel), by decide +kernel, by decide +kernel, by decide +kernel⟩
theorem i_Pl_102 : xIV R_Pl 102 y_Fl_waiting := ⟨BIG_at 337 (by decide +kernel) (by decide +kernel), BIG_at 338 (by decide +kernel) (by decide +kernel), BIG_at 339 (by decide +kernel) (by decide +kernel)⟩
set_option maxRecDepth 20000 in
theorem Y_Be_canLay : xY y_Be_canLay b_Be_canLay 4 (some .boolean) 2 := ⟨BIG_at 286 rfl rfl, BIG_at 4 (by decide +kernel) (by decide +kernel), by decide +kernel, by decide +kernel, by decide +kernel⟩
theorem i_Pl_104 : xIV R_Pl 104 y_Be_canLay := ⟨BIG_at 283 (by decide +kernel) (by decide +kernel), BIG_at 284 (by decide +kernel) (by decide +kernel), BIG_at 285 (by decide +kernel) (by decide +kernel)⟩
set_option maxRecDepth 20000 in
theorem Y_Fl_size : xY y_Fl_size b_Fl_size 1 (some .int) 0 := ⟨BIG_at 227 rfl rfl, BIG_at 3 (by decide +kernel) (by decide +kernel), by decide +kernel, by decide +kernel, by decide +kernel⟩
theorem i_Pl_109 : xIV R_Pl 109 y_Fl_size := ⟨BIG_at 224 (by decide +kernel) (by decide +kernel), BIG_at 225 (by decide +kernel) (by decide +kernel), BIG_at 226 (by decide +kernel) (by decide +kernel)⟩
set_option maxRecDepth 20000 in
theorem Y_Pl_overtaken : xY y_Pl_overtaken b_Pl_overtaken 5 (some .int) 2 := ⟨BIG_at 231 rfl rfl, BIG_at 5 (by decide +kernel) (by decide +kernel), by decide +kernel, by decide +kernel, by decide +kernel⟩
theorem i_Pl_112 : xIV R_Pl 112 y_Pl_overtaken := ⟨BIG_at 228 (by decide +kernel) (by decide +kernel), BIG_at 230 (by decide +kernel) (by decide +kernel), BIG_sel (q := (y_Pl_overtaken, 8)) 2 (by decide +kernel) (by decide +kernel)⟩
set_option maxRecDepth 20000 in
theorem Y_Tt_setWaiting : xY y_Tt_setWaiting b_Tt_setWaiting 2 none 1 := ⟨BIG_at 247 rfl rfl, BIG_at 6 (by decide +kernel) (by decide +kernel), by decide +kernel, by decide +kernel, by decide +kernel⟩
theorem i_Pl_115 : xIV R_Pl 115 y_Tt_setWaiting := ⟨BIG_at 244 (by decide +kernel) (by decide +kernel), BIG_at 245 (by decide +kernel) (by decide +kernel), BIG_at 246 (by decide +kernel) (by decide +kernel)⟩
set_option maxRecDepth 20000 in
theorem Y_Tt_isAheadOf : xY y_Tt_isAheadOf b_Tt_isAheadOf 4 (some .boolean) 2 := ⟨BIG_at 251 rfl rfl, BIG_at 6 (by decide +kernel) (by decide +kernel), by decide +kernel, by decide +kernel, by decide +kernel⟩
theorem i_Pl_118 : xIV R_Pl 118 y_Tt_isAheadOf := ⟨BIG_at 248 (by decide +kernel) (by decide +kernel), BIG_at 249 (by decide +kernel) (by decide +kernel), BIG_at 250 (by decide +kernel) (by decide +kernel)⟩
set_option maxRecDepth 20000 in
theorem Y_Fl_comesBehind : xY y_Fl_comesBehind b_Fl_comesBehind 3 (some .boolean) 2 := ⟨BIG_at 235 rfl rfl, BIG_at 3 (by decide +kernel) (by decide +kernel), by decide +kernel, by decide +kernel, by decide +kernel⟩
theorem i_Pl_122 : xIV R_Pl 122 y_Fl_comesBehind := ⟨BIG_at 232 (by decide +kernel) (by decide +kernel), BIG_at 233 (by decide +kernel) (by decide +kernel), BIG_at 234 (by decide +kernel) (by decide +kernel)⟩
set_option maxRecDepth 20000 in
theorem Y_Tt_begin : xY y_Tt_begin b_Tt_begin 2 (some .int) 1 := ⟨BIG_at 243 rfl rfl, BIG_at 6 (by decide +kernel) (by decide +kernel), by decide +kernel, by decide +kernel, by decide +kernel⟩
theorem i_Pl_125 : xIV R_Pl 125 y_Tt_begin := ⟨BIG_at 240 (by decide +kernel) (by decide +kernel), BIG_at 241 (by decide +kernel) (by decide +kernel), BIG_at 242 (by decide +kernel) (by decide +kernel)⟩
set_option maxRecDepth 20000 in
theorem Y_Tt_chamberOf : xY y_Tt_chamberOf b_Tt_chamberOf 2 (some .int) 1 := ⟨BIG_at 263 rfl rfl, BIG_at 6 (by decide +kernel) (by decide +kernel), by decide +kernel, by decide +kernel, by decide +kernel⟩
theorem i_Pl_128 : xIV R_Pl 128 y_Tt_chamberOf := ⟨BIG_at 378 (by decide +kernel) (by decide +kernel), BIG_at 261 (by decide +kernel) (by decide +kernel), BIG_at 262 (by decide +kernel) (by decide +kernel)⟩
set_option maxRecDepth 20000 in
theorem Y_Tt_runOf : xY y_Tt_runOf b_Tt_runOf 2 (some .int) 1 := ⟨BIG_at 382 rfl rfl, BIG_at 6 (by decide +kernel) (by decide +kernel), by decide +kernel, by decide +kernel, by decide +kernel⟩
theorem i_Pl_131 : xIV R_Pl 131 y_Tt_runOf := ⟨BIG_at 379 (by decide +kernel) (by decide +kernel), BIG_at 380 (by decide +kernel) (by decide +kernel), BIG_at 381 (by decide +kernel) (by decide +kernel)⟩
set_option maxRecDepth 20000 in
theorem Y_Pl_layRunOf : xY y_Pl_layRunOf b_Pl_layRunOf 3 (some .boolean) 1 := ⟨BIG_at 541 rfl rfl, BIG_at 5 (by decide +kernel) (by decide +kernel), by decide +kernel, by decide +kernel, by decide +kernel⟩
theorem i_Pl_134 : xIV R_Pl 134 y_Pl_layRunOf := ⟨BIG_at 538 (by decide +kernel) (by decide +kernel), BIG_at 540 (by decide +kernel) (by decide +kernel), BIG_sel (q := (y_Pl_layRunOf, 8)) 9 (by decide +kernel) (by decide +kernel)⟩
set_option maxRecDepth 20000 in
theorem Y_Be_x : xY y_Be_x b_Be_x 2 (some .int) 1 := ⟨BIG_at 553 rfl rfl, BIG_at 4 (by decide +kernel) (by decide +kernel), by decide +kernel, by decide +kernel, by decide +kernel⟩
theorem i_Pl_137 : xIV R_Pl 137 y_Be_x := ⟨BIG_at 550 (by decide +kernel) (by decide +kernel), BIG_at 551 (by decide +kernel) (by decide +kernel), BIG_at 552 (by decide +kernel) (by decide +kernel)⟩
set_option maxRecDepth 20000 in
theorem Y_Be_y : xY y_Be_y b_Be_y 2 (some .int) 1 := ⟨BIG_at 557 rfl rfl, BIG_at 4 (by decide +kernel) (by decide +kernel), by decide +kernel, by decide +kernel, by decide +kernel⟩
theorem i_Pl_140 : xIV R_Pl 140 y_Be_y := ⟨BIG_at 554 (by decide +kernel) (by decide +kernel), BIG_at 555 (by decide +kernel) (by decide +kernel), BIG_at 556 (by decide +kernel) (by decide +kernel)⟩
set_option maxRecDepth 20000 in
theorem Y_Fl_arrival : xY y_Fl_arrival b_Fl_arrival 2 (some .int) 1 := ⟨BIG_at 561 rfl rfl, BIG_at 3 (by decide +kernel) (by decide +kernel), by decide +kernel, by decide +kernel, by decide +kernel⟩
theorem i_Pl_143 : xIV R_Pl 143 y_Fl_arrival := ⟨BIG_at 558 (by decide +kernel) (by decide +kernel), BIG_at 559 (by decide +kernel) (by decide +kernel), BIG_at 560 (by decide +kernel) (by decide +kernel)⟩
set_option maxRecDepth 20000 in
theorem Y_Tt_aboard : xY y_Tt_aboard b_Tt_aboard 6 (some .int) 3 := ⟨BIG_at 545 rfl rfl, BIG_at 6 (by decide +kernel) (by decide +kernel), by decide +kernel, by decide +kernel, by decide +kernel⟩
theorem i_Pl_146 : xIV R_Pl 146 y_Tt_aboard := ⟨BIG_at 542 (by decide +kernel) (by decide +kernel), BIG_at 543 (by decide +kernel) (by decide +kernel), BIG_at 544 (by decide +kernel) (by decide +kernel)⟩
set_option maxRecDepth 20000 in
theorem Y_Be_lay : xY y_Be_lay b_Be_lay 3 (some .boolean) 2 := ⟨BIG_at 549 rfl rfl, BIG_at 4 (by decide +kernel) (by decide +kernel), by decide +kernel, by decide +kernel, by decide +kernel⟩
theorem i_Pl_150 : xIV R_Pl 150 y_Be_lay := ⟨BIG_at 546 (by decide +kernel) (by decide +kernel), BIG_at 547 (by decide +kernel) (by decide +kernel), BIG_at 548 (by decide +kernel) (by decide +kernel)⟩
set_option maxRecDepth 20000 in
theorem Y_Tt_beginOfAll : xY y_Tt_beginOfAll b_Tt_beginOfAll 3 (some .int) 1 := ⟨BIG_at 577 rfl rfl, BIG_at 6 (by decide +kernel) (by decide +kernel), by decide +kernel, by decide +kernel, by decide +kernel⟩
theorem i_Pl_153 : xIV R_Pl 153 y_Tt_beginOfAll := ⟨BIG_at 574 (by decide +kernel) (by decide +kernel), BIG_at 575 (by decide +kernel) (by decide +kernel), BIG_at 576 (by decide +kernel) (by decide +kernel)⟩
set_option maxRecDepth 20000 in
theorem Y_Tt_waiting : xY y_Tt_waiting b_Tt_waiting 1 (some .int) 0 := ⟨BIG_at 219 rfl rfl, BIG_at 6 (by decide +kernel) (by decide +kernel), by decide +kernel, by decide +kernel, by decide +kernel⟩
theorem i_Pl_44 : xIV R_Pl 44 y_Tt_waiting := ⟨BIG_at 216 (by decide +kernel) (by decide +kernel), BIG_at 217 (by decide +kernel) (by decide +kernel), BIG_at 218 (by decide +kernel) (by decide +kernel)⟩
set_option maxRecDepth 20000 in
theorem Y_Fl_all : xY y_Fl_all b_Fl_all 1 (some .int) 0 := ⟨BIG_at 211 rfl rfl, BIG_at 3 (by decide +kernel) (by decide +kernel), by decide +kernel, by decide +kernel, by decide +kernel⟩
theorem i_Pl_48 : xIV R_Pl 48 y_Fl_all := ⟨BIG_at 208 (by decide +kernel) (by decide +kernel), BIG_at 209 (by decide +kernel) (by decide +kernel), BIG_at 210 (by decide +kernel) (by decide +kernel)⟩
set_option maxRecDepth 20000 in
theorem Y_Pl_tryRuns : xY y_Pl_tryRuns b_Pl_tryRuns 12 none 6 := ⟨BIG_at 215 rfl rfl, BIG_at 5 (by decide +kernel) (by decide +kernel), by decide +kernel, by decide +kernel, by decide +kernel⟩
theorem i_Pl_53 : xIV R_Pl 53 y_Pl_tryRuns := ⟨BIG_at 212 (by decide +kernel) (by decide +kernel), BIG_at 214 (by decide +kernel) (by decide +kernel), BIG_sel (q := (y_Pl_tryRuns, 8)) 0 (by decide +kernel) (by decide +kernel)⟩
set_option maxRecDepth 20000 in
theorem Y_Tt_copyFrom : xY y_Tt_copyFrom b_Tt_copyFrom 3 none 1 := ⟨BIG_at 267 rfl rfl, BIG_at 6 (by decide +kernel) (by decide +kernel), by decide +kernel, by decide +kernel, by decide +kernel⟩
theorem i_Pl_57 : xIV R_Pl 57 y_Tt_copyFrom := ⟨BIG_at 264 (by decide +kernel) (by decide +kernel), BIG_at 265 (by decide +kernel) (by decide +kernel), BIG_at 266 (by decide +kernel) (by decide +kernel)⟩
set_option maxRecDepth 20000 in
theorem Y_Tt_differences : xY y_Tt_differences b_Tt_differences 5 (some .int) 2 := ⟨BIG_at 602 rfl rfl, BIG_at 6 (by decide +kernel) (by decide +kernel), by decide +kernel, by decide +kernel, by decide +kernel⟩
theorem i_Pl_61 : xIV R_Pl 61 y_Tt_differences := ⟨BIG_at 599 (by decide +kernel) (by decide +kernel), BIG_at 600 (by decide +kernel) (by decide +kernel), BIG_at 601 (by decide +kernel) (by decide +kernel)⟩
set_option maxRecDepth 20000 in
theorem Y_Pl_offerTrial : xY y_Pl_offerTrial b_Pl_offerTrial 3 none 1 := ⟨BIG_at 223 rfl rfl, BIG_at 5 (by decide +kernel) (by decide +kernel), by decide +kernel, by decide +kernel, by decide +kernel⟩
theorem i_Pl_65 : xIV R_Pl 65 y_Pl_offerTrial := ⟨BIG_at 220 (by decide +kernel) (by decide +kernel), BIG_at 222 (by decide +kernel) (by decide +kernel), BIG_sel (q := (y_Pl_offerTrial, 8)) 1 (by decide +kernel) (by decide +kernel)⟩
theorem i_Pl_69 : xIV R_Pl 69 y_Ch_has := ⟨BIG_at 268 (by decide +kernel) (by decide +kernel), BIG_at 174 (by decide +kernel) (by decide +kernel), BIG_at 175 (by decide +kernel) (by decide +kernel)⟩
theorem i_Pl_75 : xIV R_Pl 75 y_Ch_fill := ⟨BIG_at 269 (by decide +kernel) (by decide +kernel), BIG_at 270 (by decide +kernel) (by decide +kernel), BIG_at 271 (by decide +kernel) (by decide +kernel)⟩
set_option maxRecDepth 20000 in
theorem Y_Pl_canRun : xY y_Pl_canRun b_Pl_canRun 3 (some .boolean) 2 := ⟨BIG_at 277 rfl rfl, BIG_at 5 (by decide +kernel) (by decide +kernel), by decide +kernel, by decide +kernel, by decide +kernel⟩
theorem i_Pl_79 : xIV R_Pl 79 y_Pl_canRun := ⟨BIG_at 274 (by decide +kernel) (by decide +kernel), BIG_at 276 (by decide +kernel) (by decide +kernel), BIG_sel (q := (y_Pl_canRun, 8)) 4 (by decide +kernel) (by decide +kernel)⟩
set_option maxRecDepth 20000 in
theorem Y_Fl_commonDirection : xY y_Fl_commonDirection b_Fl_commonDirection 4 (some .int) 1 := ⟨BIG_at 281 rfl rfl, BIG_at 3 (by decide +kernel) (by decide +kernel), by decide +kernel, by decide +kernel, by decide +kernel⟩
theorem i_Pl_83 : xIV R_Pl 83 y_Fl_commonDirection := ⟨BIG_at 278 (by decide +kernel) (by decide +kernel), BIG_at 279 (by decide +kernel) (by decide +kernel), BIG_at 280 (by decide +kernel) (by decide +kernel)⟩
set_option maxRecDepth 20000 in
theorem Y_Fl_lastArrival : xY y_Fl_lastArrival b_Fl_lastArrival 4 (some .int) 1 := ⟨BIG_at 321 rfl rfl, BIG_at 3 (by decide +kernel) (by decide +kernel), by decide +kernel, by decide +kernel, by decide +kernel⟩
theorem i_Pl_86 : xIV R_Pl 86 y_Fl_lastArrival := ⟨BIG_at 318 (by decide +kernel) (by decide +kernel), BIG_at 319 (by decide +kernel) (by decide +kernel), BIG_at 320 (by decide +kernel) (by decide +kernel)⟩
set_option maxRecDepth 20000 in
theorem Y_Ch_firstOpen : xY y_Ch_firstOpen b_Ch_firstOpen 6 (some .int) 2 := ⟨BIG_at 327 rfl rfl, BIG_at 2 (by decide +kernel) (by decide +kernel), by decide +kernel, by decide +kernel, by decide +kernel⟩
theorem i_Pl_95 : xIV R_Pl 95 y_Ch_firstOpen := ⟨BIG_at 324 (by decide +kernel) (by decide +kernel), BIG_at 325 (by decide +kernel) (by decide +kernel), BIG_at 326 (by decide +kernel) (by decide +kernel)⟩
set_option maxRecDepth 20000 in
theorem Y_Tt_put : xY y_Tt_put b_Tt_put 6 none 4 := ⟨BIG_at 336 rfl rfl, BIG_at 6 (by decide +kernel) (by decide +kernel), by decide +kernel, by decide +kernel, by decide +kernel⟩
theorem i_Pl_98 : xIV R_Pl 98 y_Tt_put := ⟨BIG_at 333 (by decide +kernel) (by decide +kernel), BIG_at 334 (by decide +kernel) (by decide +kernel), BIG_at 335 (by decide +kernel) (by decide +kernel)⟩
theorem i_Tt_25 : xISN R_Tt 25 y_LR_holds := ⟨"LockRuns", by decide +kernel, BIG_at 253 (by decide +kernel) (by decide +kernel)⟩
set_option maxRecDepth 20000 in
theorem Y_Tt_differs : xY y_Tt_differs b_Tt_differs 3 (some .boolean) 2 := ⟨BIG_at 258 rfl rfl, BIG_at 6 (by decide +kernel) (by decide +kernel), by decide +kernel, by decide +kernel, by decide +kernel⟩
theorem i_Tt_29 : xIV R_Tt 29 y_Tt_differs := ⟨BIG_at 255 (by decide +kernel) (by decide +kernel), BIG_at 257 (by decide +kernel) (by decide +kernel), BIG_sel (q := (y_Tt_differs, 4)) 3 (by decide +kernel) (by decide +kernel)⟩
theorem i_Tt_33 : xIV R_Tt 33 y_Tt_begin := ⟨BIG_at 259 (by decide +kernel) (by decide +kernel), BIG_at 241 (by decide +kernel) (by decide +kernel), BIG_at 242 (by decide +kernel) (by decide +kernel)⟩
theorem i_Tt_37 : xIV R_Tt 37 y_Tt_chamberOf := ⟨BIG_at 260 (by decide +kernel) (by decide +kernel), BIG_at 261 (by decide +kernel) (by decide +kernel), BIG_at 262 (by decide +kernel) (by decide +kernel)⟩
set_option maxRecDepth 20000 in
theorem Y_Pl_hasPlan : xY y_Pl_hasPlan b_Pl_hasPlan 1 (some .boolean) 0 := ⟨BIG_at 361 rfl rfl, BIG_at 5 (by decide +kernel) (by decide +kernel), by decide +kernel, by decide +kernel, by decide +kernel⟩
theorem i_LR_113 : xIV R_LR 113 y_Pl_hasPlan := ⟨BIG_at 358 (by decide +kernel) (by decide +kernel), BIG_at 359 (by decide +kernel) (by decide +kernel), BIG_at 360 (by decide +kernel) (by decide +kernel)⟩
set_option maxRecDepth 20000 in
theorem Y_Ch_size : xY y_Ch_size b_Ch_size 1 (some .int) 0 := ⟨BIG_at 352 rfl rfl, BIG_at 2 (by decide +kernel) (by decide +kernel), by decide +kernel, by decide +kernel, by decide +kernel⟩
theorem i_LR_141 : xIV R_LR 141 y_Ch_size := ⟨BIG_at 349 (by decide +kernel) (by decide +kernel), BIG_at 350 (by decide +kernel) (by decide +kernel), BIG_at 351 (by decide +kernel) (by decide +kernel)⟩
theorem i_LR_151 : xIV R_LR 151 y_Fl_size := ⟨BIG_at 353 (by decide +kernel) (by decide +kernel), BIG_at 225 (by decide +kernel) (by decide +kernel), BIG_at 226 (by decide +kernel) (by decide +kernel)⟩
set_option maxRecDepth 20000 in
theorem Y_Ch_spans : xY y_Ch_spans b_Ch_spans 1 (some .int) 0 := ⟨BIG_at 357 rfl rfl, BIG_at 2 (by decide +kernel) (by decide +kernel), by decide +kernel, by decide +kernel, by decide +kernel⟩
theorem i_LR_152 : xIV R_LR 152 y_Ch_spans := ⟨BIG_at 354 (by decide +kernel) (by decide +kernel), BIG_at 355 (by decide +kernel) (by decide +kernel), BIG_at 356 (by decide +kernel) (by decide +kernel)⟩
set_option maxRecDepth 20000 in
theorem Y_Be_gap : xY y_Be_gap b_Be_gap 1 (some .int) 0 := ⟨BIG_at 365 rfl rfl, BIG_at 4 (by decide +kernel) (by decide +kernel), by decide +kernel, by decide +kernel, by decide +kernel⟩
theorem i_LR_155 : xIV R_LR 155 y_Be_gap := ⟨BIG_at 362 (by decide +kernel) (by decide +kernel), BIG_at 363 (by decide +kernel) (by decide +kernel), BIG_at 364 (by decide +kernel) (by decide +kernel)⟩
set_option maxRecDepth 20000 in
theorem Y_Pl_over : xY y_Pl_over b_Pl_over 1 (some .int) 0 := ⟨BIG_at 369 rfl rfl, BIG_at 5 (by decide +kernel) (by decide +kernel), by decide +kernel, by decide +kernel, by decide +kernel⟩
theorem i_LR_158 : xIV R_LR 158 y_Pl_over := ⟨BIG_at 366 (by decide +kernel) (by decide +kernel), BIG_at 367 (by decide +kernel) (by decide +kernel), BIG_at 368 (by decide +kernel) (by decide +kernel)⟩
set_option maxRecDepth 20000 in
theorem Y_LR_runsOf : xY y_LR_runsOf b_LR_runsOf 2 (some .int) 1 := ⟨BIG_at 373 rfl rfl, BIG_at 1 (by decide +kernel) (by decide +kernel), by decide +kernel, by decide +kernel, by decide +kernel⟩
theorem i_LR_161 : xIV R_LR 161 y_LR_runsOf := ⟨BIG_at 370 (by decide +kernel) (by decide +kernel), BIG_at 372 (by decide +kernel) (by decide +kernel), BIG_sel (q := (y_LR_runsOf, 4)) 7 (by decide +kernel) (by decide +kernel)⟩
set_option maxRecDepth 20000 in
theorem Y_Pl_runs : xY y_Pl_runs b_Pl_runs 4 (some .int) 1 := ⟨BIG_at 377 rfl rfl, BIG_at 5 (by decide +kernel) (by decide +kernel), by decide +kernel, by decide +kernel, by decide +kernel⟩
theorem i_LR_165 : xIV R_LR 165 y_Pl_runs := ⟨BIG_at 374 (by decide +kernel) (by decide +kernel), BIG_at 375 (by decide +kernel) (by decide +kernel), BIG_at 376 (by decide +kernel) (by decide +kernel)⟩
set_option maxRecDepth 20000 in
theorem Y_LR_within : xY y_LR_within b_LR_within 3 (some .boolean) 3 := ⟨BIG_at 191 rfl rfl, BIG_at 1 (by decide +kernel) (by decide +kernel), by decide +kernel, by decide +kernel, by decide +kernel⟩
theorem i_LR_45 : xIS R_LR 45 y_LR_within := ⟨BIG_at 189 (by decide +kernel) (by decide +kernel), BIG_at 190 (by decide +kernel) (by decide +kernel)⟩
set_option maxRecDepth 20000 in
theorem Y_Pl_forget : xY y_Pl_forget b_Pl_forget 1 none 0 := ⟨BIG_at 184 rfl rfl, BIG_at 5 (by decide +kernel) (by decide +kernel), by decide +kernel, by decide +kernel, by decide +kernel⟩
theorem i_LR_65 : xIV R_LR 65 y_Pl_forget := ⟨BIG_at 181 (by decide +kernel) (by decide +kernel), BIG_at 182 (by decide +kernel) (by decide +kernel), BIG_at 183 (by decide +kernel) (by decide +kernel)⟩
theorem i_LR_75 : xIV R_LR 75 y_Ch_has := ⟨BIG_at 173 (by decide +kernel) (by decide +kernel), BIG_at 174 (by decide +kernel) (by decide +kernel), BIG_at 175 (by decide +kernel) (by decide +kernel)⟩
set_option maxRecDepth 20000 in
theorem Y_Ch_addSpan : xY y_Ch_addSpan b_Ch_addSpan 5 (some .boolean) 3 := ⟨BIG_at 180 rfl rfl, BIG_at 2 (by decide +kernel) (by decide +kernel), by decide +kernel, by decide +kernel, by decide +kernel⟩
theorem i_LR_79 : xIV R_LR 79 y_Ch_addSpan := ⟨BIG_at 177 (by decide +kernel) (by decide +kernel), BIG_at 178 (by decide +kernel) (by decide +kernel), BIG_at 179 (by decide +kernel) (by decide +kernel)⟩
set_option maxRecDepth 20000 in
theorem Y_Be_setGap : xY y_Be_setGap b_Be_setGap 2 none 1 := ⟨BIG_at 195 rfl rfl, BIG_at 4 (by decide +kernel) (by decide +kernel), by decide +kernel, by decide +kernel, by decide +kernel⟩
theorem i_LR_82 : xIV R_LR 82 y_Be_setGap := ⟨BIG_at 192 (by decide +kernel) (by decide +kernel), BIG_at 193 (by decide +kernel) (by decide +kernel), BIG_at 194 (by decide +kernel) (by decide +kernel)⟩
set_option maxRecDepth 20000 in
theorem Y_Pl_setOver : xY y_Pl_setOver b_Pl_setOver 2 none 1 := ⟨BIG_at 199 rfl rfl, BIG_at 5 (by decide +kernel) (by decide +kernel), by decide +kernel, by decide +kernel, by decide +kernel⟩
theorem i_LR_86 : xIV R_LR 86 y_Pl_setOver := ⟨BIG_at 196 (by decide +kernel) (by decide +kernel), BIG_at 197 (by decide +kernel) (by decide +kernel), BIG_at 198 (by decide +kernel) (by decide +kernel)⟩
set_option maxRecDepth 20000 in
theorem Y_Pl_search : xY y_Pl_search b_Pl_search 1 (some .boolean) 0 := ⟨BIG_at 207 rfl rfl, BIG_at 5 (by decide +kernel) (by decide +kernel), by decide +kernel, by decide +kernel, by decide +kernel⟩
theorem i_LR_89 : xIV R_LR 89 y_Pl_search := ⟨BIG_at 204 (by decide +kernel) (by decide +kernel), BIG_at 205 (by decide +kernel) (by decide +kernel), BIG_at 206 (by decide +kernel) (by decide +kernel)⟩
set_option maxRecDepth 20000 in
theorem Y_Pl_waiting : xY y_Pl_waiting b_Pl_waiting 1 (some .int) 0 := ⟨BIG_at 344 rfl rfl, BIG_at 5 (by decide +kernel) (by decide +kernel), by decide +kernel, by decide +kernel, by decide +kernel⟩
theorem i_LR_93 : xIV R_LR 93 y_Pl_waiting := ⟨BIG_at 341 (by decide +kernel) (by decide +kernel), BIG_at 342 (by decide +kernel) (by decide +kernel), BIG_at 343 (by decide +kernel) (by decide +kernel)⟩
theorem g_Be_15 : xF R_Be 15 3 3 := ⟨R_Be, F_Be, 6, rfl, i_Be, by decide, BIG_at 90 (by decide +kernel) (by decide +kernel)⟩
theorem g_Be_18 : xF R_Be 18 3 4 := ⟨R_Be, F_Be, 6, rfl, i_Be, by decide, BIG_at 91 (by decide +kernel) (by decide +kernel)⟩
theorem g_Be_21 : xF R_Be 21 3 0 := ⟨R_Be, F_Be, 6, rfl, i_Be, by decide, BIG_at 87 (by decide +kernel) (by decide +kernel)⟩
theorem g_Be_25 : xF R_Be 25 3 1 := ⟨R_Be, F_Be, 6, rfl, i_Be, by decide, BIG_at 88 (by decide +kernel) (by decide +kernel)⟩
theorem g_Be_29 : xF R_Be 29 3 5 := ⟨R_Be, F_Be, 6, rfl, i_Be, by decide, BIG_at 92 (by decide +kernel) (by decide +kernel)⟩
theorem g_Be_9 : xF R_Be 9 3 2 := ⟨R_Be, F_Be, 6, rfl, i_Be, by decide, BIG_at 89 (by decide +kernel) (by decide +kernel)⟩
theorem g_Ch_15 : xF R_Ch 15 1 1 := ⟨R_Ch, F_Ch, 8, rfl, i_Ch, by decide, BIG_at 31 (by decide +kernel) (by decide +kernel)⟩
theorem g_Ch_18 : xF R_Ch 18 1 2 := ⟨R_Ch, F_Ch, 8, rfl, i_Ch, by decide, BIG_at 32 (by decide +kernel) (by decide +kernel)⟩
theorem g_Ch_21 : xF R_Ch 21 1 4 := ⟨R_Ch, F_Ch, 8, rfl, i_Ch, by decide, BIG_at 34 (by decide +kernel) (by decide +kernel)⟩
theorem g_Ch_24 : xF R_Ch 24 1 5 := ⟨R_Ch, F_Ch, 8, rfl, i_Ch, by decide, BIG_at 35 (by decide +kernel) (by decide +kernel)⟩
theorem g_Ch_27 : xF R_Ch 27 1 6 := ⟨R_Ch, F_Ch, 8, rfl, i_Ch, by decide, BIG_at 36 (by decide +kernel) (by decide +kernel)⟩
theorem g_Ch_30 : xF R_Ch 30 1 3 := ⟨R_Ch, F_Ch, 8, rfl, i_Ch, by decide, BIG_at 33 (by decide +kernel) (by decide +kernel)⟩
theorem g_Ch_34 : xF R_Ch 34 1 7 := ⟨R_Ch, F_Ch, 8, rfl, i_Ch, by decide, BIG_at 37 (by decide +kernel) (by decide +kernel)⟩
theorem g_Ch_9 : xF R_Ch 9 1 0 := ⟨R_Ch, F_Ch, 8, rfl, i_Ch, by decide, BIG_at 30 (by decide +kernel) (by decide +kernel)⟩
theorem g_Fl_15 : xF R_Fl 15 2 1 := ⟨R_Fl, F_Fl, 6, rfl, i_Fl, by decide, BIG_at 63 (by decide +kernel) (by decide +kernel)⟩
theorem g_Fl_18 : xF R_Fl 18 2 2 := ⟨R_Fl, F_Fl, 6, rfl, i_Fl, by decide, BIG_at 64 (by decide +kernel) (by decide +kernel)⟩
theorem g_Fl_21 : xF R_Fl 21 2 3 := ⟨R_Fl, F_Fl, 6, rfl, i_Fl, by decide, BIG_at 65 (by decide +kernel) (by decide +kernel)⟩
theorem g_Fl_24 : xF R_Fl 24 2 4 := ⟨R_Fl, F_Fl, 6, rfl, i_Fl, by decide, BIG_at 66 (by decide +kernel) (by decide +kernel)⟩
theorem g_Fl_27 : xF R_Fl 27 2 5 := ⟨R_Fl, F_Fl, 6, rfl, i_Fl, by decide, BIG_at 67 (by decide +kernel) (by decide +kernel)⟩
theorem g_Fl_9 : xF R_Fl 9 2 0 := ⟨R_Fl, F_Fl, 6, rfl, i_Fl, by decide, BIG_at 62 (by decide +kernel) (by decide +kernel)⟩
theorem g_Pl_12 : xF R_Pl 12 5 3 := ⟨R_Pl, F_Pl, 8, rfl, i_Pl, by decide, BIG_at 134 (by decide +kernel) (by decide +kernel)⟩
theorem g_Pl_18 : xF R_Pl 18 5 4 := ⟨R_Pl, F_Pl, 8, rfl, i_Pl, by decide, BIG_at 135 (by decide +kernel) (by decide +kernel)⟩
theorem g_Pl_21 : xF R_Pl 21 5 5 := ⟨R_Pl, F_Pl, 8, rfl, i_Pl, by decide, BIG_at 136 (by decide +kernel) (by decide +kernel)⟩
theorem g_Pl_24 : xF R_Pl 24 5 7 := ⟨R_Pl, F_Pl, 8, rfl, i_Pl, by decide, BIG_at 138 (by decide +kernel) (by decide +kernel)⟩
theorem g_Pl_28 : xF R_Pl 28 5 0 := ⟨R_Pl, F_Pl, 8, rfl, i_Pl, by decide, BIG_at 131 (by decide +kernel) (by decide +kernel)⟩
theorem g_Pl_32 : xF R_Pl 32 5 1 := ⟨R_Pl, F_Pl, 8, rfl, i_Pl, by decide, BIG_at 132 (by decide +kernel) (by decide +kernel)⟩
theorem g_Pl_36 : xF R_Pl 36 5 2 := ⟨R_Pl, F_Pl, 8, rfl, i_Pl, by decide, BIG_at 133 (by decide +kernel) (by decide +kernel)⟩
theorem g_Pl_40 : xF R_Pl 40 5 6 := ⟨R_Pl, F_Pl, 8, rfl, i_Pl, by decide, BIG_at 137 (by decide +kernel) (by decide +kernel)⟩
theorem g_Tt_15 : xF R_Tt 15 4 1 := ⟨R_Tt, F_Tt, 4, rfl, i_Tt, by decide, BIG_at 119 (by decide +kernel) (by decide +kernel)⟩
theorem g_Tt_18 : xF R_Tt 18 4 2 := ⟨R_Tt, F_Tt, 4, rfl, i_Tt, by decide, BIG_at 120 (by decide +kernel) (by decide +kernel)⟩
theorem g_Tt_21 : xF R_Tt 21 4 3 := ⟨R_Tt, F_Tt, 4, rfl, i_Tt, by decide, BIG_at 121 (by decide +kernel) (by decide +kernel)⟩
theorem g_Tt_9 : xF R_Tt 9 4 0 := ⟨R_Tt, F_Tt, 4, rfl, i_Tt, by decide, BIG_at 118 (by decide +kernel) (by decide +kernel)⟩
theorem g_LR_12 : xF R_LR 12 0 0 := ⟨R_LR, F_LR, 4, rfl, i_LR, by decide, BIG_at 156 (by decide +kernel) (by decide +kernel)⟩
theorem g_LR_19 : xF R_LR 19 0 1 := ⟨R_LR, F_LR, 4, rfl, i_LR, by decide, BIG_at 157 (by decide +kernel) (by decide +kernel)⟩
theorem g_LR_28 : xF R_LR 28 0 2 := ⟨R_LR, F_LR, 4, rfl, i_LR, by decide, BIG_at 158 (by decide +kernel) (by decide +kernel)⟩
theorem g_LR_37 : xF R_LR 37 0 3 := ⟨R_LR, F_LR, 4, rfl, i_LR, by decide, BIG_at 159 (by decide +kernel) (by decide +kernel)⟩
theorem gw_Be_gap : xFW 3 5 .int := ⟨R_Be, F_Be, 6, t_Be, rfl, t_Be_ok, n_Be, rfl, by decide +kernel⟩
theorem gw_Ch_size : xFW 1 3 .int := ⟨R_Ch, F_Ch, 8, t_Ch, rfl, t_Ch_ok, n_Ch, rfl, by decide +kernel⟩
theorem gw_Ch_spans : xFW 1 7 .int := ⟨R_Ch, F_Ch, 8, t_Ch, rfl, t_Ch_ok, n_Ch, rfl, by decide +kernel⟩
theorem gw_Fl_size : xFW 2 5 .int := ⟨R_Fl, F_Fl, 6, t_Fl, rfl, t_Fl_ok, n_Fl, rfl, by decide +kernel⟩
theorem gw_Pl_over : xFW 5 7 .int := ⟨R_Pl, F_Pl, 8, t_Pl, rfl, t_Pl_ok, n_Pl, rfl, by decide +kernel⟩
theorem gw_Pl_planned : xFW 5 6 .boolean := ⟨R_Pl, F_Pl, 8, t_Pl, rfl, t_Pl_ok, n_Pl, rfl, by decide +kernel⟩
theorem gw_Tt_waiting : xFW 4 3 .int := ⟨R_Tt, F_Tt, 4, t_Tt, rfl, t_Tt_ok, n_Tt, rfl, by decide +kernel⟩
theorem mm_Be_61 : xMM R_Be 61 Lib.Math.max.name Lib.Math.max.code := ⟨BIG_at 315 (by decide +kernel) (by decide +kernel), BIG_at 316 (by decide +kernel) (by decide +kernel), BIG_at 13 (by decide +kernel) (by decide +kernel), BIG_at 317 (by decide +kernel) (by decide +kernel)⟩
theorem mm_Fl_39 : xMM R_Fl 39 Lib.Math.max.name Lib.Math.max.code := ⟨BIG_at 322 (by decide +kernel) (by decide +kernel), BIG_at 316 (by decide +kernel) (by decide +kernel), BIG_at 13 (by decide +kernel) (by decide +kernel), BIG_at 317 (by decide +kernel) (by decide +kernel)⟩
theorem mm_Pl_89 : xMM R_Pl 89 Lib.Math.max.name Lib.Math.max.code := ⟨BIG_at 323 (by decide +kernel) (by decide +kernel), BIG_at 316 (by decide +kernel) (by decide +kernel), BIG_at 13 (by decide +kernel) (by decide +kernel), BIG_at 317 (by decide +kernel) (by decide +kernel)⟩
