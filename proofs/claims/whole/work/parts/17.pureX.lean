theorem i_LR_104 : xIV R_LR 104 y_Be_canLay := ⟨BIG_at 507 (by decide +kernel) (by decide +kernel), BIG_at 284 (by decide +kernel) (by decide +kernel), BIG_at 285 (by decide +kernel) (by decide +kernel)⟩
theorem i_LR_107 : xIV R_LR 107 y_Fl_has := ⟨BIG_at 516 (by decide +kernel) (by decide +kernel), BIG_at 237 (by decide +kernel) (by decide +kernel), BIG_at 238 (by decide +kernel) (by decide +kernel)⟩
set_option maxRecDepth 20000 in
theorem Y_Pl_tellShip : xY y_Pl_tellShip b_Pl_tellShip 3 (some .int) 2 := ⟨BIG_at 537 rfl rfl, BIG_at 5 (by decide +kernel) (by decide +kernel), by decide +kernel, by decide +kernel, by decide +kernel⟩
theorem i_LR_118 : xIV R_LR 118 y_Pl_tellShip := ⟨BIG_at 534 (by decide +kernel) (by decide +kernel), BIG_at 535 (by decide +kernel) (by decide +kernel), BIG_at 536 (by decide +kernel) (by decide +kernel)⟩
set_option maxRecDepth 20000 in
theorem Y_Pl_tellRun : xY y_Pl_tellRun b_Pl_tellRun 5 (some .int) 3 := ⟨BIG_at 573 rfl rfl, BIG_at 5 (by decide +kernel) (by decide +kernel), by decide +kernel, by decide +kernel, by decide +kernel⟩
theorem i_LR_124 : xIV R_LR 124 y_Pl_tellRun := ⟨BIG_at 570 (by decide +kernel) (by decide +kernel), BIG_at 571 (by decide +kernel) (by decide +kernel), BIG_at 572 (by decide +kernel) (by decide +kernel)⟩
set_option maxRecDepth 20000 in
theorem Y_Pl_keepForComparison : xY y_Pl_keepForComparison b_Pl_keepForComparison 1 none 0 := ⟨BIG_at 590 rfl rfl, BIG_at 5 (by decide +kernel) (by decide +kernel), by decide +kernel, by decide +kernel, by decide +kernel⟩
theorem i_LR_131 : xIV R_LR 131 y_Pl_keepForComparison := ⟨BIG_at 587 (by decide +kernel) (by decide +kernel), BIG_at 588 (by decide +kernel) (by decide +kernel), BIG_at 589 (by decide +kernel) (by decide +kernel)⟩
set_option maxRecDepth 20000 in
theorem Y_Fl_setArrival : xY y_Fl_setArrival b_Fl_setArrival 3 none 2 := ⟨BIG_at 594 rfl rfl, BIG_at 3 (by decide +kernel) (by decide +kernel), by decide +kernel, by decide +kernel, by decide +kernel⟩
theorem i_LR_134 : xIV R_LR 134 y_Fl_setArrival := ⟨BIG_at 591 (by decide +kernel) (by decide +kernel), BIG_at 592 (by decide +kernel) (by decide +kernel), BIG_at 593 (by decide +kernel) (by decide +kernel)⟩
set_option maxRecDepth 20000 in
theorem Y_Pl_moved : xY y_Pl_moved b_Pl_moved 1 (some .int) 0 := ⟨BIG_at 598 rfl rfl, BIG_at 5 (by decide +kernel) (by decide +kernel), by decide +kernel, by decide +kernel, by decide +kernel⟩
theorem i_LR_138 : xIV R_LR 138 y_Pl_moved := ⟨BIG_at 595 (by decide +kernel) (by decide +kernel), BIG_at 596 (by decide +kernel) (by decide +kernel), BIG_at 597 (by decide +kernel) (by decide +kernel)⟩
set_option maxRecDepth 20000 in
theorem Y_LR_canMeasure : xY y_LR_canMeasure b_LR_canMeasure 2 (some .boolean) 2 := ⟨BIG_at 394 rfl rfl, BIG_at 1 (by decide +kernel) (by decide +kernel), by decide +kernel, by decide +kernel, by decide +kernel⟩
theorem i_LR_41 : xIS R_LR 41 y_LR_canMeasure := ⟨BIG_at 392 (by decide +kernel) (by decide +kernel), BIG_at 393 (by decide +kernel) (by decide +kernel)⟩
set_option maxRecDepth 20000 in
theorem Y_Ch_add : xY y_Ch_add b_Ch_add 5 (some .int) 3 := ⟨BIG_at 467 rfl rfl, BIG_at 2 (by decide +kernel) (by decide +kernel), by decide +kernel, by decide +kernel, by decide +kernel⟩
theorem i_LR_56 : xIV R_LR 56 y_Ch_add := ⟨BIG_at 464 (by decide +kernel) (by decide +kernel), BIG_at 465 (by decide +kernel) (by decide +kernel), BIG_at 466 (by decide +kernel) (by decide +kernel)⟩
set_option maxRecDepth 20000 in
theorem Y_Fl_add : xY y_Fl_add b_Fl_add 7 (some .int) 5 := ⟨BIG_at 495 rfl rfl, BIG_at 3 (by decide +kernel) (by decide +kernel), by decide +kernel, by decide +kernel, by decide +kernel⟩
theorem i_LR_70 : xIV R_LR 70 y_Fl_add := ⟨BIG_at 492 (by decide +kernel) (by decide +kernel), BIG_at 493 (by decide +kernel) (by decide +kernel), BIG_at 494 (by decide +kernel) (by decide +kernel)⟩
theorem i_LR_99 : xIV R_LR 99 y_Fl_all := ⟨BIG_at 505 (by decide +kernel) (by decide +kernel), BIG_at 209 (by decide +kernel) (by decide +kernel), BIG_at 210 (by decide +kernel) (by decide +kernel)⟩
theorem e_LR_110 : xE R_LR 108 110 112 "no such ship or what" 2 := ⟨BIG_at 517 (by decide +kernel) (by decide +kernel), BIG_at 14 (by decide +kernel) (by decide +kernel), BIG_at 527 (by decide +kernel) (by decide +kernel), List.mem_of_getElem? (i := 526) (by decide +kernel)⟩
theorem e_LR_122 : xE R_LR 108 122 112 "no such chamber or what" 2 := ⟨BIG_at 517 (by decide +kernel) (by decide +kernel), BIG_at 14 (by decide +kernel) (by decide +kernel), BIG_at 527 (by decide +kernel) (by decide +kernel), List.mem_of_getElem? (i := 569) (by decide +kernel)⟩
theorem e_LR_127 : xE R_LR 108 127 112 "no such ship" 2 := ⟨BIG_at 517 (by decide +kernel) (by decide +kernel), BIG_at 14 (by decide +kernel) (by decide +kernel), BIG_at 527 (by decide +kernel) (by decide +kernel), List.mem_of_getElem? (i := 585) (by decide +kernel)⟩
theorem e_LR_148 : xE R_LR 146 148 150 "no minutes" 3 := ⟨BIG_at 619 (by decide +kernel) (by decide +kernel), BIG_at 15 (by decide +kernel) (by decide +kernel), BIG_at 629 (by decide +kernel) (by decide +kernel), List.mem_of_getElem? (i := 628) (by decide +kernel)⟩
theorem e_LR_102 : xE R_LR 49 102 53 "a bit is no ship" 0 := ⟨BIG_at 395 (by decide +kernel) (by decide +kernel), BIG_at 11 (by decide +kernel) (by decide +kernel), BIG_at 438 (by decide +kernel) (by decide +kernel), List.mem_of_getElem? (i := 506) (by decide +kernel)⟩
theorem e_LR_129 : xE R_LR 49 129 53 "no ship arrives then" 0 := ⟨BIG_at 395 (by decide +kernel) (by decide +kernel), BIG_at 11 (by decide +kernel) (by decide +kernel), BIG_at 438 (by decide +kernel) (by decide +kernel), List.mem_of_getElem? (i := 586) (by decide +kernel)⟩
theorem e_LR_144 : xE R_LR 49 144 53 "runs and minutes are 0 to 1000" 0 := ⟨BIG_at 395 (by decide +kernel) (by decide +kernel), BIG_at 11 (by decide +kernel) (by decide +kernel), BIG_at 438 (by decide +kernel) (by decide +kernel), List.mem_of_getElem? (i := 618) (by decide +kernel)⟩
theorem e_LR_51 : xE R_LR 49 51 53 "no chamber has such numbers" 0 := ⟨BIG_at 395 (by decide +kernel) (by decide +kernel), BIG_at 11 (by decide +kernel) (by decide +kernel), BIG_at 438 (by decide +kernel) (by decide +kernel), List.mem_of_getElem? (i := 437) (by decide +kernel)⟩
theorem e_LR_68 : xE R_LR 49 68 53 "no ship has such numbers" 0 := ⟨BIG_at 395 (by decide +kernel) (by decide +kernel), BIG_at 11 (by decide +kernel) (by decide +kernel), BIG_at 438 (by decide +kernel) (by decide +kernel), List.mem_of_getElem? (i := 491) (by decide +kernel)⟩
theorem e_LR_97 : xE R_LR 49 97 53 "no such chamber" 0 := ⟨BIG_at 395 (by decide +kernel) (by decide +kernel), BIG_at 11 (by decide +kernel) (by decide +kernel), BIG_at 438 (by decide +kernel) (by decide +kernel), List.mem_of_getElem? (i := 504) (by decide +kernel)⟩
theorem e_LR_116 : xE R_LR 60 116 64 "there is no plan" 1 := ⟨BIG_at 468 (by decide +kernel) (by decide +kernel), BIG_at 12 (by decide +kernel) (by decide +kernel), BIG_at 478 (by decide +kernel) (by decide +kernel), List.mem_of_getElem? (i := 533) (by decide +kernel)⟩
theorem e_LR_62 : xE R_LR 60 62 64 "there are 2 chambers" 1 := ⟨BIG_at 468 (by decide +kernel) (by decide +kernel), BIG_at 12 (by decide +kernel) (by decide +kernel), BIG_at 478 (by decide +kernel) (by decide +kernel), List.mem_of_getElem? (i := 477) (by decide +kernel)⟩
theorem e_LR_73 : xE R_LR 60 73 64 "there are 4 ships" 1 := ⟨BIG_at 468 (by decide +kernel) (by decide +kernel), BIG_at 12 (by decide +kernel) (by decide +kernel), BIG_at 478 (by decide +kernel) (by decide +kernel), List.mem_of_getElem? (i := 496) (by decide +kernel)⟩
def f_LR_chamber (x1 x2 x3 : Int32) (st : St) : Option ((Nat × Int32) × St) :=
  (f_LR_canMeasure x1 x2 st).bind (fun o1 => (if o1.1 = 0 then some ((1, 0), o1.2) else (f_LR_within x3 1 60 o1.2).bind (fun o2 => (if o2.1 = 0 then some ((1, 0), o2.2) else (f_Ch_add x1 x2 x3 o2.2).bind (fun o3 => (if o3.1 = (-1) then some ((2, 0), o3.2) else (f_Pl_forget o3.2).bind (fun o4 => some ((0, o3.1), o4))))))))
def rm_LR_chamber : Room := { frames := 6, cells := 1, slots := 6, locals := 90 }
def f_LR_ship (x1 x2 x3 x4 x5 : Int32) (st : St) : Option ((Nat × Int32) × St) :=
  (f_LR_canMeasure x1 x2 st).bind (fun o1 => (if o1.1 = 0 then some ((1, 0), o1.2) else (f_LR_within x3 0 1000 o1.2).bind (fun o2 => (if o2.1 = 0 then some ((1, 0), o2.2) else (f_LR_within x4 0 1 o2.2).bind (fun o3 => (if o3.1 = 0 then some ((1, 0), o3.2) else (f_LR_within x5 0 2 o3.2).bind (fun o4 => (if o4.1 = 0 then some ((1, 0), o4.2) else (f_Fl_add x1 x2 x3 x4 x5 o4.2).bind (fun o5 => (if o5.1 = (-1) then some ((2, 0), o5.2) else (f_Pl_forget o5.2).bind (fun o6 => some ((0, o5.1), o6))))))))))))
def rm_LR_ship : Room := { frames := 6, cells := 1, slots := 6, locals := 90 }
def f_LR_fits (x1 x2 : Int32) (st : St) : Option ((Nat × Int32) × St) :=
  (f_Ch_has x1 st).bind (fun o1 => (if o1.1 = 0 then some ((1, 0), o1.2) else (f_Fl_all o1.2).bind (fun o2 => (if (x2 &&& (o2.1 ^^^ (-1))) = 0 then (f_Be_canLay x1 x2 o2.2).bind (fun o3 => (if o3.1 = 0 ∨ o3.1 = 1 then some ((0, o3.1), o3.2) else none)) else some ((1, 0), o2.2)))))
def rm_LR_fits : Room := { frames := 9, cells := 1, slots := 6, locals := 268 }
def f_LR_of (x1 x2 : Int32) (st : St) : Option ((Nat × Int32) × St) :=
  (f_Fl_has x1 st).bind (fun o1 => (if o1.1 = 0 then some ((3, 0), o1.2) else (f_LR_within x2 0 6 o1.2).bind (fun o2 => (if o2.1 = 0 then some ((3, 0), o2.2) else (f_Pl_hasPlan o2.2).bind (fun o3 => (if o3.1 = 0 then some ((2, 0), o3.2) else (f_Pl_tellShip x1 x2 o3.2).bind (fun o4 => some ((0, o4.1), o4.2))))))))
def rm_LR_of : Room := { frames := 11, cells := 1, slots := 6, locals := 311 }
def f_LR_run (x1 x2 x3 : Int32) (st : St) : Option ((Nat × Int32) × St) :=
  (f_Ch_has x1 st).bind (fun o1 => (if o1.1 = 0 then some ((3, 0), o1.2) else (f_LR_within x3 0 2 o1.2).bind (fun o2 => (if o2.1 = 0 then some ((3, 0), o2.2) else (f_Pl_hasPlan o2.2).bind (fun o3 => (if o3.1 = 0 then some ((2, 0), o3.2) else (f_Pl_tellRun x1 x2 x3 o3.2).bind (fun o4 => some ((0, o4.1), o4.2))))))))
def rm_LR_run : Room := { frames := 6, cells := 1, slots := 6, locals := 90 }
def f_LR_late (x1 x2 : Int32) (st : St) : Option ((Nat × Int32) × St) :=
  (f_Fl_has x1 st).bind (fun o1 => (if o1.1 = 0 then some ((3, 0), o1.2) else (f_LR_within x2 0 1000 o1.2).bind (fun o2 => (if o2.1 = 0 then some ((1, 0), o2.2) else (f_Pl_hasPlan o2.2).bind (fun o3 => (if o3.1 = 0 then some ((2, 0), o3.2) else (f_Pl_keepForComparison o3.2).bind (fun o4 => (f_Fl_setArrival x1 x2 o4).bind (fun o5 => (f_Pl_search o5).bind (fun o6 => (if o6.1 = 0 then some ((0, (-1)), o6.2) else (f_Pl_moved o6.2).bind (fun o7 => some ((0, o7.1), o7.2))))))))))))
def rm_LR_late : Room := { frames := 20, cells := 1, slots := 6, locals := 589 }
def b_LR_home_23 (K23 : Int32 → Int32 → St → Option ((Nat × Int32) × St)) (x1 x2 : Int32) (st : St) : Option ((Nat × Int32) × St) :=
  (f_Ch_size st).bind (fun o2 => (if o2.1 ≤ x2 then some ((0, (-1)), o2.2) else (f_Be_canLay x2 (1 <<< (x1 &&& 31)) o2.2).bind (fun o3 => (if o3.1 = 0 then K23 x1 (x2 + 1) o3.2 else some ((0, x2), o3.2)))))
def f_LR_home_23 : Nat → Int32 → Int32 → St → Option ((Nat × Int32) × St)
  | 0 => fun _ _ _ => none
  | n + 1 => b_LR_home_23 (f_LR_home_23 n)
def f_LR_home (x1 : Int32) (st : St) : Option ((Nat × Int32) × St) :=
  (f_Fl_has x1 st).bind (fun o1 => (if o1.1 = 0 then some ((3, 0), o1.2) else f_LR_home_23 40 x1 0 o1.2))
def rm_LR_home : Room := { frames := 9, cells := 1, slots := 6, locals := 268 }
def f_LR_rate (x1 x2 : Int32) (st : St) : Option ((Nat × Int32) × St) :=
  (f_LR_within x1 0 1000 st).bind (fun o1 => (if o1.1 = 0 then some ((1, 0), o1.2) else (f_LR_within x2 0 1000 o1.2).bind (fun o2 => (if o2.1 = 0 then some ((1, 0), o2.2) else (if x2 = 0 then some ((4, 0), o2.2) else (if ¬ x2 = 0 then some ((0, (60 * x1) / x2), o2.2) else none))))))
def rm_LR_rate : Room := { frames := 6, cells := 1, slots := 6, locals := 90 }
