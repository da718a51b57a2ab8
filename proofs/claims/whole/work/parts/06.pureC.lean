def f_Fl_all (st : St) : Option (Int32 × St) :=
  some ((1 <<< ((st.1 2) &&& 31)) - 1, st)
def rm_Fl_all : Room := { frames := 0, cells := 0, slots := 0, locals := 0 }
def f_Ch_has (x1 : Int32) (st : St) : Option (Int32 × St) :=
  (if x1 < 0 then some (0, st) else (if (st.1 0) ≤ x1 then some (0, st) else (if 2 ≤ x1 then some (0, st) else some (1, st))))
def rm_Ch_has : Room := { frames := 0, cells := 0, slots := 0, locals := 0 }
def f_Ch_fill (x1 : Int32) (st : St) : Option (Int32 × St) :=
  (f_Ch_has x1 st).bind (fun o1 => (if o1.1 = 0 then some (0, o1.2) else (if xin x1 2 then some (o1.2.2 2 x1.toNatClampNeg, o1.2) else none)))
def rm_Ch_fill : Room := { frames := 1, cells := 0, slots := 0, locals := 21 }
def f_Pl_tryRuns_186 (REC : Int32 → Int32 → Int32 → Int32 → Int32 → Int32 → St → Option (St)) (K56 : Int32 → Int32 → Int32 → Int32 → Int32 → Int32 → Int32 → Int32 → St → Option (St)) (x1 x2 x3 x4 x5 x6 x7 x8 : Int32) (st : St) : Option (St) :=
  K56 x1 x2 x3 x4 x5 x6 x7 (x8 + 1) st
def f_LR_holds (x0 x1 : Int32) (st : St) : Option (Int32 × St) :=
  (if (x0 &&& (1 <<< (x1 &&& 31))) = 0 then some (0, st) else some (1, st))
def rm_LR_holds : Room := { frames := 0, cells := 0, slots := 0, locals := 0 }
def f_Fl_commonDirection_41 (K4 : Int32 → Int32 → Int32 → St → Option (Int32 × St)) (x1 x2 x3 : Int32) (st : St) : Option (Int32 × St) :=
  K4 x1 x2 (x3 + 1) st
def f_Fl_commonDirection_34 (K4 : Int32 → Int32 → Int32 → St → Option (Int32 × St)) (x1 x3 : Int32) (st : St) : Option (Int32 × St) :=
  (if xin x3 4 then xlet (st.2 9 x3.toNatClampNeg) (fun v3 => f_Fl_commonDirection_41 K4 x1 v3 x3 st) else none)
def b_Fl_commonDirection_4 (K4 : Int32 → Int32 → Int32 → St → Option (Int32 × St)) (x1 x2 x3 : Int32) (st : St) : Option (Int32 × St) :=
  (if 4 ≤ x3 then some (x2, st) else (f_LR_holds x1 x3 st).bind (fun o1 => (if o1.1 = 0 then f_Fl_commonDirection_41 K4 x1 x2 x3 o1.2 else (if x2 = (-1) then f_Fl_commonDirection_34 K4 x1 x3 o1.2 else (if xin x3 4 then (if x2 = (o1.2.2 9 x3.toNatClampNeg) then f_Fl_commonDirection_34 K4 x1 x3 o1.2 else some ((-1), o1.2)) else none)))))
def f_Fl_commonDirection_4 : Nat → Int32 → Int32 → Int32 → St → Option (Int32 × St)
  | 0 => fun _ _ _ _ => none
  | n + 1 => b_Fl_commonDirection_4 (f_Fl_commonDirection_4 n)
def f_Fl_commonDirection (x1 : Int32) (st : St) : Option (Int32 × St) :=
  f_Fl_commonDirection_4 40 x1 (-1) 0 st
def rm_Fl_commonDirection : Room := { frames := 1, cells := 0, slots := 0, locals := 21 }
def f_Be_canLay_60 (x3 : Int32) (st : St) : Option (Int32 × St) :=
  (if xin x3 128 then (if (st.2 13 x3.toNatClampNeg) = 1 then some (1, st) else some (0, st)) else none)
def f_Fl_has (x1 : Int32) (st : St) : Option (Int32 × St) :=
  (if x1 < 0 then some (0, st) else (if (st.1 2) ≤ x1 then some (0, st) else (if 4 ≤ x1 then some (0, st) else some (1, st))))
def rm_Fl_has : Room := { frames := 0, cells := 0, slots := 0, locals := 0 }
def f_Fl_length (x1 : Int32) (st : St) : Option (Int32 × St) :=
  (f_Fl_has x1 st).bind (fun o1 => (if o1.1 = 0 then some (0, o1.2) else (if xin x1 4 then some (o1.2.2 6 x1.toNatClampNeg, o1.2) else none)))
def rm_Fl_length : Room := { frames := 1, cells := 0, slots := 0, locals := 21 }
def f_Fl_width (x1 : Int32) (st : St) : Option (Int32 × St) :=
  (f_Fl_has x1 st).bind (fun o1 => (if o1.1 = 0 then some (0, o1.2) else (if xin x1 4 then some (o1.2.2 7 x1.toNatClampNeg, o1.2) else none)))
def rm_Fl_width : Room := { frames := 1, cells := 0, slots := 0, locals := 21 }
def f_Ch_length (x1 : Int32) (st : St) : Option (Int32 × St) :=
  (f_Ch_has x1 st).bind (fun o1 => (if o1.1 = 0 then some (0, o1.2) else (if xin x1 2 then some (o1.2.2 0 x1.toNatClampNeg, o1.2) else none)))
def rm_Ch_length : Room := { frames := 1, cells := 0, slots := 0, locals := 21 }
def f_Ch_width (x1 : Int32) (st : St) : Option (Int32 × St) :=
  (f_Ch_has x1 st).bind (fun o1 => (if o1.1 = 0 then some (0, o1.2) else (if xin x1 2 then some (o1.2.2 1 x1.toNatClampNeg, o1.2) else none)))
def rm_Ch_width : Room := { frames := 1, cells := 0, slots := 0, locals := 21 }
def f_Fl_side (x1 : Int32) (st : St) : Option (Int32 × St) :=
  (f_Fl_has x1 st).bind (fun o1 => (if o1.1 = 0 then some (2, o1.2) else (if xin x1 4 then some (o1.2.2 10 x1.toNatClampNeg, o1.2) else none)))
def rm_Fl_side : Room := { frames := 1, cells := 0, slots := 0, locals := 21 }
def f_Be_cells_62 (K10 : Int32 → Int32 → Int32 → Int32 → Int32 → St → Option (Int32 × St)) (x1 x2 x3 x4 x5 : Int32) (st : St) : Option (Int32 × St) :=
  K10 x1 x2 x3 x4 (x5 + 1) st
def b_Be_cells_30 (K10 : Int32 → Int32 → Int32 → Int32 → Int32 → St → Option (Int32 × St)) (K30 : Int32 → Int32 → Int32 → Int32 → Int32 → Int32 → St → Option (Int32 × St)) (x1 x2 x3 x4 x5 x6 : Int32) (st : St) : Option (Int32 × St) :=
  (if x3 ≤ x6 then f_Be_cells_62 K10 x1 x2 x3 x4 x5 st else (if 3 ≤ x6 then f_Be_cells_62 K10 x1 x2 x3 x4 x5 st else xlet (x4 ||| (1 <<< (((3 * x5) + x6) &&& 31))) (fun v3 => K30 x1 x2 x3 v3 x5 (x6 + 1) st)))
def f_Be_cells_30 (K10 : Int32 → Int32 → Int32 → Int32 → Int32 → St → Option (Int32 × St)) : Nat → Int32 → Int32 → Int32 → Int32 → Int32 → Int32 → St → Option (Int32 × St)
  | 0 => fun _ _ _ _ _ _ _ => none
  | n + 1 => b_Be_cells_30 K10 (f_Be_cells_30 K10 n)
def b_Be_cells_10 (K10 : Int32 → Int32 → Int32 → Int32 → Int32 → St → Option (Int32 × St)) (x1 x2 x3 x4 x5 : Int32) (st : St) : Option (Int32 × St) :=
  (if x1 ≤ x5 then some (x4, st) else (if 8 ≤ x5 then some (x4, st) else xlet (if x2 < 0 then 0 else x2) (fun v2 => f_Be_cells_30 K10 40 x1 x2 x3 x4 x5 v2 st)))
def f_Be_cells_10 : Nat → Int32 → Int32 → Int32 → Int32 → Int32 → St → Option (Int32 × St)
  | 0 => fun _ _ _ _ _ _ => none
  | n + 1 => b_Be_cells_10 (f_Be_cells_10 n)
def f_Be_cells (x0 x1 x2 x3 : Int32) (st : St) : Option (Int32 × St) :=
  xlet (if x0 < 0 then 0 else x0) (fun v1 => f_Be_cells_10 40 x1 x2 x3 0 v1 st)
def rm_Be_cells : Room := { frames := 1, cells := 0, slots := 0, locals := 21 }
def f_Be_layFrom_240 (REC : Int32 → Int32 → Int32 → Int32 → St → Option (Int32 × St)) (K132 : Int32 → Int32 → Int32 → Int32 → Int32 → Int32 → Int32 → Int32 → Int32 → Int32 → Int32 → St → Option (Int32 × St)) (K143 : Int32 → Int32 → Int32 → Int32 → Int32 → Int32 → Int32 → Int32 → Int32 → Int32 → Int32 → Int32 → St → Option (Int32 × St)) (x1 x2 x3 x4 x5 x6 x7 x8 x9 x10 x11 x12 : Int32) (st : St) : Option (Int32 × St) :=
  K143 x1 x2 x3 x4 x5 x6 x7 x8 x9 x10 x11 (x12 + 1) st
def b_Be_layFrom_143 (REC : Int32 → Int32 → Int32 → Int32 → St → Option (Int32 × St)) (K132 : Int32 → Int32 → Int32 → Int32 → Int32 → Int32 → Int32 → Int32 → Int32 → Int32 → Int32 → St → Option (Int32 × St)) (K143 : Int32 → Int32 → Int32 → Int32 → Int32 → Int32 → Int32 → Int32 → Int32 → Int32 → Int32 → Int32 → St → Option (Int32 × St)) (x1 x2 x3 x4 x5 x6 x7 x8 x9 x10 x11 x12 : Int32) (st : St) : Option (Int32 × St) :=
  (if x8 < x12 then K132 x1 x2 x3 x4 x5 x6 x7 x8 x9 x10 (x11 + 1) st else (if ((x10 <<< (((3 * x11) + x12) &&& 31)) &&& x4) = 0 then (if xin x1 4 then xlet (sA st 11 x1.toNatClampNeg x11) (fun s12 => (if xin x1 4 then xlet (sA s12 12 x1.toNatClampNeg x12) (fun s14 => (f_Be_cells (x11 - (s14.1 3)) ((x11 + x5) + (s14.1 3)) (x12 - (s14.1 3)) ((x12 + x6) + (s14.1 3)) s14).bind (fun o15 => (REC (x1 + 1) x2 x3 (x4 ||| o15.1) o15.2).bind (fun o16 => (if o16.1 = 0 then f_Be_layFrom_240 REC K132 K143 x1 x2 x3 x4 x5 x6 x7 x8 x9 x10 x11 x12 o16.2 else some (1, o16.2))))) else none)) else none) else f_Be_layFrom_240 REC K132 K143 x1 x2 x3 x4 x5 x6 x7 x8 x9 x10 x11 x12 st))
def f_Be_layFrom_143 (REC : Int32 → Int32 → Int32 → Int32 → St → Option (Int32 × St)) (K132 : Int32 → Int32 → Int32 → Int32 → Int32 → Int32 → Int32 → Int32 → Int32 → Int32 → Int32 → St → Option (Int32 × St)) : Nat → Int32 → Int32 → Int32 → Int32 → Int32 → Int32 → Int32 → Int32 → Int32 → Int32 → Int32 → Int32 → St → Option (Int32 × St)
  | 0 => fun _ _ _ _ _ _ _ _ _ _ _ _ _ => none
  | n + 1 => b_Be_layFrom_143 REC K132 (f_Be_layFrom_143 REC K132 n)
def b_Be_layFrom_132 (REC : Int32 → Int32 → Int32 → Int32 → St → Option (Int32 × St)) (K132 : Int32 → Int32 → Int32 → Int32 → Int32 → Int32 → Int32 → Int32 → Int32 → Int32 → Int32 → St → Option (Int32 × St)) (x1 x2 x3 x4 x5 x6 x7 x8 x9 x10 x11 : Int32) (st : St) : Option (Int32 × St) :=
  (if x7 < x11 then some (0, st) else f_Be_layFrom_143 REC K132 40 x1 x2 x3 x4 x5 x6 x7 x8 x9 x10 x11 x9 st)
def f_Be_layFrom_132 (REC : Int32 → Int32 → Int32 → Int32 → St → Option (Int32 × St)) : Nat → Int32 → Int32 → Int32 → Int32 → Int32 → Int32 → Int32 → Int32 → Int32 → Int32 → Int32 → St → Option (Int32 × St)
  | 0 => fun _ _ _ _ _ _ _ _ _ _ _ _ => none
  | n + 1 => b_Be_layFrom_132 REC (f_Be_layFrom_132 REC n)
def f_Be_layFrom_118 (REC : Int32 → Int32 → Int32 → Int32 → St → Option (Int32 × St)) (x1 x2 x3 x4 x5 x6 x7 x8 x9 : Int32) (st : St) : Option (Int32 × St) :=
  (f_Be_cells 0 x5 0 x6 st).bind (fun o10 => f_Be_layFrom_132 REC 40 x1 x2 x3 x4 x5 x6 x7 x8 x9 o10.1 0 o10.2)
def f_Be_layFrom_102 (REC : Int32 → Int32 → Int32 → Int32 → St → Option (Int32 × St)) (x1 x2 x3 x4 x5 x6 x7 x8 y0 : Int32) (st : St) : Option (Int32 × St) :=
  (f_Fl_side x1 st).bind (fun o9 => (if o9.1 = 0 then f_Be_layFrom_118 REC x1 x2 x3 x4 x5 x6 x7 0 y0 o9.2 else f_Be_layFrom_118 REC x1 x2 x3 x4 x5 x6 x7 x8 y0 o9.2))
def fb_Be_layFrom (REC : Int32 → Int32 → Int32 → Int32 → St → Option (Int32 × St)) (x1 x2 x3 x4 : Int32) (st : St) : Option (Int32 × St) :=
  (if x1 < 0 then some (1, st) else (if x1 < 4 then (f_LR_holds x3 x1 st).bind (fun o1 => (if o1.1 = 0 then (REC (x1 + 1) x2 x3 x4 o1.2).bind (fun o17 => (if o17.1 = 0 ∨ o17.1 = 1 then some (o17.1, o17.2) else none)) else (f_Fl_length x1 o1.2).bind (fun o2 => (f_Fl_width x1 o2.2).bind (fun o3 => (f_Ch_length x2 o3.2).bind (fun o4 => xlet (o4.1 - o2.1) (fun v5 => (f_Ch_width x2 o4.2).bind (fun o6 => xlet (o6.1 - o3.1) (fun v7 => (if 0 ≤ v7 then (f_Fl_side x1 o6.2).bind (fun o8 => (if o8.1 = 1 then f_Be_layFrom_102 REC x1 x2 x3 x4 o2.1 o3.1 v5 v7 v7 o8.2 else f_Be_layFrom_102 REC x1 x2 x3 x4 o2.1 o3.1 v5 v7 0 o8.2)) else some (0, o6.2)))))))))) else some (1, st)))
def f_Be_layFrom : Nat → Int32 → Int32 → Int32 → Int32 → St → Option (Int32 × St)
  | 0 => fun _ _ _ _ _ => none
  | d + 1 => fb_Be_layFrom (f_Be_layFrom d)
def rm_Be_layFrom (d : Nat) : Room := { frames := 2 + d, cells := 0, slots := 0, locals := 47 + d * 33 }
def f_Be_canLay_59 (x3 y0 y1 : Int32) (st : St) : Option (Int32 × St) :=
  (if xin y1 128 then xlet (sA st 13 y1.toNatClampNeg y0) (fun s6 => f_Be_canLay_60 x3 s6) else none)
def f_Be_canLay (x1 x2 : Int32) (st : St) : Option (Int32 × St) :=
  xlet (((((st.1 3) * 2) + x1) * 16) + x2) (fun v1 => (if v1 < 0 then some (0, st) else (if v1 < 128 then (if xin v1 128 then (if (st.2 13 v1.toNatClampNeg) = 0 then (f_Be_layFrom 5 0 x1 x2 0 st).bind (fun o4 => (if o4.1 = 0 then f_Be_canLay_59 v1 2 v1 o4.2 else f_Be_canLay_59 v1 1 v1 o4.2)) else f_Be_canLay_60 v1 st) else none) else some (0, st))))
def rm_Be_canLay : Room := { frames := 8, cells := 0, slots := 0, locals := 245 }
def f_Pl_canRun (x1 x2 : Int32) (st : St) : Option (Int32 × St) :=
  (f_Fl_commonDirection x2 st).bind (fun o1 => (if o1.1 = (-1) then some (0, o1.2) else (f_Be_canLay x1 x2 o1.2).bind (fun o2 => (if o2.1 = 0 then some (0, o2.2) else some (1, o2.2)))))
def rm_Pl_canRun : Room := { frames := 9, cells := 0, slots := 0, locals := 268 }
def f_Fl_lastArrival_28 (K4 : Int32 → Int32 → Int32 → St → Option (Int32 × St)) (x1 x2 x3 : Int32) (st : St) : Option (Int32 × St) :=
  K4 x1 x2 (x3 + 1) st
def b_Fl_lastArrival_4 (K4 : Int32 → Int32 → Int32 → St → Option (Int32 × St)) (x1 x2 x3 : Int32) (st : St) : Option (Int32 × St) :=
  (if 4 ≤ x3 then some (x2, st) else (f_LR_holds x1 x3 st).bind (fun o1 => (if o1.1 = 0 then f_Fl_lastArrival_28 K4 x1 x2 x3 o1.2 else (if xin x3 4 then xlet (if x2 < (o1.2.2 8 x3.toNatClampNeg) then o1.2.2 8 x3.toNatClampNeg else x2) (fun v3 => f_Fl_lastArrival_28 K4 x1 v3 x3 o1.2) else none))))
def f_Fl_lastArrival_4 : Nat → Int32 → Int32 → Int32 → St → Option (Int32 × St)
  | 0 => fun _ _ _ _ => none
  | n + 1 => b_Fl_lastArrival_4 (f_Fl_lastArrival_4 n)
def f_Fl_lastArrival (x1 : Int32) (st : St) : Option (Int32 × St) :=
  f_Fl_lastArrival_4 40 x1 0 0 st
def rm_Fl_lastArrival : Room := { frames := 1, cells := 0, slots := 0, locals := 21 }
def f_Ch_pastSpans_74 (K12 : Int32 → Int32 → Int32 → Int32 → St → Option (Int32 × St)) (x1 x3 x4 x5 : Int32) (st : St) : Option (Int32 × St) :=
  K12 x1 x3 x4 (x5 + 1) st
def b_Ch_pastSpans_12 (K12 : Int32 → Int32 → Int32 → Int32 → St → Option (Int32 × St)) (x1 x3 x4 x5 : Int32) (st : St) : Option (Int32 × St) :=
  (if 8 ≤ x5 then some (x4, st) else (if (st.1 1) ≤ x5 then some (x4, st) else (if xin x5 8 then (if (st.2 3 x5.toNatClampNeg) = x1 then (if xin x5 8 then (if (st.2 5 x5.toNatClampNeg) ≤ x4 then f_Ch_pastSpans_74 K12 x1 x3 x4 x5 st else (if xin x5 8 then (if (x4 + x3) ≤ (st.2 4 x5.toNatClampNeg) then f_Ch_pastSpans_74 K12 x1 x3 x4 x5 st else (if xin x5 8 then xlet (st.2 5 x5.toNatClampNeg) (fun v6 => f_Ch_pastSpans_74 K12 x1 x3 v6 x5 st) else none)) else none)) else none) else f_Ch_pastSpans_74 K12 x1 x3 x4 x5 st) else none)))
def f_Ch_pastSpans_12 : Nat → Int32 → Int32 → Int32 → Int32 → St → Option (Int32 × St)
  | 0 => fun _ _ _ _ _ => none
  | n + 1 => b_Ch_pastSpans_12 (f_Ch_pastSpans_12 n)
def f_Ch_pastSpans (x1 x2 : Int32) (st : St) : Option (Int32 × St) :=
  (f_Ch_fill x1 st).bind (fun o1 => f_Ch_pastSpans_12 40 x1 o1.1 x2 0 o1.2)
def rm_Ch_pastSpans : Room := { frames := 2, cells := 0, slots := 0, locals := 42 }
def b_Ch_firstOpen_5 (K5 : Int32 → Int32 → Int32 → St → Option (Int32 × St)) (x1 x3 x4 : Int32) (st : St) : Option (Int32 × St) :=
  (if 8 ≤ x4 then some (x3, st) else (f_Ch_pastSpans x1 x3 st).bind (fun o1 => (if o1.1 = x3 then some (x3, o1.2) else K5 x1 o1.1 (x4 + 1) o1.2)))
def f_Ch_firstOpen_5 : Nat → Int32 → Int32 → Int32 → St → Option (Int32 × St)
  | 0 => fun _ _ _ _ => none
  | n + 1 => b_Ch_firstOpen_5 (f_Ch_firstOpen_5 n)
def f_Ch_firstOpen (x1 x2 : Int32) (st : St) : Option (Int32 × St) :=
  f_Ch_firstOpen_5 40 x1 x2 0 st
def rm_Ch_firstOpen : Room := { frames := 3, cells := 0, slots := 0, locals := 67 }
def f_Tt_put_tr_43 (K3 : Int32 → Int32 → Int32 → Int32 → Int32 → St → Option (St)) (x1 x2 x3 x4 x5 : Int32) (st : St) : Option (St) :=
  K3 x1 x2 x3 x4 (x5 + 1) st
def b_Tt_put_tr_3 (K3 : Int32 → Int32 → Int32 → Int32 → Int32 → St → Option (St)) (x1 x2 x3 x4 x5 : Int32) (st : St) : Option (St) :=
  (if 4 ≤ x5 then some st else (f_LR_holds x1 x5 st).bind (fun o1 => (if o1.1 = 0 then f_Tt_put_tr_43 K3 x1 x2 x3 x4 x5 o1.2 else (if xin x5 4 then xlet (sA o1.2 14 x5.toNatClampNeg x4) (fun s3 => (if xin x5 4 then xlet (sA s3 15 x5.toNatClampNeg x2) (fun s5 => (if xin x5 4 then xlet (sA s5 16 x5.toNatClampNeg x3) (fun s7 => f_Tt_put_tr_43 K3 x1 x2 x3 x4 x5 s7) else none)) else none)) else none))))
def f_Tt_put_tr_3 : Nat → Int32 → Int32 → Int32 → Int32 → Int32 → St → Option (St)
  | 0 => fun _ _ _ _ _ _ => none
  | n + 1 => b_Tt_put_tr_3 (f_Tt_put_tr_3 n)
def f_Tt_put_tr (x1 x2 x3 x4 : Int32) (st : St) : Option (St) :=
  f_Tt_put_tr_3 40 x1 x2 x3 x4 0 st
def rm_Tt_put_tr : Room := { frames := 1, cells := 0, slots := 0, locals := 21 }
def f_Fl_waiting_32 (K5 : Int32 → Int32 → Int32 → Int32 → St → Option (Int32 × St)) (x1 x2 x3 x4 : Int32) (st : St) : Option (Int32 × St) :=
  K5 x1 x2 x3 (x4 + 1) st
def b_Fl_waiting_5 (K5 : Int32 → Int32 → Int32 → Int32 → St → Option (Int32 × St)) (x1 x2 x3 x4 : Int32) (st : St) : Option (Int32 × St) :=
  (if 4 ≤ x4 then some (x3, st) else (f_LR_holds x1 x4 st).bind (fun o1 => (if o1.1 = 0 then f_Fl_waiting_32 K5 x1 x2 x3 x4 o1.2 else (if xin x4 4 then xlet (x3 + (x2 - (o1.2.2 8 x4.toNatClampNeg))) (fun v3 => f_Fl_waiting_32 K5 x1 x2 v3 x4 o1.2) else none))))
def f_Fl_waiting_5 : Nat → Int32 → Int32 → Int32 → Int32 → St → Option (Int32 × St)
  | 0 => fun _ _ _ _ _ => none
  | n + 1 => b_Fl_waiting_5 (f_Fl_waiting_5 n)
def f_Fl_waiting (x1 x2 : Int32) (st : St) : Option (Int32 × St) :=
  f_Fl_waiting_5 40 x1 x2 0 0 st
def rm_Fl_waiting : Room := { frames := 1, cells := 0, slots := 0, locals := 21 }
def f_Pl_tryRuns_110 (REC : Int32 → Int32 → Int32 → Int32 → Int32 → Int32 → St → Option (St)) (K56 : Int32 → Int32 → Int32 → Int32 → Int32 → Int32 → Int32 → Int32 → St → Option (St)) (x1 x2 x3 x4 x5 x6 x7 x8 x9 y0 : Int32) (st : St) : Option (St) :=
  (f_Fl_lastArrival x8 st).bind (fun o6 => (f_Ch_firstOpen x1 (if y0 < o6.1 then o6.1 else y0) o6.2).bind (fun o7 => (f_Tt_put_tr x8 x1 x2 o7.1 o7.2).bind (fun o8 => (f_Fl_waiting x8 o7.1 o8).bind (fun o9 => (REC x1 (x2 + 1) (x3 &&& (x8 ^^^ (-1))) (o7.1 + x7) (1 - x9) (x6 + o9.1) o9.2).bind (fun o10 => f_Pl_tryRuns_186 REC K56 x1 x2 x3 x4 x5 x6 x7 x8 o10)))))
def b_Pl_tryRuns_56 (REC : Int32 → Int32 → Int32 → Int32 → Int32 → Int32 → St → Option (St)) (K56 : Int32 → Int32 → Int32 → Int32 → Int32 → Int32 → Int32 → Int32 → St → Option (St)) (x1 x2 x3 x4 x5 x6 x7 x8 : Int32) (st : St) : Option (St) :=
  (if 16 ≤ x8 then (REC (x1 + 1) 0 x3 0 0 x6 st).bind (fun o3 => some o3) else (if (x8 &&& (x3 ^^^ (-1))) = 0 then (f_Pl_canRun x1 x8 st).bind (fun o4 => (if o4.1 = 0 then f_Pl_tryRuns_186 REC K56 x1 x2 x3 x4 x5 x6 x7 x8 o4.2 else (f_Fl_commonDirection x8 o4.2).bind (fun o5 => (if x5 = o5.1 then f_Pl_tryRuns_110 REC K56 x1 x2 x3 x4 x5 x6 x7 x8 o5.1 x4 o5.2 else f_Pl_tryRuns_110 REC K56 x1 x2 x3 x4 x5 x6 x7 x8 o5.1 (x4 + x7) o5.2)))) else f_Pl_tryRuns_186 REC K56 x1 x2 x3 x4 x5 x6 x7 x8 st))
def f_Pl_tryRuns_56 (REC : Int32 → Int32 → Int32 → Int32 → Int32 → Int32 → St → Option (St)) : Nat → Int32 → Int32 → Int32 → Int32 → Int32 → Int32 → Int32 → Int32 → St → Option (St)
  | 0 => fun _ _ _ _ _ _ _ _ _ => none
  | n + 1 => b_Pl_tryRuns_56 REC (f_Pl_tryRuns_56 REC n)
def f_Fl_size (st : St) : Option (Int32 × St) :=
  some (st.1 2, st)
def rm_Fl_size : Room := { frames := 0, cells := 0, slots := 0, locals := 0 }
def f_Tt_setWaiting_tr (x1 : Int32) (st : St) : Option (St) :=
  xlet (sI st 4 x1) (fun s1 => some s1)
def rm_Tt_setWaiting_tr : Room := { frames := 0, cells := 0, slots := 0, locals := 0 }
def b_Tt_copyFrom_bs_tr_2 (K2 : Int32 → St → Option (St)) (x2 : Int32) (st : St) : Option (St) :=
  (if 4 ≤ x2 then xlet (sI st 5 (st.1 4)) (fun s1 => some s1) else (if xin x2 4 then (if xin x2 4 then xlet (sA st 17 x2.toNatClampNeg (st.2 14 x2.toNatClampNeg)) (fun s4 => (if xin x2 4 then (if xin x2 4 then xlet (sA s4 18 x2.toNatClampNeg (s4.2 15 x2.toNatClampNeg)) (fun s7 => (if xin x2 4 then (if xin x2 4 then xlet (sA s7 19 x2.toNatClampNeg (s7.2 16 x2.toNatClampNeg)) (fun s10 => K2 (x2 + 1) s10) else none) else none)) else none) else none)) else none) else none))
def f_Tt_copyFrom_bs_tr_2 : Nat → Int32 → St → Option (St)
  | 0 => fun _ _ => none
  | n + 1 => b_Tt_copyFrom_bs_tr_2 (f_Tt_copyFrom_bs_tr_2 n)
def f_Tt_copyFrom_bs_tr (st : St) : Option (St) :=
  f_Tt_copyFrom_bs_tr_2 40 0 st
def rm_Tt_copyFrom_bs_tr : Room := { frames := 0, cells := 0, slots := 0, locals := 0 }
def f_Pl_offerTrial_72 (st : St) : Option (St) :=
  (f_Tt_copyFrom_bs_tr st).bind (fun o3 => xlet (sI o3 7 1) (fun s4 => some s4))
def f_Tt_isAheadOf_tr_bs_103 (K30 : Int32 → Int32 → St → Option (Int32 × St)) (x2 x3 : Int32) (st : St) : Option (Int32 × St) :=
  K30 x2 (x3 + 1) st
def f_Tt_begin_tr (x1 : Int32) (st : St) : Option (Int32 × St) :=
  (if x1 < 0 then some ((-1), st) else (if 4 ≤ x1 then some ((-1), st) else (if xin x1 4 then some (st.2 14 x1.toNatClampNeg, st) else none)))
def rm_Tt_begin_tr : Room := { frames := 0, cells := 0, slots := 0, locals := 0 }
def f_Tt_begin_bs (x1 : Int32) (st : St) : Option (Int32 × St) :=
  (if x1 < 0 then some ((-1), st) else (if 4 ≤ x1 then some ((-1), st) else (if xin x1 4 then some (st.2 17 x1.toNatClampNeg, st) else none)))
def rm_Tt_begin_bs : Room := { frames := 0, cells := 0, slots := 0, locals := 0 }
def f_Tt_differs_tr_bs_26 (st : St) : Option (Int32 × St) :=
  some (1, st)
def f_Tt_chamberOf_tr (x1 : Int32) (st : St) : Option (Int32 × St) :=
  (if x1 < 0 then some ((-1), st) else (if 4 ≤ x1 then some ((-1), st) else (if xin x1 4 then some (st.2 15 x1.toNatClampNeg, st) else none)))
def rm_Tt_chamberOf_tr : Room := { frames := 0, cells := 0, slots := 0, locals := 0 }
def f_Tt_chamberOf_bs (x1 : Int32) (st : St) : Option (Int32 × St) :=
  (if x1 < 0 then some ((-1), st) else (if 4 ≤ x1 then some ((-1), st) else (if xin x1 4 then some (st.2 18 x1.toNatClampNeg, st) else none)))
def rm_Tt_chamberOf_bs : Room := { frames := 0, cells := 0, slots := 0, locals := 0 }
def f_Tt_differs_tr_bs (x2 : Int32) (st : St) : Option (Int32 × St) :=
  (f_Tt_begin_tr x2 st).bind (fun o1 => (f_Tt_begin_bs x2 o1.2).bind (fun o2 => (if o1.1 = o2.1 then (f_Tt_chamberOf_tr x2 o2.2).bind (fun o3 => (f_Tt_chamberOf_bs x2 o3.2).bind (fun o4 => (if o3.1 = o4.1 then some (0, o4.2) else f_Tt_differs_tr_bs_26 o4.2))) else f_Tt_differs_tr_bs_26 o2.2)))
def rm_Tt_differs_tr_bs : Room := { frames := 1, cells := 0, slots := 0, locals := 21 }
def f_Tt_isAheadOf_tr_bs_97 (st : St) : Option (Int32 × St) :=
  some (1, st)
def b_Tt_isAheadOf_tr_bs_30 (K30 : Int32 → Int32 → St → Option (Int32 × St)) (x2 x3 : Int32) (st : St) : Option (Int32 × St) :=
  (if 4 ≤ x3 then some (0, st) else (f_LR_holds x2 x3 st).bind (fun o1 => (if o1.1 = 0 then f_Tt_isAheadOf_tr_bs_103 K30 x2 x3 o1.2 else (f_Tt_differs_tr_bs x3 o1.2).bind (fun o2 => (if o2.1 = 0 then f_Tt_isAheadOf_tr_bs_103 K30 x2 x3 o2.2 else (if xin x3 4 then (if xin x3 4 then (if (o2.2.2 14 x3.toNatClampNeg) < (o2.2.2 17 x3.toNatClampNeg) then f_Tt_isAheadOf_tr_bs_97 o2.2 else (if xin x3 4 then (if xin x3 4 then (if (o2.2.2 14 x3.toNatClampNeg) = (o2.2.2 17 x3.toNatClampNeg) then (if xin x3 4 then (if xin x3 4 then (if (o2.2.2 18 x3.toNatClampNeg) ≤ (o2.2.2 15 x3.toNatClampNeg) then some (0, o2.2) else f_Tt_isAheadOf_tr_bs_97 o2.2) else none) else none) else some (0, o2.2)) else none) else none)) else none) else none))))))
def f_Tt_isAheadOf_tr_bs_30 : Nat → Int32 → Int32 → St → Option (Int32 × St)
  | 0 => fun _ _ _ => none
  | n + 1 => b_Tt_isAheadOf_tr_bs_30 (f_Tt_isAheadOf_tr_bs_30 n)
def f_Tt_isAheadOf_tr_bs (x2 : Int32) (st : St) : Option (Int32 × St) :=
  (if (st.1 4) = (st.1 5) then f_Tt_isAheadOf_tr_bs_30 40 x2 0 st else (if (st.1 5) ≤ (st.1 4) then some (0, st) else some (1, st)))
def rm_Tt_isAheadOf_tr_bs : Room := { frames := 2, cells := 0, slots := 0, locals := 43 }
def f_Fl_comesBehind_68 (st : St) : Option (Int32 × St) :=
  some (1, st)
def f_Fl_comesBehind (x1 x2 : Int32) (st : St) : Option (Int32 × St) :=
  (f_Fl_has x1 st).bind (fun o1 => (if o1.1 = 0 then some (0, o1.2) else (f_Fl_has x2 o1.2).bind (fun o2 => (if o2.1 = 0 then some (0, o2.2) else (if xin x1 4 then (if xin x2 4 then (if (o2.2.2 9 x1.toNatClampNeg) = (o2.2.2 9 x2.toNatClampNeg) then (if xin x1 4 then (if xin x2 4 then (if (o2.2.2 8 x2.toNatClampNeg) < (o2.2.2 8 x1.toNatClampNeg) then f_Fl_comesBehind_68 o2.2 else (if xin x1 4 then (if xin x2 4 then (if (o2.2.2 8 x1.toNatClampNeg) = (o2.2.2 8 x2.toNatClampNeg) then (if x1 ≤ x2 then some (0, o2.2) else f_Fl_comesBehind_68 o2.2) else some (0, o2.2)) else none) else none)) else none) else none) else some (0, o2.2)) else none) else none)))))
def rm_Fl_comesBehind : Room := { frames := 1, cells := 0, slots := 0, locals := 21 }
def f_Pl_overtaken_tr_47 (K5 : Int32 → Int32 → Int32 → St → Option (Int32 × St)) (x2 x3 x4 : Int32) (st : St) : Option (Int32 × St) :=
  K5 x2 x3 (x4 + 1) st
def b_Pl_overtaken_tr_5 (K5 : Int32 → Int32 → Int32 → St → Option (Int32 × St)) (x2 x3 x4 : Int32) (st : St) : Option (Int32 × St) :=
  (f_Fl_size st).bind (fun o1 => (if o1.1 ≤ x4 then some (x3, o1.2) else (f_Fl_comesBehind x4 x2 o1.2).bind (fun o2 => (if o2.1 = 0 then f_Pl_overtaken_tr_47 K5 x2 x3 x4 o2.2 else (f_Tt_begin_tr x4 o2.2).bind (fun o3 => (f_Tt_begin_tr x2 o3.2).bind (fun o4 => (if o4.1 ≤ o3.1 then f_Pl_overtaken_tr_47 K5 x2 x3 x4 o4.2 else f_Pl_overtaken_tr_47 K5 x2 (x3 + 1) x4 o4.2)))))))
def f_Pl_overtaken_tr_5 : Nat → Int32 → Int32 → Int32 → St → Option (Int32 × St)
  | 0 => fun _ _ _ _ => none
  | n + 1 => b_Pl_overtaken_tr_5 (f_Pl_overtaken_tr_5 n)
def f_Pl_overtaken_tr (x2 : Int32) (st : St) : Option (Int32 × St) :=
  f_Pl_overtaken_tr_5 40 x2 0 0 st
def rm_Pl_overtaken_tr : Room := { frames := 2, cells := 0, slots := 0, locals := 43 }
def b_Pl_offerTrial_2 (K2 : Int32 → Int32 → St → Option (St)) (x1 x2 : Int32) (st : St) : Option (St) :=
  (f_Fl_size st).bind (fun o1 => (if o1.1 ≤ x2 then (f_Tt_setWaiting_tr x1 o1.2).bind (fun o2 => (if (o2.1 7) = 0 then f_Pl_offerTrial_72 o2 else (f_Fl_all o2).bind (fun o5 => (f_Tt_isAheadOf_tr_bs o5.1 o5.2).bind (fun o6 => (if o6.1 = 0 then some o6.2 else f_Pl_offerTrial_72 o6.2))))) else (f_Pl_overtaken_tr x2 o1.2).bind (fun o7 => (if o7.1 ≤ (o7.2.1 8) then K2 x1 (x2 + 1) o7.2 else some o7.2))))
def f_Pl_offerTrial_2 : Nat → Int32 → Int32 → St → Option (St)
  | 0 => fun _ _ _ => none
  | n + 1 => b_Pl_offerTrial_2 (f_Pl_offerTrial_2 n)
def f_Pl_offerTrial (x1 : Int32) (st : St) : Option (St) :=
  f_Pl_offerTrial_2 40 x1 0 st
def rm_Pl_offerTrial : Room := { frames := 3, cells := 0, slots := 0, locals := 67 }
def f_Pl_tryRuns_20 (REC : Int32 → Int32 → Int32 → Int32 → Int32 → Int32 → St → Option (St)) (x1 x2 x3 x4 x5 x6 : Int32) (st : St) : Option (St) :=
  (if x3 = 0 then (f_Pl_offerTrial x6 st).bind (fun o11 => some o11) else (f_Ch_has x1 st).bind (fun o1 => (if o1.1 = 0 then some o1.2 else (f_Ch_fill x1 o1.2).bind (fun o2 => f_Pl_tryRuns_56 REC 40 x1 x2 x3 x4 x5 x6 o2.1 1 o2.2))))
def f_Tt_waiting_bs (st : St) : Option (Int32 × St) :=
  some (st.1 5, st)
def rm_Tt_waiting_bs : Room := { frames := 0, cells := 0, slots := 0, locals := 0 }
def fb_Pl_tryRuns (REC : Int32 → Int32 → Int32 → Int32 → Int32 → Int32 → St → Option (St)) (x1 x2 x3 x4 x5 x6 : Int32) (st : St) : Option (St) :=
  (if (st.1 7) = 0 then f_Pl_tryRuns_20 REC x1 x2 x3 x4 x5 x6 st else (f_Tt_waiting_bs st).bind (fun o12 => (if x6 ≤ o12.1 then f_Pl_tryRuns_20 REC x1 x2 x3 x4 x5 x6 o12.2 else some o12.2)))
def f_Pl_tryRuns : Nat → Int32 → Int32 → Int32 → Int32 → Int32 → Int32 → St → Option (St)
  | 0 => fun _ _ _ _ _ _ _ => none
  | d + 1 => fb_Pl_tryRuns (f_Pl_tryRuns d)
def rm_Pl_tryRuns (d : Nat) : Room := { frames := 10 + d, cells := 0, slots := 0, locals := 290 + d * 31 }
def f_Pl_search (st : St) : Option (Int32 × St) :=
  xlet (sI st 7 0) (fun s1 => (f_Fl_all s1).bind (fun o2 => (f_Pl_tryRuns 8 0 0 o2.1 0 0 0 o2.2).bind (fun o3 => (if (o3.1 7) = 0 ∨ (o3.1 7) = 1 then some (o3.1 7, o3) else none))))
def rm_Pl_search : Room := { frames := 19, cells := 0, slots := 0, locals := 569 }
def f_Tt_runOf_bs (x1 : Int32) (st : St) : Option (Int32 × St) :=
  (if x1 < 0 then some ((-1), st) else (if 4 ≤ x1 then some ((-1), st) else (if xin x1 4 then some (st.2 19 x1.toNatClampNeg, st) else none)))
def rm_Tt_runOf_bs : Room := { frames := 0, cells := 0, slots := 0, locals := 0 }
def f_Tt_aboard_bs_52 (K6 : Int32 → Int32 → Int32 → Int32 → Int32 → St → Option (Int32 × St)) (x1 x2 x3 x4 x5 : Int32) (st : St) : Option (Int32 × St) :=
  K6 x1 x2 x3 x4 (x5 + 1) st
def b_Tt_aboard_bs_6 (K6 : Int32 → Int32 → Int32 → Int32 → Int32 → St → Option (Int32 × St)) (x1 x2 x3 x4 x5 : Int32) (st : St) : Option (Int32 × St) :=
  (if 4 ≤ x5 then some (x4, st) else (f_LR_holds x3 x5 st).bind (fun o1 => (if o1.1 = 0 then f_Tt_aboard_bs_52 K6 x1 x2 x3 x4 x5 o1.2 else (if xin x5 4 then (if (o1.2.2 18 x5.toNatClampNeg) = x1 then (if xin x5 4 then (if (o1.2.2 19 x5.toNatClampNeg) = x2 then xlet (x4 ||| (1 <<< (x5 &&& 31))) (fun v4 => f_Tt_aboard_bs_52 K6 x1 x2 x3 v4 x5 o1.2) else f_Tt_aboard_bs_52 K6 x1 x2 x3 x4 x5 o1.2) else none) else f_Tt_aboard_bs_52 K6 x1 x2 x3 x4 x5 o1.2) else none))))
def f_Tt_aboard_bs_6 : Nat → Int32 → Int32 → Int32 → Int32 → Int32 → St → Option (Int32 × St)
  | 0 => fun _ _ _ _ _ _ => none
  | n + 1 => b_Tt_aboard_bs_6 (f_Tt_aboard_bs_6 n)
def f_Tt_aboard_bs (x1 x2 x3 : Int32) (st : St) : Option (Int32 × St) :=
  f_Tt_aboard_bs_6 40 x1 x2 x3 0 0 st
def rm_Tt_aboard_bs : Room := { frames := 1, cells := 0, slots := 0, locals := 21 }
def f_Be_lay (x1 x2 : Int32) (st : St) : Option (Int32 × St) :=
  (f_Be_layFrom 5 0 x1 x2 0 st).bind (fun o1 => (if o1.1 = 0 ∨ o1.1 = 1 then some (o1.1, o1.2) else none))
def rm_Be_lay : Room := { frames := 8, cells := 0, slots := 0, locals := 245 }
def f_Pl_layRunOf (x1 : Int32) (st : St) : Option (Int32 × St) :=
  (f_Tt_chamberOf_bs x1 st).bind (fun o1 => (f_Tt_runOf_bs x1 o1.2).bind (fun o2 => (f_Fl_all o2.2).bind (fun o3 => (f_Tt_aboard_bs o1.1 o2.1 o3.1 o3.2).bind (fun o4 => (f_Be_lay o1.1 o4.1 o4.2).bind (fun o5 => (if o5.1 = 0 ∨ o5.1 = 1 then some (o5.1, o5.2) else none))))))
def rm_Pl_layRunOf : Room := { frames := 9, cells := 0, slots := 0, locals := 267 }
def f_Be_x (x1 : Int32) (st : St) : Option (Int32 × St) :=
  (if x1 < 0 then some ((-1), st) else (if 4 ≤ x1 then some ((-1), st) else (if xin x1 4 then some (st.2 11 x1.toNatClampNeg, st) else none)))
def rm_Be_x : Room := { frames := 0, cells := 0, slots := 0, locals := 0 }
def f_Be_y (x1 : Int32) (st : St) : Option (Int32 × St) :=
  (if x1 < 0 then some ((-1), st) else (if 4 ≤ x1 then some ((-1), st) else (if xin x1 4 then some (st.2 12 x1.toNatClampNeg, st) else none)))
def rm_Be_y : Room := { frames := 0, cells := 0, slots := 0, locals := 0 }
def f_Fl_arrival (x1 : Int32) (st : St) : Option (Int32 × St) :=
  (f_Fl_has x1 st).bind (fun o1 => (if o1.1 = 0 then some (0, o1.2) else (if xin x1 4 then some (o1.2.2 8 x1.toNatClampNeg, o1.2) else none)))
def rm_Fl_arrival : Room := { frames := 1, cells := 0, slots := 0, locals := 21 }
def f_Pl_overtaken_bs_47 (K5 : Int32 → Int32 → Int32 → St → Option (Int32 × St)) (x2 x3 x4 : Int32) (st : St) : Option (Int32 × St) :=
  K5 x2 x3 (x4 + 1) st
def b_Pl_overtaken_bs_5 (K5 : Int32 → Int32 → Int32 → St → Option (Int32 × St)) (x2 x3 x4 : Int32) (st : St) : Option (Int32 × St) :=
  (f_Fl_size st).bind (fun o1 => (if o1.1 ≤ x4 then some (x3, o1.2) else (f_Fl_comesBehind x4 x2 o1.2).bind (fun o2 => (if o2.1 = 0 then f_Pl_overtaken_bs_47 K5 x2 x3 x4 o2.2 else (f_Tt_begin_bs x4 o2.2).bind (fun o3 => (f_Tt_begin_bs x2 o3.2).bind (fun o4 => (if o4.1 ≤ o3.1 then f_Pl_overtaken_bs_47 K5 x2 x3 x4 o4.2 else f_Pl_overtaken_bs_47 K5 x2 (x3 + 1) x4 o4.2)))))))
def f_Pl_overtaken_bs_5 : Nat → Int32 → Int32 → Int32 → St → Option (Int32 × St)
  | 0 => fun _ _ _ _ => none
  | n + 1 => b_Pl_overtaken_bs_5 (f_Pl_overtaken_bs_5 n)
def f_Pl_overtaken_bs (x2 : Int32) (st : St) : Option (Int32 × St) :=
  f_Pl_overtaken_bs_5 40 x2 0 0 st
def rm_Pl_overtaken_bs : Room := { frames := 2, cells := 0, slots := 0, locals := 43 }
def f_Pl_tellShip (x1 x2 : Int32) (st : St) : Option (Int32 × St) :=
  (if x2 = 0 then (f_Tt_chamberOf_bs x1 st).bind (fun o1 => some (o1.1, o1.2)) else (if x2 = 1 then (f_Tt_runOf_bs x1 st).bind (fun o2 => some (o2.1, o2.2)) else (if x2 = 2 then (f_Tt_begin_bs x1 st).bind (fun o3 => some (o3.1, o3.2)) else (if x2 = 3 then (f_Pl_layRunOf x1 st).bind (fun o4 => (if o4.1 = 0 then some ((-1), o4.2) else (f_Be_x x1 o4.2).bind (fun o5 => some (o5.1, o5.2)))) else (if x2 = 4 then (f_Pl_layRunOf x1 st).bind (fun o6 => (if o6.1 = 0 then some ((-1), o6.2) else (f_Be_y x1 o6.2).bind (fun o7 => some (o7.1, o7.2)))) else (if x2 = 5 then (f_Tt_begin_bs x1 st).bind (fun o8 => (f_Fl_arrival x1 o8.2).bind (fun o9 => some (o8.1 - o9.1, o9.2))) else (if x2 = 6 then (f_Pl_overtaken_bs x1 st).bind (fun o10 => some (o10.1, o10.2)) else some ((-1), st))))))))
def rm_Pl_tellShip : Room := { frames := 10, cells := 0, slots := 0, locals := 289 }
def b_Tt_beginOfAll_bs_2 (K2 : Int32 → Int32 → St → Option (Int32 × St)) (x1 x2 : Int32) (st : St) : Option (Int32 × St) :=
  (if 4 ≤ x2 then some ((-1), st) else (f_LR_holds x1 x2 st).bind (fun o1 => (if o1.1 = 0 then K2 x1 (x2 + 1) o1.2 else (if xin x2 4 then some (o1.2.2 17 x2.toNatClampNeg, o1.2) else none))))
def f_Tt_beginOfAll_bs_2 : Nat → Int32 → Int32 → St → Option (Int32 × St)
  | 0 => fun _ _ _ => none
  | n + 1 => b_Tt_beginOfAll_bs_2 (f_Tt_beginOfAll_bs_2 n)
def f_Tt_beginOfAll_bs (x1 : Int32) (st : St) : Option (Int32 × St) :=
  f_Tt_beginOfAll_bs_2 40 x1 0 st
def rm_Tt_beginOfAll_bs : Room := { frames := 1, cells := 0, slots := 0, locals := 21 }
def f_Pl_tellRun (x1 x2 x3 : Int32) (st : St) : Option (Int32 × St) :=
  (f_Fl_all st).bind (fun o1 => (f_Tt_aboard_bs x1 x2 o1.1 o1.2).bind (fun o2 => (if o2.1 = 0 then some ((-1), o2.2) else (if x3 = 0 then (f_Tt_beginOfAll_bs o2.1 o2.2).bind (fun o3 => some (o3.1, o3.2)) else (if x3 = 1 then (f_Fl_commonDirection o2.1 o2.2).bind (fun o4 => some (o4.1, o4.2)) else (if x3 = 2 then some (o2.1, o2.2) else some ((-1), o2.2)))))))
def rm_Pl_tellRun : Room := { frames := 2, cells := 0, slots := 0, locals := 46 }
def f_Pl_runs_42 (K4 : Int32 → Int32 → Int32 → St → Option (Int32 × St)) (x1 x2 x3 : Int32) (st : St) : Option (Int32 × St) :=
  K4 x1 x2 (x3 + 1) st
def b_Pl_runs_4 (K4 : Int32 → Int32 → Int32 → St → Option (Int32 × St)) (x1 x2 x3 : Int32) (st : St) : Option (Int32 × St) :=
  (f_Fl_size st).bind (fun o1 => (if o1.1 ≤ x3 then some (x2, o1.2) else (f_Tt_chamberOf_bs x3 o1.2).bind (fun o2 => (if o2.1 = x1 then (f_Tt_runOf_bs x3 o2.2).bind (fun o3 => xlet (if x2 < (o3.1 + 1) then o3.1 + 1 else x2) (fun v4 => f_Pl_runs_42 K4 x1 v4 x3 o3.2)) else f_Pl_runs_42 K4 x1 x2 x3 o2.2))))
def f_Pl_runs_4 : Nat → Int32 → Int32 → Int32 → St → Option (Int32 × St)
  | 0 => fun _ _ _ _ => none
  | n + 1 => b_Pl_runs_4 (f_Pl_runs_4 n)
def f_Pl_runs (x1 : Int32) (st : St) : Option (Int32 × St) :=
  f_Pl_runs_4 40 x1 0 0 st
def rm_Pl_runs : Room := { frames := 1, cells := 0, slots := 0, locals := 21 }
def f_Tt_differences_bs_pv_33 (K5 : Int32 → Int32 → Int32 → St → Option (Int32 × St)) (x2 x3 x4 : Int32) (st : St) : Option (Int32 × St) :=
  K5 x2 x3 (x4 + 1) st
def f_Tt_begin_pv (x1 : Int32) (st : St) : Option (Int32 × St) :=
  (if x1 < 0 then some ((-1), st) else (if 4 ≤ x1 then some ((-1), st) else (if xin x1 4 then some (st.2 20 x1.toNatClampNeg, st) else none)))
def rm_Tt_begin_pv : Room := { frames := 0, cells := 0, slots := 0, locals := 0 }
def f_Tt_differs_bs_pv_26 (st : St) : Option (Int32 × St) :=
  some (1, st)
def f_Tt_chamberOf_pv (x1 : Int32) (st : St) : Option (Int32 × St) :=
  (if x1 < 0 then some ((-1), st) else (if 4 ≤ x1 then some ((-1), st) else (if xin x1 4 then some (st.2 21 x1.toNatClampNeg, st) else none)))
def rm_Tt_chamberOf_pv : Room := { frames := 0, cells := 0, slots := 0, locals := 0 }
def f_Tt_differs_bs_pv (x2 : Int32) (st : St) : Option (Int32 × St) :=
  (f_Tt_begin_bs x2 st).bind (fun o1 => (f_Tt_begin_pv x2 o1.2).bind (fun o2 => (if o1.1 = o2.1 then (f_Tt_chamberOf_bs x2 o2.2).bind (fun o3 => (f_Tt_chamberOf_pv x2 o3.2).bind (fun o4 => (if o3.1 = o4.1 then some (0, o4.2) else f_Tt_differs_bs_pv_26 o4.2))) else f_Tt_differs_bs_pv_26 o2.2)))
def rm_Tt_differs_bs_pv : Room := { frames := 1, cells := 0, slots := 0, locals := 21 }
def b_Tt_differences_bs_pv_5 (K5 : Int32 → Int32 → Int32 → St → Option (Int32 × St)) (x2 x3 x4 : Int32) (st : St) : Option (Int32 × St) :=
  (if 4 ≤ x4 then some (x3, st) else (f_LR_holds x2 x4 st).bind (fun o1 => (if o1.1 = 0 then f_Tt_differences_bs_pv_33 K5 x2 x3 x4 o1.2 else (f_Tt_differs_bs_pv x4 o1.2).bind (fun o2 => (if o2.1 = 0 then f_Tt_differences_bs_pv_33 K5 x2 x3 x4 o2.2 else f_Tt_differences_bs_pv_33 K5 x2 (x3 + 1) x4 o2.2)))))
def f_Tt_differences_bs_pv_5 : Nat → Int32 → Int32 → Int32 → St → Option (Int32 × St)
  | 0 => fun _ _ _ _ => none
  | n + 1 => b_Tt_differences_bs_pv_5 (f_Tt_differences_bs_pv_5 n)
def f_Tt_differences_bs_pv (x2 : Int32) (st : St) : Option (Int32 × St) :=
  f_Tt_differences_bs_pv_5 40 x2 0 0 st
def rm_Tt_differences_bs_pv : Room := { frames := 2, cells := 0, slots := 0, locals := 43 }
def f_Pl_moved (st : St) : Option (Int32 × St) :=
  (f_Fl_all st).bind (fun o1 => (f_Tt_differences_bs_pv o1.1 o1.2).bind (fun o2 => some (o2.1, o2.2)))
def rm_Pl_moved : Room := { frames := 3, cells := 0, slots := 0, locals := 67 }
def b_Tt_copyFrom_pv_bs_2 (K2 : Int32 → St → Option (St)) (x2 : Int32) (st : St) : Option (St) :=
  (if 4 ≤ x2 then xlet (sI st 6 (st.1 5)) (fun s1 => some s1) else (if xin x2 4 then (if xin x2 4 then xlet (sA st 20 x2.toNatClampNeg (st.2 17 x2.toNatClampNeg)) (fun s4 => (if xin x2 4 then (if xin x2 4 then xlet (sA s4 21 x2.toNatClampNeg (s4.2 18 x2.toNatClampNeg)) (fun s7 => (if xin x2 4 then (if xin x2 4 then xlet (sA s7 22 x2.toNatClampNeg (s7.2 19 x2.toNatClampNeg)) (fun s10 => K2 (x2 + 1) s10) else none) else none)) else none) else none)) else none) else none))
def f_Tt_copyFrom_pv_bs_2 : Nat → Int32 → St → Option (St)
  | 0 => fun _ _ => none
  | n + 1 => b_Tt_copyFrom_pv_bs_2 (f_Tt_copyFrom_pv_bs_2 n)
def f_Tt_copyFrom_pv_bs (st : St) : Option (St) :=
  f_Tt_copyFrom_pv_bs_2 40 0 st
def rm_Tt_copyFrom_pv_bs : Room := { frames := 0, cells := 0, slots := 0, locals := 0 }
def f_Pl_keepForComparison (st : St) : Option (St) :=
  (f_Tt_copyFrom_pv_bs st).bind (fun o1 => some o1)
def rm_Pl_keepForComparison : Room := { frames := 1, cells := 0, slots := 0, locals := 22 }
def f_Pl_hasPlan (st : St) : Option (Int32 × St) :=
  (if (st.1 7) = 0 ∨ (st.1 7) = 1 then some (st.1 7, st) else none)
def rm_Pl_hasPlan : Room := { frames := 0, cells := 0, slots := 0, locals := 0 }
def f_Pl_forget (st : St) : Option (St) :=
  xlet (sI st 7 0) (fun s1 => some s1)
def rm_Pl_forget : Room := { frames := 0, cells := 0, slots := 0, locals := 0 }
def f_Pl_waiting (st : St) : Option (Int32 × St) :=
  (f_Tt_waiting_bs st).bind (fun o1 => some (o1.1, o1.2))
def rm_Pl_waiting : Room := { frames := 1, cells := 0, slots := 0, locals := 20 }
def f_Pl_over (st : St) : Option (Int32 × St) :=
  some (st.1 8, st)
def rm_Pl_over : Room := { frames := 0, cells := 0, slots := 0, locals := 0 }
def f_Pl_setOver (x1 : Int32) (st : St) : Option (St) :=
  xlet (sI st 8 x1) (fun s1 => some s1)
def rm_Pl_setOver : Room := { frames := 0, cells := 0, slots := 0, locals := 0 }
def f_Be_setGap (x1 : Int32) (st : St) : Option (St) :=
  xlet (sI st 3 x1) (fun s1 => some s1)
def rm_Be_setGap : Room := { frames := 0, cells := 0, slots := 0, locals := 0 }
def f_Be_gap (st : St) : Option (Int32 × St) :=
  some (st.1 3, st)
def rm_Be_gap : Room := { frames := 0, cells := 0, slots := 0, locals := 0 }
def f_Ch_add (x1 x2 x3 : Int32) (st : St) : Option (Int32 × St) :=
  xlet (st.1 0) (fun v1 => (if v1 < 0 then some ((-1), st) else (if v1 < 2 then (if xin v1 2 then xlet (sA st 0 v1.toNatClampNeg x1) (fun s3 => (if xin v1 2 then xlet (sA s3 1 v1.toNatClampNeg x2) (fun s5 => (if xin v1 2 then xlet (sA s5 2 v1.toNatClampNeg x3) (fun s7 => xlet (sI s7 0 (v1 + 1)) (fun s8 => some (v1, s8))) else none)) else none)) else none) else some ((-1), st))))
def rm_Ch_add : Room := { frames := 0, cells := 0, slots := 0, locals := 0 }
def f_Ch_addSpan (x1 x2 x3 : Int32) (st : St) : Option (Int32 × St) :=
  xlet (st.1 1) (fun v1 => (if v1 < 0 then some (0, st) else (if v1 < 8 then (if xin v1 8 then xlet (sA st 3 v1.toNatClampNeg x1) (fun s3 => (if xin v1 8 then xlet (sA s3 4 v1.toNatClampNeg x2) (fun s5 => (if xin v1 8 then xlet (sA s5 5 v1.toNatClampNeg x3) (fun s7 => xlet (sI s7 1 (v1 + 1)) (fun s8 => some (1, s8))) else none)) else none)) else none) else some (0, st))))
def rm_Ch_addSpan : Room := { frames := 0, cells := 0, slots := 0, locals := 0 }
def f_Ch_size (st : St) : Option (Int32 × St) :=
  some (st.1 0, st)
def rm_Ch_size : Room := { frames := 0, cells := 0, slots := 0, locals := 0 }
def f_Ch_spans (st : St) : Option (Int32 × St) :=
  some (st.1 1, st)
def rm_Ch_spans : Room := { frames := 0, cells := 0, slots := 0, locals := 0 }
def f_Fl_add (x1 x2 x3 x4 x5 : Int32) (st : St) : Option (Int32 × St) :=
  xlet (st.1 2) (fun v1 => (if v1 < 0 then some ((-1), st) else (if v1 < 4 then (if xin v1 4 then xlet (sA st 6 v1.toNatClampNeg x1) (fun s3 => (if xin v1 4 then xlet (sA s3 7 v1.toNatClampNeg x2) (fun s5 => (if xin v1 4 then xlet (sA s5 8 v1.toNatClampNeg x3) (fun s7 => (if xin v1 4 then xlet (sA s7 9 v1.toNatClampNeg x4) (fun s9 => (if xin v1 4 then xlet (sA s9 10 v1.toNatClampNeg x5) (fun s11 => xlet (sI s11 2 (v1 + 1)) (fun s12 => some (v1, s12))) else none)) else none)) else none)) else none)) else none) else some ((-1), st))))
def rm_Fl_add : Room := { frames := 0, cells := 0, slots := 0, locals := 0 }
def f_Fl_setArrival (x1 x2 : Int32) (st : St) : Option (St) :=
  (f_Fl_has x1 st).bind (fun o1 => (if o1.1 = 0 then some o1.2 else (if xin x1 4 then xlet (sA o1.2 8 x1.toNatClampNeg x2) (fun s3 => some s3) else none)))
def rm_Fl_setArrival : Room := { frames := 1, cells := 0, slots := 0, locals := 21 }
def f_LR_within (x0 x1 x2 : Int32) (st : St) : Option (Int32 × St) :=
  (if x0 < x1 then some (0, st) else (if x2 < x0 then some (0, st) else some (1, st)))
def rm_LR_within : Room := { frames := 0, cells := 0, slots := 0, locals := 0 }
def f_LR_canMeasure (x0 x1 : Int32) (st : St) : Option (Int32 × St) :=
  (f_LR_within x0 1 8 st).bind (fun o1 => (if o1.1 = 0 then some (0, o1.2) else (f_LR_within x1 1 3 o1.2).bind (fun o2 => (if o2.1 = 0 then some (0, o2.2) else some (1, o2.2)))))
def rm_LR_canMeasure : Room := { frames := 1, cells := 0, slots := 0, locals := 22 }
def f_LR_runsOf (x1 : Int32) (st : St) : Option (Int32 × St) :=
  (f_Ch_has x1 st).bind (fun o1 => (if o1.1 = 0 then some ((-1), o1.2) else (f_Pl_hasPlan o1.2).bind (fun o2 => (if o2.1 = 0 then some ((-1), o2.2) else (f_Pl_runs x1 o2.2).bind (fun o3 => some (o3.1, o3.2))))))
def rm_LR_runsOf : Room := { frames := 2, cells := 0, slots := 0, locals := 44 }
def f_LR_closed (x1 x2 x3 : Int32) (st : St) : Option (Int32 × St) :=
  (f_Ch_has x1 st).bind (fun o1 => (if o1.1 = 0 then some (0, o1.2) else (if x2 < 0 then some (0, o1.2) else (if x3 ≤ x2 then some (0, o1.2) else (if x3 ≤ 10000 then (f_Ch_addSpan x1 x2 x3 o1.2).bind (fun o2 => (if o2.1 = 0 then some (0, o2.2) else (f_Pl_forget o2.2).bind (fun o3 => some (1, o3)))) else some (0, o1.2))))))
def rm_LR_closed : Room := { frames := 1, cells := 0, slots := 0, locals := 24 }
def f_LR_rule (x1 x2 : Int32) (st : St) : Option (Int32 × St) :=
  (f_LR_within x1 0 3 st).bind (fun o1 => (if o1.1 = 0 then some (0, o1.2) else (f_LR_within x2 0 3 o1.2).bind (fun o2 => (if o2.1 = 0 then some (0, o2.2) else (f_Be_setGap x1 o2.2).bind (fun o3 => (f_Pl_setOver x2 o3).bind (fun o4 => (f_Pl_forget o4).bind (fun o5 => some (1, o5))))))))
def rm_LR_rule : Room := { frames := 1, cells := 0, slots := 0, locals := 22 }
def f_LR_plan (st : St) : Option (Int32 × St) :=
  (f_Pl_search st).bind (fun o1 => (if o1.1 = 0 then some ((-1), o1.2) else (f_Pl_waiting o1.2).bind (fun o2 => some (o2.1, o2.2))))
def rm_LR_plan : Room := { frames := 20, cells := 0, slots := 0, locals := 589 }
def f_LR_count (x1 : Int32) (st : St) : Option (Int32 × St) :=
  (if x1 = 0 then (f_Ch_size st).bind (fun o1 => some (o1.1, o1.2)) else (if x1 = 1 then (f_Fl_size st).bind (fun o2 => some (o2.1, o2.2)) else (if x1 = 2 then (f_Ch_spans st).bind (fun o3 => some (o3.1, o3.2)) else (if x1 = 3 then (f_Pl_hasPlan st).bind (fun o4 => (if o4.1 = 0 then some (0, o4.2) else some (1, o4.2))) else (if x1 = 4 then (f_Be_gap st).bind (fun o5 => some (o5.1, o5.2)) else (if x1 = 5 then (f_Pl_over st).bind (fun o6 => some (o6.1, o6.2)) else (if x1 = 6 then (f_LR_runsOf 0 st).bind (fun o7 => some (o7.1, o7.2)) else (if x1 = 7 then (f_LR_runsOf 1 st).bind (fun o8 => some (o8.1, o8.2)) else some ((-1), st)))))))))
def rm_LR_count : Room := { frames := 3, cells := 0, slots := 0, locals := 65 }
