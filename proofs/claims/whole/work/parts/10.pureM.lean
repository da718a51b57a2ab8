def f_Mo_thrown (st : St) : Option (Int32 × St) :=
  some (st.1 0, st)
def rm_Mo_thrown : Room := { frames := 0, cells := 0, slots := 0, locals := 0 }
def f_Mo_in (x0 x1 x2 : Int32) (st : St) : Option (Int32 × St) :=
  (if x0 < x1 then some (0, st) else (if x2 < x0 then some (0, st) else some (1, st)))
def rm_Mo_in : Room := { frames := 0, cells := 0, slots := 0, locals := 0 }
def f_Mo_isChamber (x1 : Int32) (st : St) : Option (Int32 × St) :=
  (if x1 < 0 then some (0, st) else (if (st.1 1) ≤ x1 then some (0, st) else some (1, st)))
def rm_Mo_isChamber : Room := { frames := 0, cells := 0, slots := 0, locals := 0 }
def f_Mo_isShip (x1 : Int32) (st : St) : Option (Int32 × St) :=
  (if x1 < 0 then some (0, st) else (if (st.1 2) ≤ x1 then some (0, st) else some (1, st)))
def rm_Mo_isShip : Room := { frames := 0, cells := 0, slots := 0, locals := 0 }
def f_Mo_chamber_47 (x1 x2 x3 y0 : Int32) (st : St) : Option (Int32 × St) :=
  xlet (sI st 0 y0) (fun s2 => (if (s2.1 0) ≤ 0 then (if xin (s2.1 1) 2 then xlet (sA s2 0 (s2.1 1).toNatClampNeg x1) (fun s4 => (if xin (s4.1 1) 2 then xlet (sA s4 1 (s4.1 1).toNatClampNeg x2) (fun s6 => (if xin (s6.1 1) 2 then xlet (sA s6 2 (s6.1 1).toNatClampNeg x3) (fun s8 => xlet (sI s8 1 ((s8.1 1) + 1)) (fun s9 => xlet (sI s9 6 0) (fun s10 => some ((s10.1 1) - 1, s10)))) else none)) else none)) else none) else some (0, s2)))
def f_Mo_chamber_30 (x1 x2 x3 : Int32) (st : St) : Option (Int32 × St) :=
  f_Mo_chamber_47 x1 x2 x3 1 st
def f_Mo_chamber (x1 x2 x3 : Int32) (st : St) : Option (Int32 × St) :=
  (f_Mo_in x1 1 8 st).bind (fun o1 => (if o1.1 = 0 then f_Mo_chamber_30 x1 x2 x3 o1.2 else (f_Mo_in x2 1 3 o1.2).bind (fun o11 => (if o11.1 = 0 then f_Mo_chamber_30 x1 x2 x3 o11.2 else (f_Mo_in x3 1 60 o11.2).bind (fun o12 => (if o12.1 = 0 then f_Mo_chamber_30 x1 x2 x3 o12.2 else (if (o12.2.1 1) = 2 then f_Mo_chamber_47 x1 x2 x3 2 o12.2 else f_Mo_chamber_47 x1 x2 x3 0 o12.2)))))))
def rm_Mo_chamber : Room := { frames := 1, cells := 0, slots := 0, locals := 22 }
def f_Mo_ship_68 (x1 x2 x3 x4 x5 y0 : Int32) (st : St) : Option (Int32 × St) :=
  xlet (sI st 0 y0) (fun s2 => (if (s2.1 0) ≤ 0 then (if xin (s2.1 2) 4 then xlet (sA s2 6 (s2.1 2).toNatClampNeg x1) (fun s4 => (if xin (s4.1 2) 4 then xlet (sA s4 7 (s4.1 2).toNatClampNeg x2) (fun s6 => (if xin (s6.1 2) 4 then xlet (sA s6 8 (s6.1 2).toNatClampNeg x3) (fun s8 => (if xin (s8.1 2) 4 then xlet (sA s8 9 (s8.1 2).toNatClampNeg x4) (fun s10 => (if xin (s10.1 2) 4 then xlet (sA s10 10 (s10.1 2).toNatClampNeg x5) (fun s12 => xlet (sI s12 2 ((s12.1 2) + 1)) (fun s13 => xlet (sI s13 6 0) (fun s14 => some ((s14.1 2) - 1, s14)))) else none)) else none)) else none)) else none)) else none) else some (0, s2)))
def f_Mo_ship_51 (x1 x2 x3 x4 x5 : Int32) (st : St) : Option (Int32 × St) :=
  f_Mo_ship_68 x1 x2 x3 x4 x5 1 st
def f_Mo_ship (x1 x2 x3 x4 x5 : Int32) (st : St) : Option (Int32 × St) :=
  (f_Mo_in x1 1 8 st).bind (fun o1 => (if o1.1 = 0 then f_Mo_ship_51 x1 x2 x3 x4 x5 o1.2 else (f_Mo_in x2 1 3 o1.2).bind (fun o15 => (if o15.1 = 0 then f_Mo_ship_51 x1 x2 x3 x4 x5 o15.2 else (f_Mo_in x3 0 1000 o15.2).bind (fun o16 => (if o16.1 = 0 then f_Mo_ship_51 x1 x2 x3 x4 x5 o16.2 else (f_Mo_in x4 0 1 o16.2).bind (fun o17 => (if o17.1 = 0 then f_Mo_ship_51 x1 x2 x3 x4 x5 o17.2 else (f_Mo_in x5 0 2 o17.2).bind (fun o18 => (if o18.1 = 0 then f_Mo_ship_51 x1 x2 x3 x4 x5 o18.2 else (if (o18.2.1 2) = 4 then f_Mo_ship_68 x1 x2 x3 x4 x5 2 o18.2 else f_Mo_ship_68 x1 x2 x3 x4 x5 0 o18.2)))))))))))
def rm_Mo_ship : Room := { frames := 1, cells := 0, slots := 0, locals := 22 }
def f_Mo_closed (x1 x2 x3 : Int32) (st : St) : Option (Int32 × St) :=
  xlet (sI st 0 0) (fun s1 => (f_Mo_isChamber x1 s1).bind (fun o2 => (if o2.1 = 0 then some (0, o2.2) else (f_Mo_in x2 0 10000 o2.2).bind (fun o3 => (if o3.1 = 0 then some (0, o3.2) else (f_Mo_in x3 0 10000 o3.2).bind (fun o4 => (if o4.1 = 0 then some (0, o4.2) else (if x3 ≤ x2 then some (0, o4.2) else (if (o4.2.1 3) = 8 then some (0, o4.2) else (if xin (o4.2.1 3) 8 then xlet (sA o4.2 3 (o4.2.1 3).toNatClampNeg x1) (fun s6 => (if xin (s6.1 3) 8 then xlet (sA s6 4 (s6.1 3).toNatClampNeg x2) (fun s8 => (if xin (s8.1 3) 8 then xlet (sA s8 5 (s8.1 3).toNatClampNeg x3) (fun s10 => xlet (sI s10 3 ((s10.1 3) + 1)) (fun s11 => xlet (sI s11 6 0) (fun s12 => some (1, s12)))) else none)) else none)) else none))))))))))
def rm_Mo_closed : Room := { frames := 1, cells := 0, slots := 0, locals := 22 }
def f_Mo_rule (x1 x2 : Int32) (st : St) : Option (Int32 × St) :=
  xlet (sI st 0 0) (fun s1 => (f_Mo_in x1 0 3 s1).bind (fun o2 => (if o2.1 = 0 then some (0, o2.2) else (f_Mo_in x2 0 3 o2.2).bind (fun o3 => (if o3.1 = 0 then some (0, o3.2) else xlet (sI o3.2 4 x1) (fun s4 => xlet (sI s4 5 x2) (fun s5 => xlet (sI s5 6 0) (fun s6 => some (1, s6)))))))))
def rm_Mo_rule : Room := { frames := 1, cells := 0, slots := 0, locals := 22 }
def f_Mo_mayLie_227 (K97 : Int32 → Int32 → Int32 → Int32 → Int32 → St → Option (Int32 × St)) (x2 x3 x5 x6 x7 : Int32) (st : St) : Option (Int32 × St) :=
  K97 x2 x3 x5 x6 (x7 + 1) st
def f_Mo_mayLie_208 (K97 : Int32 → Int32 → Int32 → Int32 → Int32 → St → Option (Int32 × St)) (x2 x3 x5 x6 x7 y0 : Int32) (st : St) : Option (Int32 × St) :=
  (if ((x2 >>> (x7 &&& 31)) &&& 1) = 1 then (if y0 = 0 then some (0, st) else f_Mo_mayLie_227 K97 x2 x3 x5 x6 x7 st) else f_Mo_mayLie_227 K97 x2 x3 x5 x6 x7 st)
def f_Mo_mayLie_203 (K97 : Int32 → Int32 → Int32 → Int32 → Int32 → St → Option (Int32 × St)) (x2 x3 x5 x6 x7 : Int32) (st : St) : Option (Int32 × St) :=
  f_Mo_mayLie_208 K97 x2 x3 x5 x6 x7 1 st
def b_Mo_mayLie_97 (K97 : Int32 → Int32 → Int32 → Int32 → Int32 → St → Option (Int32 × St)) (x2 x3 x5 x6 x7 : Int32) (st : St) : Option (Int32 × St) :=
  (if x3 ≤ x7 then some (1, st) else (if xin x7 5 then xlet ((st.2 11 x7.toNatClampNeg) / 3) (fun v10 => (if xin x7 5 then xlet ((st.2 11 x7.toNatClampNeg) - (st.2 11 x7.toNatClampNeg) / 3 * 3) (fun v12 => (if xin x3 4 then (if ((x5 + (st.2 6 x3.toNatClampNeg)) + (st.1 4)) ≤ v10 then f_Mo_mayLie_203 K97 x2 x3 x5 x6 x7 st else (if xin x7 4 then (if ((v10 + (st.2 6 x7.toNatClampNeg)) + (st.1 4)) ≤ x5 then f_Mo_mayLie_203 K97 x2 x3 x5 x6 x7 st else (if xin x3 4 then (if ((x6 + (st.2 7 x3.toNatClampNeg)) + (st.1 4)) ≤ v12 then f_Mo_mayLie_203 K97 x2 x3 x5 x6 x7 st else (if xin x7 4 then (if x6 < ((v12 + (st.2 7 x7.toNatClampNeg)) + (st.1 4)) then f_Mo_mayLie_208 K97 x2 x3 x5 x6 x7 0 st else f_Mo_mayLie_203 K97 x2 x3 x5 x6 x7 st) else none)) else none)) else none)) else none)) else none)) else none))
def f_Mo_mayLie_97 : Nat → Int32 → Int32 → Int32 → Int32 → Int32 → St → Option (Int32 × St)
  | 0 => fun _ _ _ _ _ _ => none
  | n + 1 => b_Mo_mayLie_97 (f_Mo_mayLie_97 n)
def f_Mo_mayLie_94 (x2 x3 x5 x6 : Int32) (st : St) : Option (Int32 × St) :=
  f_Mo_mayLie_97 40 x2 x3 x5 x6 0 st
def f_Mo_mayLie_64 (x1 x2 x3 x5 x6 : Int32) (st : St) : Option (Int32 × St) :=
  (if xin x3 4 then (if (st.2 10 x3.toNatClampNeg) = 1 then (if xin x3 4 then (if xin x1 2 then (if (x6 + (st.2 7 x3.toNatClampNeg)) = (st.2 1 x1.toNatClampNeg) then f_Mo_mayLie_94 x2 x3 x5 x6 st else some (0, st)) else none) else none) else f_Mo_mayLie_94 x2 x3 x5 x6 st) else none)
def f_Mo_mayLie (x1 x2 x3 x4 : Int32) (st : St) : Option (Int32 × St) :=
  xlet (x4 / 3) (fun v1 => xlet (x4 - x4 / 3 * 3) (fun v2 => (if xin x3 4 then (if xin x1 2 then (if (st.2 0 x1.toNatClampNeg) < (v1 + (st.2 6 x3.toNatClampNeg)) then some (0, st) else (if xin x3 4 then (if xin x1 2 then (if (v2 + (st.2 7 x3.toNatClampNeg)) ≤ (st.2 1 x1.toNatClampNeg) then (if xin x3 4 then (if (st.2 10 x3.toNatClampNeg) = 0 then (if 0 < v2 then some (0, st) else f_Mo_mayLie_64 x1 x2 x3 v1 v2 st) else f_Mo_mayLie_64 x1 x2 x3 v1 v2 st) else none) else some (0, st)) else none) else none)) else none) else none)))
def rm_Mo_mayLie : Room := { frames := 0, cells := 0, slots := 0, locals := 0 }
def f_Mo_lay_145 (x3 : Int32) (st : St) : Option (Int32 × St) :=
  (if x3 = (st.1 2) then some (1, st) else some (0, st))
def f_Mo_lay_142 (K9 : Int32 → Int32 → Int32 → St → Option (Int32 × St)) (x1 x2 x3 : Int32) (st : St) : Option (Int32 × St) :=
  K9 x1 x2 x3 st
def f_Mo_lay_128 (K9 : Int32 → Int32 → Int32 → St → Option (Int32 × St)) (x1 x2 x6 y0 y1 : Int32) (st : St) : Option (Int32 × St) :=
  xlet (y1 + y0) (fun v7 => (if x6 = 0 then f_Mo_lay_142 K9 x1 x2 v7 st else (if xin v7 5 then xlet (sA st 11 v7.toNatClampNeg (-1)) (fun s9 => f_Mo_lay_142 K9 x1 x2 v7 s9) else none)))
def f_Mo_lay_107 (K9 : Int32 → Int32 → Int32 → St → Option (Int32 × St)) (x1 x2 x3 x4 y0 : Int32) (st : St) : Option (Int32 × St) :=
  (if xin x3 5 then xlet (sA st 11 x3.toNatClampNeg x4) (fun s6 => (if y0 = 0 then f_Mo_lay_128 K9 x1 x2 y0 (-1) x3 s6 else f_Mo_lay_128 K9 x1 x2 y0 1 x3 s6)) else none)
def f_Mo_lay_99 (K9 : Int32 → Int32 → Int32 → St → Option (Int32 × St)) (x1 x2 x3 x4 y0 y1 : Int32) (st : St) : Option (Int32 × St) :=
  (if y0 ≤ y1 then f_Mo_lay_107 K9 x1 x2 x3 x4 0 st else f_Mo_lay_107 K9 x1 x2 x3 x4 1 st)
def f_Mo_lay_86 (K9 : Int32 → Int32 → Int32 → St → Option (Int32 × St)) (x1 x2 x3 x4 x5 : Int32) (st : St) : Option (Int32 × St) :=
  (if x5 = 0 then f_Mo_lay_99 K9 x1 x2 x3 x4 1 x4 st else f_Mo_lay_99 K9 x1 x2 x3 x4 24 x4 st)
def f_Mo_lay_60 (K9 : Int32 → Int32 → Int32 → St → Option (Int32 × St)) (K47 : Int32 → Int32 → Int32 → Int32 → Int32 → St → Option (Int32 × St)) (x1 x2 x3 x4 x5 y0 y1 : Int32) (st : St) : Option (Int32 × St) :=
  (if y0 ≤ y1 then f_Mo_lay_86 K9 x1 x2 x3 x4 x5 st else (if x5 = 0 then f_Mo_lay_86 K9 x1 x2 x3 x4 x5 st else (f_Mo_mayLie x1 x2 x3 x4 st).bind (fun o10 => (if o10.1 = 0 then K47 x1 x2 x3 (x4 + 1) x5 o10.2 else f_Mo_lay_86 K9 x1 x2 x3 x4 x5 o10.2))))
def b_Mo_lay_47 (K9 : Int32 → Int32 → Int32 → St → Option (Int32 × St)) (K47 : Int32 → Int32 → Int32 → Int32 → Int32 → St → Option (Int32 × St)) (x1 x2 x3 x4 x5 : Int32) (st : St) : Option (Int32 × St) :=
  (if x5 = 0 then f_Mo_lay_60 K9 K47 x1 x2 x3 x4 x5 1 x4 st else f_Mo_lay_60 K9 K47 x1 x2 x3 x4 x5 24 x4 st)
def f_Mo_lay_47 (K9 : Int32 → Int32 → Int32 → St → Option (Int32 × St)) : Nat → Int32 → Int32 → Int32 → Int32 → Int32 → St → Option (Int32 × St)
  | 0 => fun _ _ _ _ _ _ => none
  | n + 1 => b_Mo_lay_47 K9 (f_Mo_lay_47 K9 n)
def f_Mo_lay_45 (K9 : Int32 → Int32 → Int32 → St → Option (Int32 × St)) (x1 x2 x3 x4 y0 : Int32) (st : St) : Option (Int32 × St) :=
  f_Mo_lay_47 K9 40 x1 x2 x3 x4 y0 st
def b_Mo_lay_9 (K9 : Int32 → Int32 → Int32 → St → Option (Int32 × St)) (x1 x2 x3 : Int32) (st : St) : Option (Int32 × St) :=
  (if x3 < 0 then f_Mo_lay_145 x3 st else (if (st.1 2) ≤ x3 then f_Mo_lay_145 x3 st else (if xin x3 5 then xlet ((st.2 11 x3.toNatClampNeg) + 1) (fun v4 => (if ((x2 >>> (x3 &&& 31)) &&& 1) = 1 then f_Mo_lay_45 K9 x1 x2 x3 v4 1 st else f_Mo_lay_45 K9 x1 x2 x3 v4 0 st)) else none)))
def f_Mo_lay_9 : Nat → Int32 → Int32 → Int32 → St → Option (Int32 × St)
  | 0 => fun _ _ _ _ => none
  | n + 1 => b_Mo_lay_9 (f_Mo_lay_9 n)
def f_Mo_lay (x1 x2 : Int32) (st : St) : Option (Int32 × St) :=
  (if xin 0 5 then xlet (sA st 11 (0 : Int32).toNatClampNeg (-1)) (fun s2 => f_Mo_lay_9 10000000 x1 x2 0 s2) else none)
def rm_Mo_lay : Room := { frames := 1, cells := 0, slots := 0, locals := 30 }
def f_Mo_fits_30 (x1 x2 y0 : Int32) (st : St) : Option (Int32 × St) :=
  xlet (sI st 0 y0) (fun s2 => (if (s2.1 0) = 0 then (f_Mo_lay x1 x2 s2).bind (fun o3 => (if o3.1 = 0 then some (0, o3.2) else some (1, o3.2))) else some (0, s2)))
def f_Mo_fits_29 (x1 x2 : Int32) (st : St) : Option (Int32 × St) :=
  f_Mo_fits_30 x1 x2 1 st
def f_Mo_fits (x1 x2 : Int32) (st : St) : Option (Int32 × St) :=
  (f_Mo_isChamber x1 st).bind (fun o1 => (if o1.1 = 0 then f_Mo_fits_29 x1 x2 o1.2 else (f_Mo_in x2 0 ((1 <<< ((o1.2.1 2) &&& 31)) - 1) o1.2).bind (fun o4 => (if o4.1 = 0 then f_Mo_fits_29 x1 x2 o4.2 else f_Mo_fits_30 x1 x2 0 o4.2))))
def rm_Mo_fits : Room := { frames := 2, cells := 0, slots := 0, locals := 56 }
def f_Mo_setOf_30 (K4 : Int32 → Int32 → Int32 → St → Option (Int32 × St)) (x1 x3 y0 y1 : Int32) (st : St) : Option (Int32 × St) :=
  xlet (y1 + y0) (fun v2 => K4 x1 v2 (x3 + 1) st)
def b_Mo_setOf_4 (K4 : Int32 → Int32 → Int32 → St → Option (Int32 × St)) (x1 x2 x3 : Int32) (st : St) : Option (Int32 × St) :=
  (if (st.1 2) ≤ x3 then some (x2, st) else (if xin x3 4 then (if (st.2 13 x3.toNatClampNeg) = x1 then f_Mo_setOf_30 K4 x1 x3 (1 <<< (x3 &&& 31)) x2 st else f_Mo_setOf_30 K4 x1 x3 0 x2 st) else none))
def f_Mo_setOf_4 : Nat → Int32 → Int32 → Int32 → St → Option (Int32 × St)
  | 0 => fun _ _ _ _ => none
  | n + 1 => b_Mo_setOf_4 (f_Mo_setOf_4 n)
def f_Mo_setOf (x1 : Int32) (st : St) : Option (Int32 × St) :=
  f_Mo_setOf_4 40 x1 0 0 st
def rm_Mo_setOf : Room := { frames := 0, cells := 0, slots := 0, locals := 0 }
def b_Mo_first_2 (K2 : Int32 → Int32 → St → Option (Int32 × St)) (x0 x1 : Int32) (st : St) : Option (Int32 × St) :=
  (if ((x0 >>> (x1 &&& 31)) &&& 1) = 0 then K2 x0 (x1 + 1) st else some (x1, st))
def f_Mo_first_2 : Nat → Int32 → Int32 → St → Option (Int32 × St)
  | 0 => fun _ _ _ => none
  | n + 1 => b_Mo_first_2 (f_Mo_first_2 n)
def f_Mo_first (x0 : Int32) (st : St) : Option (Int32 × St) :=
  f_Mo_first_2 40 x0 0 st
def rm_Mo_first : Room := { frames := 0, cells := 0, slots := 0, locals := 0 }
def f_Mo_isOneWay_47 (K4 : Int32 → Int32 → Int32 → St → Option (Int32 × St)) (x1 x3 y0 : Int32) (st : St) : Option (Int32 × St) :=
  K4 x1 y0 (x3 + 1) st
def f_Mo_isOneWay_46 (K4 : Int32 → Int32 → Int32 → St → Option (Int32 × St)) (x1 x3 : Int32) (st : St) : Option (Int32 × St) :=
  f_Mo_isOneWay_47 K4 x1 x3 0 st
def f_Mo_isOneWay_42 (K4 : Int32 → Int32 → Int32 → St → Option (Int32 × St)) (x1 x3 : Int32) (st : St) : Option (Int32 × St) :=
  f_Mo_isOneWay_47 K4 x1 x3 1 st
def b_Mo_isOneWay_4 (K4 : Int32 → Int32 → Int32 → St → Option (Int32 × St)) (x1 x2 x3 : Int32) (st : St) : Option (Int32 × St) :=
  (if (st.1 2) ≤ x3 then (if x2 = 0 ∨ x2 = 1 then some (x2, st) else none) else (if x2 = 0 then f_Mo_isOneWay_46 K4 x1 x3 st else (if ((x1 >>> (x3 &&& 31)) &&& 1) = 0 then f_Mo_isOneWay_42 K4 x1 x3 st else (if xin x3 4 then (f_Mo_first x1 st).bind (fun o3 => (if xin o3.1 4 then (if (st.2 9 x3.toNatClampNeg) = (o3.2.2 9 o3.1.toNatClampNeg) then f_Mo_isOneWay_42 K4 x1 x3 o3.2 else f_Mo_isOneWay_46 K4 x1 x3 o3.2) else none)) else none))))
def f_Mo_isOneWay_4 : Nat → Int32 → Int32 → Int32 → St → Option (Int32 × St)
  | 0 => fun _ _ _ _ => none
  | n + 1 => b_Mo_isOneWay_4 (f_Mo_isOneWay_4 n)
def f_Mo_isOneWay (x1 : Int32) (st : St) : Option (Int32 × St) :=
  f_Mo_isOneWay_4 40 x1 1 0 st
def rm_Mo_isOneWay : Room := { frames := 1, cells := 0, slots := 0, locals := 21 }
def f_Mo_open_75 (K5 : Int32 → Int32 → Int32 → St → Option (Int32 × St)) (K15 : Int32 → Int32 → Int32 → Int32 → St → Option (Int32 × St)) (x1 x4 x5 y0 : Int32) (st : St) : Option (Int32 × St) :=
  K15 x1 y0 x4 (x5 + 1) st
def f_Mo_open_74 (K5 : Int32 → Int32 → Int32 → St → Option (Int32 × St)) (K15 : Int32 → Int32 → Int32 → Int32 → St → Option (Int32 × St)) (x1 x3 x4 x5 : Int32) (st : St) : Option (Int32 × St) :=
  f_Mo_open_75 K5 K15 x1 x4 x5 x3 st
def b_Mo_open_15 (K5 : Int32 → Int32 → Int32 → St → Option (Int32 × St)) (K15 : Int32 → Int32 → Int32 → Int32 → St → Option (Int32 × St)) (x1 x3 x4 x5 : Int32) (st : St) : Option (Int32 × St) :=
  (if (st.1 3) ≤ x5 then K5 x1 x3 (x4 + 1) st else (if xin x5 8 then (if (st.2 3 x5.toNatClampNeg) = x1 then (if xin x5 8 then (if (st.2 5 x5.toNatClampNeg) ≤ x3 then f_Mo_open_74 K5 K15 x1 x3 x4 x5 st else (if xin x1 2 then (if xin x5 8 then (if (x3 + (st.2 2 x1.toNatClampNeg)) ≤ (st.2 4 x5.toNatClampNeg) then f_Mo_open_74 K5 K15 x1 x3 x4 x5 st else (if xin x5 8 then f_Mo_open_75 K5 K15 x1 x4 x5 (st.2 5 x5.toNatClampNeg) st else none)) else none) else none)) else none) else f_Mo_open_74 K5 K15 x1 x3 x4 x5 st) else none))
def f_Mo_open_15 (K5 : Int32 → Int32 → Int32 → St → Option (Int32 × St)) : Nat → Int32 → Int32 → Int32 → Int32 → St → Option (Int32 × St)
  | 0 => fun _ _ _ _ _ => none
  | n + 1 => b_Mo_open_15 K5 (f_Mo_open_15 K5 n)
def b_Mo_open_5 (K5 : Int32 → Int32 → Int32 → St → Option (Int32 × St)) (x1 x3 x4 : Int32) (st : St) : Option (Int32 × St) :=
  (if 9 ≤ x4 then some (x3, st) else f_Mo_open_15 K5 40 x1 x3 x4 0 st)
def f_Mo_open_5 : Nat → Int32 → Int32 → Int32 → St → Option (Int32 × St)
  | 0 => fun _ _ _ _ => none
  | n + 1 => b_Mo_open_5 (f_Mo_open_5 n)
def f_Mo_open (x1 x2 : Int32) (st : St) : Option (Int32 × St) :=
  f_Mo_open_5 40 x1 x2 0 st
def rm_Mo_open : Room := { frames := 0, cells := 0, slots := 0, locals := 0 }
def f_Mo_times_213 (K10 : Int32 → Int32 → Int32 → Int32 → Int32 → St → Option (Int32 × St)) (x1 x2 x3 x4 x5 : Int32) (st : St) : Option (Int32 × St) :=
  K10 x1 x2 x3 x4 (x5 + 1) st
def f_Mo_times_168 (K10 : Int32 → Int32 → Int32 → Int32 → Int32 → St → Option (Int32 × St)) (K124 : Int32 → Int32 → Int32 → Int32 → Int32 → Int32 → Int32 → St → Option (Int32 × St)) (x1 x4 x5 x6 x7 x9 y0 : Int32) (st : St) : Option (Int32 × St) :=
  K124 x1 x4 x5 x6 x7 y0 (x9 + 1) st
def f_Mo_times_166 (K10 : Int32 → Int32 → Int32 → Int32 → Int32 → St → Option (Int32 × St)) (K124 : Int32 → Int32 → Int32 → Int32 → Int32 → Int32 → Int32 → St → Option (Int32 × St)) (x1 x4 x5 x6 x7 x8 x9 : Int32) (st : St) : Option (Int32 × St) :=
  f_Mo_times_168 K10 K124 x1 x4 x5 x6 x7 x9 x8 st
def b_Mo_times_124 (K10 : Int32 → Int32 → Int32 → Int32 → Int32 → St → Option (Int32 × St)) (K124 : Int32 → Int32 → Int32 → Int32 → Int32 → Int32 → Int32 → St → Option (Int32 × St)) (x1 x4 x5 x6 x7 x8 x9 : Int32) (st : St) : Option (Int32 × St) :=
  (if (st.1 2) ≤ x9 then (f_Mo_open x1 x8 st).bind (fun o6 => (if xin ((4 * x1) + x5) 8 then xlet (sA o6.2 17 ((4 * x1) + x5).toNatClampNeg o6.1) (fun s8 => (if xin x1 2 then xlet (o6.1 + (s8.2 2 x1.toNatClampNeg)) (fun v10 => xlet (1 - x7) (fun v11 => f_Mo_times_213 K10 x1 v10 v11 x4 x5 s8)) else none)) else none)) else (if ((x6 >>> (x9 &&& 31)) &&& 1) = 1 then (if xin x9 4 then (if (st.2 8 x9.toNatClampNeg) ≤ x8 then f_Mo_times_166 K10 K124 x1 x4 x5 x6 x7 x8 x9 st else (if xin x9 4 then f_Mo_times_168 K10 K124 x1 x4 x5 x6 x7 x9 (st.2 8 x9.toNatClampNeg) st else none)) else none) else f_Mo_times_166 K10 K124 x1 x4 x5 x6 x7 x8 x9 st))
def f_Mo_times_124 (K10 : Int32 → Int32 → Int32 → Int32 → Int32 → St → Option (Int32 × St)) : Nat → Int32 → Int32 → Int32 → Int32 → Int32 → Int32 → Int32 → St → Option (Int32 × St)
  | 0 => fun _ _ _ _ _ _ _ _ => none
  | n + 1 => b_Mo_times_124 K10 (f_Mo_times_124 K10 n)
def f_Mo_times_119 (K10 : Int32 → Int32 → Int32 → Int32 → Int32 → St → Option (Int32 × St)) (x1 x4 x5 x6 x7 y0 : Int32) (st : St) : Option (Int32 × St) :=
  f_Mo_times_124 K10 40 x1 x4 x5 x6 x7 y0 0 st
def f_Mo_times_79 (K10 : Int32 → Int32 → Int32 → Int32 → Int32 → St → Option (Int32 × St)) (x1 x2 x3 x5 x6 y0 : Int32) (st : St) : Option (Int32 × St) :=
  (if x6 = 0 then f_Mo_times_213 K10 x1 x2 x3 y0 x5 st else (f_Mo_first x6 st).bind (fun o2 => (if xin o2.1 4 then xlet (o2.2.2 9 o2.1.toNatClampNeg) (fun v4 => (if v4 = x3 then f_Mo_times_119 K10 x1 y0 x5 x6 v4 x2 o2.2 else (if xin x1 2 then f_Mo_times_119 K10 x1 y0 x5 x6 v4 (x2 + (o2.2.2 2 x1.toNatClampNeg)) o2.2 else none))) else none)))
def f_Mo_times_74 (K10 : Int32 → Int32 → Int32 → Int32 → Int32 → St → Option (Int32 × St)) (x1 x2 x3 x5 x6 : Int32) (st : St) : Option (Int32 × St) :=
  f_Mo_times_79 K10 x1 x2 x3 x5 x6 1 st
def f_Mo_times_64 (K10 : Int32 → Int32 → Int32 → Int32 → Int32 → St → Option (Int32 × St)) (x1 x2 x3 x4 x5 x6 : Int32) (st : St) : Option (Int32 × St) :=
  (if x4 = 0 then (if x6 = 0 then f_Mo_times_74 K10 x1 x2 x3 x5 x6 st else f_Mo_times_79 K10 x1 x2 x3 x5 x6 0 st) else f_Mo_times_74 K10 x1 x2 x3 x5 x6 st)
def b_Mo_times_10 (K10 : Int32 → Int32 → Int32 → Int32 → Int32 → St → Option (Int32 × St)) (x1 x2 x3 x4 x5 : Int32) (st : St) : Option (Int32 × St) :=
  (if 4 ≤ x5 then some (1, st) else (f_Mo_setOf ((4 * x1) + x5) st).bind (fun o1 => (if o1.1 ≤ 0 then f_Mo_times_64 K10 x1 x2 x3 x4 x5 o1.1 o1.2 else (if x4 = 0 then (f_Mo_isOneWay o1.1 o1.2).bind (fun o14 => (if o14.1 = 0 then some (0, o14.2) else (if xin ((16 * x1) + o1.1) 32 then (if (o14.2.2 12 ((16 * x1) + o1.1).toNatClampNeg) = 0 then some (0, o14.2) else f_Mo_times_64 K10 x1 x2 x3 x4 x5 o1.1 o14.2) else none))) else some (0, o1.2)))))
def f_Mo_times_10 : Nat → Int32 → Int32 → Int32 → Int32 → Int32 → St → Option (Int32 × St)
  | 0 => fun _ _ _ _ _ _ => none
  | n + 1 => b_Mo_times_10 (f_Mo_times_10 n)
def f_Mo_times (x1 : Int32) (st : St) : Option (Int32 × St) :=
  f_Mo_times_10 40 x1 0 0 0 0 st
def rm_Mo_times : Room := { frames := 2, cells := 0, slots := 0, locals := 44 }
def f_Mo_overtaken_142 (K5 : Int32 → Int32 → Int32 → Int32 → St → Option (Int32 × St)) (x1 x2 x4 y0 y1 : Int32) (st : St) : Option (Int32 × St) :=
  xlet (y1 + y0) (fun v7 => K5 x1 x2 v7 (x4 + 1) st)
def f_Mo_overtaken_141 (K5 : Int32 → Int32 → Int32 → Int32 → St → Option (Int32 × St)) (x1 x2 x4 y0 : Int32) (st : St) : Option (Int32 × St) :=
  f_Mo_overtaken_142 K5 x1 x2 x4 0 y0 st
def f_Mo_overtaken_108 (K5 : Int32 → Int32 → Int32 → Int32 → St → Option (Int32 × St)) (x1 x2 x3 x4 x5 y0 : Int32) (st : St) : Option (Int32 × St) :=
  (if xin x4 4 then (if xin x1 4 then (if (st.2 9 x4.toNatClampNeg) = (st.2 9 x1.toNatClampNeg) then (if x5 = 0 then f_Mo_overtaken_141 K5 x1 x2 x4 x3 st else (if y0 = 0 then f_Mo_overtaken_141 K5 x1 x2 x4 x3 st else f_Mo_overtaken_142 K5 x1 x2 x4 1 x3 st)) else f_Mo_overtaken_141 K5 x1 x2 x4 x3 st) else none) else none)
def f_Mo_overtaken_57 (K5 : Int32 → Int32 → Int32 → Int32 → St → Option (Int32 × St)) (x1 x2 x3 x4 y0 : Int32) (st : St) : Option (Int32 × St) :=
  (if x2 = 0 then (if xin x4 4 then (if xin x1 4 then (if (st.2 16 x1.toNatClampNeg) ≤ (st.2 16 x4.toNatClampNeg) then f_Mo_overtaken_108 K5 x1 x2 x3 x4 y0 0 st else f_Mo_overtaken_108 K5 x1 x2 x3 x4 y0 1 st) else none) else none) else (if xin x4 4 then (if xin x1 4 then (if (st.2 14 x1.toNatClampNeg) ≤ (st.2 14 x4.toNatClampNeg) then f_Mo_overtaken_108 K5 x1 x2 x3 x4 y0 0 st else f_Mo_overtaken_108 K5 x1 x2 x3 x4 y0 1 st) else none) else none))
def f_Mo_overtaken_52 (K5 : Int32 → Int32 → Int32 → Int32 → St → Option (Int32 × St)) (x1 x2 x3 x4 : Int32) (st : St) : Option (Int32 × St) :=
  f_Mo_overtaken_57 K5 x1 x2 x3 x4 1 st
def f_Mo_overtaken_56 (K5 : Int32 → Int32 → Int32 → Int32 → St → Option (Int32 × St)) (x1 x2 x3 x4 : Int32) (st : St) : Option (Int32 × St) :=
  f_Mo_overtaken_57 K5 x1 x2 x3 x4 0 st
def b_Mo_overtaken_5 (K5 : Int32 → Int32 → Int32 → Int32 → St → Option (Int32 × St)) (x1 x2 x3 x4 : Int32) (st : St) : Option (Int32 × St) :=
  (if (st.1 2) ≤ x4 then some (x3, st) else (if xin x4 4 then (if xin x1 4 then (if (st.2 8 x1.toNatClampNeg) < (st.2 8 x4.toNatClampNeg) then f_Mo_overtaken_52 K5 x1 x2 x3 x4 st else (if xin x4 4 then (if xin x1 4 then (if (st.2 8 x4.toNatClampNeg) = (st.2 8 x1.toNatClampNeg) then (if x4 ≤ x1 then f_Mo_overtaken_56 K5 x1 x2 x3 x4 st else f_Mo_overtaken_52 K5 x1 x2 x3 x4 st) else f_Mo_overtaken_56 K5 x1 x2 x3 x4 st) else none) else none)) else none) else none))
def f_Mo_overtaken_5 : Nat → Int32 → Int32 → Int32 → Int32 → St → Option (Int32 × St)
  | 0 => fun _ _ _ _ _ => none
  | n + 1 => b_Mo_overtaken_5 (f_Mo_overtaken_5 n)
def f_Mo_overtaken (x1 x2 : Int32) (st : St) : Option (Int32 × St) :=
  f_Mo_overtaken_5 40 x1 x2 0 0 st
def rm_Mo_overtaken : Room := { frames := 0, cells := 0, slots := 0, locals := 0 }
def b_Mo_weighed_80 (K80 : Int32 → Int32 → St → Option (Int32 × St)) (x1 x2 : Int32) (st : St) : Option (Int32 × St) :=
  (if (st.1 2) ≤ x2 then some (x1, st) else (f_Mo_overtaken x2 1 st).bind (fun o1 => (if o1.1 ≤ (o1.2.1 5) then K80 x1 (x2 + 1) o1.2 else some (1000000000, o1.2))))
def f_Mo_weighed_80 : Nat → Int32 → Int32 → St → Option (Int32 × St)
  | 0 => fun _ _ _ => none
  | n + 1 => b_Mo_weighed_80 (f_Mo_weighed_80 n)
def b_Mo_weighed_31 (K31 : Int32 → Int32 → St → Option (Int32 × St)) (x1 x2 : Int32) (st : St) : Option (Int32 × St) :=
  (if (st.1 2) ≤ x2 then f_Mo_weighed_80 40 x1 0 st else (if xin x2 4 then (if xin (st.2 13 x2.toNatClampNeg) 8 then (if xin x2 4 then xlet (sA st 14 x2.toNatClampNeg (st.2 17 (st.2 13 x2.toNatClampNeg).toNatClampNeg)) (fun s5 => (if xin x2 4 then (if xin x2 4 then xlet (x1 + ((s5.2 14 x2.toNatClampNeg) - (s5.2 8 x2.toNatClampNeg))) (fun v8 => K31 v8 (x2 + 1) s5) else none) else none)) else none) else none) else none))
def f_Mo_weighed_31 : Nat → Int32 → Int32 → St → Option (Int32 × St)
  | 0 => fun _ _ _ => none
  | n + 1 => b_Mo_weighed_31 (f_Mo_weighed_31 n)
def b_Mo_weighed_2 (K2 : Int32 → St → Option (Int32 × St)) (x1 : Int32) (st : St) : Option (Int32 × St) :=
  (if (st.1 1) ≤ x1 then f_Mo_weighed_31 40 0 0 st else (f_Mo_times x1 st).bind (fun o9 => (if o9.1 = 0 then some (1000000000, o9.2) else K2 (x1 + 1) o9.2)))
def f_Mo_weighed_2 : Nat → Int32 → St → Option (Int32 × St)
  | 0 => fun _ _ => none
  | n + 1 => b_Mo_weighed_2 (f_Mo_weighed_2 n)
def f_Mo_weighed (st : St) : Option (Int32 × St) :=
  f_Mo_weighed_2 40 0 st
def rm_Mo_weighed : Room := { frames := 3, cells := 0, slots := 0, locals := 73 }
def b_Mo_isAhead_2 (K2 : Int32 → St → Option (Int32 × St)) (x1 : Int32) (st : St) : Option (Int32 × St) :=
  (if (st.1 2) ≤ x1 then some (0, st) else (if xin x1 4 then (if xin x1 4 then (if (st.2 14 x1.toNatClampNeg) = (st.2 16 x1.toNatClampNeg) then (if xin x1 4 then (if xin x1 4 then (if ((st.2 13 x1.toNatClampNeg) / 4) = ((st.2 15 x1.toNatClampNeg) / 4) then K2 (x1 + 1) st else (if xin x1 4 then (if xin x1 4 then (if (st.2 15 x1.toNatClampNeg) ≤ (st.2 13 x1.toNatClampNeg) then some (0, st) else some (1, st)) else none) else none)) else none) else none) else (if xin x1 4 then (if xin x1 4 then (if (st.2 16 x1.toNatClampNeg) ≤ (st.2 14 x1.toNatClampNeg) then some (0, st) else some (1, st)) else none) else none)) else none) else none))
def f_Mo_isAhead_2 : Nat → Int32 → St → Option (Int32 × St)
  | 0 => fun _ _ => none
  | n + 1 => b_Mo_isAhead_2 (f_Mo_isAhead_2 n)
def f_Mo_isAhead (st : St) : Option (Int32 × St) :=
  f_Mo_isAhead_2 40 0 st
def rm_Mo_isAhead : Room := { frames := 0, cells := 0, slots := 0, locals := 0 }
def f_Mo_search_234 (K96 : Int32 → Int32 → Int32 → St → Option (Int32 × St)) (x1 x2 x3 : Int32) (st : St) : Option (Int32 × St) :=
  K96 x1 x2 (x3 + 1) st
def b_Mo_search_191 (K96 : Int32 → Int32 → Int32 → St → Option (Int32 × St)) (K191 : Int32 → Int32 → Int32 → Int32 → St → Option (Int32 × St)) (x1 x2 x3 x6 : Int32) (st : St) : Option (Int32 × St) :=
  (if (st.1 2) ≤ x6 then f_Mo_search_234 K96 x1 x2 x3 st else (if xin x6 4 then (if xin x6 4 then xlet (sA st 15 x6.toNatClampNeg (st.2 13 x6.toNatClampNeg)) (fun s5 => (if xin x6 4 then (if xin x6 4 then xlet (sA s5 16 x6.toNatClampNeg (s5.2 14 x6.toNatClampNeg)) (fun s8 => K191 x1 x2 x3 (x6 + 1) s8) else none) else none)) else none) else none))
def f_Mo_search_191 (K96 : Int32 → Int32 → Int32 → St → Option (Int32 × St)) : Nat → Int32 → Int32 → Int32 → Int32 → St → Option (Int32 × St)
  | 0 => fun _ _ _ _ _ => none
  | n + 1 => b_Mo_search_191 K96 (f_Mo_search_191 K96 n)
def f_Mo_search_185 (K96 : Int32 → Int32 → Int32 → St → Option (Int32 × St)) (x2 x3 x5 : Int32) (st : St) : Option (Int32 × St) :=
  f_Mo_search_191 K96 40 x5 x2 x3 0 st
def b_Mo_search_112 (K96 : Int32 → Int32 → Int32 → St → Option (Int32 × St)) (K112 : Int32 → Int32 → Int32 → Int32 → Int32 → St → Option (Int32 × St)) (x1 x2 x3 x4 x5 : Int32) (st : St) : Option (Int32 × St) :=
  (if x5 < 0 then (f_Mo_weighed st).bind (fun o2 => (if x1 < o2.1 then f_Mo_search_234 K96 x1 x2 x3 o2.2 else (if o2.1 = 1000000000 then f_Mo_search_234 K96 x1 x2 x3 o2.2 else (if o2.1 = x1 then (f_Mo_isAhead o2.2).bind (fun o9 => (if o9.1 = 0 then f_Mo_search_234 K96 x1 x2 x3 o9.2 else f_Mo_search_185 K96 x2 x3 o2.1 o9.2)) else f_Mo_search_185 K96 x2 x3 o2.1 o2.2)))) else (if ¬ (4 * (st.1 1)) = 0 then (if xin x5 4 then xlet (sA st 13 x5.toNatClampNeg (x4 - x4 / (4 * (st.1 1)) * (4 * (st.1 1)))) (fun s12 => (if ¬ (4 * (s12.1 1)) = 0 then xlet (x4 / (4 * (s12.1 1))) (fun v14 => K112 x1 x2 x3 v14 (x5 + (-1)) s12) else none)) else none) else none))
def f_Mo_search_112 (K96 : Int32 → Int32 → Int32 → St → Option (Int32 × St)) : Nat → Int32 → Int32 → Int32 → Int32 → Int32 → St → Option (Int32 × St)
  | 0 => fun _ _ _ _ _ _ => none
  | n + 1 => b_Mo_search_112 K96 (f_Mo_search_112 K96 n)
def b_Mo_search_96 (K96 : Int32 → Int32 → Int32 → St → Option (Int32 × St)) (x1 x2 x3 : Int32) (st : St) : Option (Int32 × St) :=
  (if x2 ≤ x3 then (if x1 = 1000000000 then some ((-1), st) else some (x1, st)) else xlet ((st.1 2) - 1) (fun v1 => f_Mo_search_112 K96 40 x1 x2 x3 x3 v1 st))
def f_Mo_search_96 : Nat → Int32 → Int32 → Int32 → St → Option (Int32 × St)
  | 0 => fun _ _ _ _ => none
  | n + 1 => b_Mo_search_96 (f_Mo_search_96 n)
def b_Mo_search_71 (K71 : Int32 → Int32 → Int32 → St → Option (Int32 × St)) (x1 x2 x3 : Int32) (st : St) : Option (Int32 × St) :=
  (if (st.1 2) ≤ x3 then f_Mo_search_96 5000 x1 x2 0 st else xlet (x2 * (4 * (st.1 1))) (fun v15 => K71 x1 v15 (x3 + 1) st))
def f_Mo_search_71 : Nat → Int32 → Int32 → Int32 → St → Option (Int32 × St)
  | 0 => fun _ _ _ _ => none
  | n + 1 => b_Mo_search_71 (f_Mo_search_71 n)
def f_Mo_search_57 (K2 : Int32 → St → Option (Int32 × St)) (x1 y0 y1 : Int32) (st : St) : Option (Int32 × St) :=
  (if xin y1 32 then xlet (sA st 12 y1.toNatClampNeg (vp_nar .boolean y0)) (fun s17 => K2 (x1 + 1) s17) else none)
def f_Mo_search_56 (K2 : Int32 → St → Option (Int32 × St)) (x1 y0 : Int32) (st : St) : Option (Int32 × St) :=
  f_Mo_search_57 K2 x1 0 y0 st
def b_Mo_search_2 (K2 : Int32 → St → Option (Int32 × St)) (x1 : Int32) (st : St) : Option (Int32 × St) :=
  (if 32 ≤ x1 then f_Mo_search_71 40 1000000000 1 0 st else (if (st.1 1) ≤ (x1 / 16) then f_Mo_search_56 K2 x1 x1 st else (if (1 <<< ((st.1 2) &&& 31)) ≤ (x1 - x1 / 16 * 16) then f_Mo_search_56 K2 x1 x1 st else (f_Mo_lay (x1 / 16) (x1 - x1 / 16 * 16) st).bind (fun o18 => (if o18.1 = 0 then f_Mo_search_56 K2 x1 x1 o18.2 else f_Mo_search_57 K2 x1 1 x1 o18.2)))))
def f_Mo_search_2 : Nat → Int32 → St → Option (Int32 × St)
  | 0 => fun _ _ => none
  | n + 1 => b_Mo_search_2 (f_Mo_search_2 n)
def f_Mo_search (st : St) : Option (Int32 × St) :=
  f_Mo_search_2 40 0 st
def rm_Mo_search : Room := { frames := 4, cells := 0, slots := 0, locals := 95 }
def f_Mo_plan_20 (x1 y0 : Int32) (st : St) : Option (Int32 × St) :=
  (if y0 = 0 ∨ y0 = 1 then xlet (sI st 6 y0) (fun s4 => some (x1, s4)) else none)
def f_Mo_plan (st : St) : Option (Int32 × St) :=
  xlet (sI st 0 0) (fun s1 => (f_Mo_search s1).bind (fun o2 => (if o2.1 < 0 then f_Mo_plan_20 o2.1 0 o2.2 else f_Mo_plan_20 o2.1 1 o2.2)))
def rm_Mo_plan : Room := { frames := 5, cells := 0, slots := 0, locals := 121 }
def f_Mo_shipsOf_30 (K4 : Int32 → Int32 → Int32 → St → Option (Int32 × St)) (x1 x3 y0 y1 : Int32) (st : St) : Option (Int32 × St) :=
  xlet (y1 + y0) (fun v2 => K4 x1 v2 (x3 + 1) st)
def b_Mo_shipsOf_4 (K4 : Int32 → Int32 → Int32 → St → Option (Int32 × St)) (x1 x2 x3 : Int32) (st : St) : Option (Int32 × St) :=
  (if (st.1 2) ≤ x3 then some (x2, st) else (if xin x3 4 then (if (st.2 15 x3.toNatClampNeg) = x1 then f_Mo_shipsOf_30 K4 x1 x3 (1 <<< (x3 &&& 31)) x2 st else f_Mo_shipsOf_30 K4 x1 x3 0 x2 st) else none))
def f_Mo_shipsOf_4 : Nat → Int32 → Int32 → Int32 → St → Option (Int32 × St)
  | 0 => fun _ _ _ _ => none
  | n + 1 => b_Mo_shipsOf_4 (f_Mo_shipsOf_4 n)
def f_Mo_shipsOf (x1 : Int32) (st : St) : Option (Int32 × St) :=
  f_Mo_shipsOf_4 40 x1 0 0 st
def rm_Mo_shipsOf : Room := { frames := 0, cells := 0, slots := 0, locals := 0 }
def f_Mo_of_35 (x1 x2 y0 : Int32) (st : St) : Option (Int32 × St) :=
  xlet (sI st 0 y0) (fun s2 => (if (s2.1 0) ≤ 0 then (if xin x1 4 then (if xin x1 4 then (f_Mo_shipsOf (s2.2 15 x1.toNatClampNeg) s2).bind (fun o5 => (f_Mo_lay ((s2.2 15 x1.toNatClampNeg) / 4) o5.1 o5.2).bind (fun o6 => (if x2 = 0 then (if xin x1 4 then some ((o6.2.2 15 x1.toNatClampNeg) / 4, o6.2) else none) else (if x2 = 1 then (if xin x1 4 then some ((o6.2.2 15 x1.toNatClampNeg) - (o6.2.2 15 x1.toNatClampNeg) / 4 * 4, o6.2) else none) else (if x2 = 2 then (if xin x1 4 then some (o6.2.2 16 x1.toNatClampNeg, o6.2) else none) else (if x2 = 3 then (if o6.1 = 0 then some ((-1), o6.2) else (if xin x1 5 then some ((o6.2.2 11 x1.toNatClampNeg) / 3, o6.2) else none)) else (if x2 = 4 then (if o6.1 = 0 then some ((-1), o6.2) else (if xin x1 5 then some ((o6.2.2 11 x1.toNatClampNeg) - (o6.2.2 11 x1.toNatClampNeg) / 3 * 3, o6.2) else none)) else (if x2 = 5 then (if xin x1 4 then (if xin x1 4 then some ((o6.2.2 16 x1.toNatClampNeg) - (o6.2.2 8 x1.toNatClampNeg), o6.2) else none) else none) else (f_Mo_overtaken x1 0 o6.2).bind (fun o14 => some (o14.1, o14.2)))))))))) else none) else none) else some (0, s2)))
def f_Mo_of_19 (x1 x2 : Int32) (st : St) : Option (Int32 × St) :=
  f_Mo_of_35 x1 x2 1 st
def f_Mo_of (x1 x2 : Int32) (st : St) : Option (Int32 × St) :=
  (f_Mo_isShip x1 st).bind (fun o1 => (if o1.1 = 0 then f_Mo_of_19 x1 x2 o1.2 else (f_Mo_in x2 0 6 o1.2).bind (fun o15 => (if o15.1 = 0 then f_Mo_of_19 x1 x2 o15.2 else (if (o15.2.1 6) = 0 then f_Mo_of_35 x1 x2 2 o15.2 else f_Mo_of_35 x1 x2 0 o15.2)))))
def rm_Mo_of : Room := { frames := 2, cells := 0, slots := 0, locals := 56 }
def f_Mo_run_68 (x3 y0 : Int32) (st : St) : Option (Int32 × St) :=
  (if y0 = 0 then some ((-1), st) else (if x3 = 0 then (f_Mo_first y0 st).bind (fun o6 => (if xin o6.1 4 then some (o6.2.2 16 o6.1.toNatClampNeg, o6.2) else none)) else (if x3 = 1 then (f_Mo_first y0 st).bind (fun o4 => (if xin o4.1 4 then some (o4.2.2 9 o4.1.toNatClampNeg, o4.2) else none)) else some (y0, st))))
def f_Mo_run_34 (x1 x2 x3 y0 : Int32) (st : St) : Option (Int32 × St) :=
  xlet (sI st 0 y0) (fun s2 => (if (s2.1 0) ≤ 0 then (f_Mo_in x2 0 3 s2).bind (fun o3 => (if o3.1 = 0 then f_Mo_run_68 x3 0 o3.2 else (f_Mo_shipsOf ((4 * x1) + x2) o3.2).bind (fun o8 => f_Mo_run_68 x3 o8.1 o8.2))) else some (0, s2)))
def f_Mo_run_18 (x1 x2 x3 : Int32) (st : St) : Option (Int32 × St) :=
  f_Mo_run_34 x1 x2 x3 1 st
def f_Mo_run (x1 x2 x3 : Int32) (st : St) : Option (Int32 × St) :=
  (f_Mo_isChamber x1 st).bind (fun o1 => (if o1.1 = 0 then f_Mo_run_18 x1 x2 x3 o1.2 else (f_Mo_in x3 0 2 o1.2).bind (fun o9 => (if o9.1 = 0 then f_Mo_run_18 x1 x2 x3 o9.2 else (if (o9.2.1 6) = 0 then f_Mo_run_34 x1 x2 x3 2 o9.2 else f_Mo_run_34 x1 x2 x3 0 o9.2)))))
def rm_Mo_run : Room := { frames := 1, cells := 0, slots := 0, locals := 23 }
def f_Mo_late_193 (K149 : Int64 → Int32 → Int32 → St → Option (Int32 × St)) (x3 : Int64) (x7 y0 y1 : Int32) (st : St) : Option (Int32 × St) :=
  xlet (y1 + y0) (fun v12 => xlet (x3 / 40000) (fun v13 => K149 v13 v12 (x7 + (-1)) st))
def b_Mo_late_149 (K149 : Int64 → Int32 → Int32 → St → Option (Int32 × St)) (x3 : Int64) (x6 x7 : Int32) (st : St) : Option (Int32 × St) :=
  (if x7 < 0 then some (x6, st) else (if xin x7 4 then (if xin x7 4 then (if (lg_cmp (x3 - x3 / 40000 * 40000) ((2 * ((st.2 16 x7.toNatClampNeg).toInt64)) + (((st.2 15 x7.toNatClampNeg) / 4).toInt64))) = 0 then f_Mo_late_193 K149 x3 x7 0 x6 st else f_Mo_late_193 K149 x3 x7 1 x6 st) else none) else none))
def f_Mo_late_149 : Nat → Int64 → Int32 → Int32 → St → Option (Int32 × St)
  | 0 => fun _ _ _ _ => none
  | n + 1 => b_Mo_late_149 (f_Mo_late_149 n)
def f_Mo_late_126 (x3 : Int64) (y0 : Int32) (st : St) : Option (Int32 × St) :=
  (if y0 = 0 ∨ y0 = 1 then xlet (sI st 6 y0) (fun s8 => (if (s8.1 6) = 0 then some ((-1), s8) else xlet ((s8.1 2) - 1) (fun v9 => f_Mo_late_149 40 x3 0 v9 s8))) else none)
def b_Mo_late_57 (K57 : Int32 → Int32 → Int64 → Int32 → St → Option (Int32 × St)) (x1 x2 : Int32) (x3 : Int64) (x5 : Int32) (st : St) : Option (Int32 × St) :=
  (if (st.1 2) ≤ x5 then (if xin x1 4 then xlet (sA st 8 x1.toNatClampNeg x2) (fun s5 => (f_Mo_search s5).bind (fun o6 => (if o6.1 < 0 then f_Mo_late_126 x3 0 o6.2 else f_Mo_late_126 x3 1 o6.2))) else none) else (if xin x5 4 then (if xin x5 4 then xlet (((40000 * x3) + (2 * ((st.2 16 x5.toNatClampNeg).toInt64))) + (((st.2 15 x5.toNatClampNeg) / 4).toInt64)) (fun v16 => K57 x1 x2 v16 (x5 + 1) st) else none) else none))
def f_Mo_late_57 : Nat → Int32 → Int32 → Int64 → Int32 → St → Option (Int32 × St)
  | 0 => fun _ _ _ _ _ => none
  | n + 1 => b_Mo_late_57 (f_Mo_late_57 n)
def f_Mo_late_40 (x1 x2 y0 : Int32) (st : St) : Option (Int32 × St) :=
  xlet (sI st 0 y0) (fun s3 => (if (s3.1 0) ≤ 0 then f_Mo_late_57 40 x1 x2 0 0 s3 else some (0, s3)))
def f_Mo_late (x1 x2 : Int32) (st : St) : Option (Int32 × St) :=
  (f_Mo_isShip x1 st).bind (fun o1 => (if o1.1 = 0 then f_Mo_late_40 x1 x2 1 o1.2 else (f_Mo_in x2 0 1000 o1.2).bind (fun o2 => (if o2.1 = 0 then f_Mo_late_40 x1 x2 2 o2.2 else (if (o2.2.1 6) = 0 then f_Mo_late_40 x1 x2 3 o2.2 else f_Mo_late_40 x1 x2 0 o2.2)))))
def rm_Mo_late : Room := { frames := 5, cells := 0, slots := 0, locals := 121 }
def b_Mo_home_28 (K28 : Int32 → Int32 → St → Option (Int32 × St)) (x1 x2 : Int32) (st : St) : Option (Int32 × St) :=
  (if (st.1 1) ≤ x2 then some ((-1), st) else (f_Mo_lay x2 (1 <<< (x1 &&& 31)) st).bind (fun o3 => (if o3.1 = 0 then K28 x1 (x2 + 1) o3.2 else some (x2, o3.2))))
def f_Mo_home_28 : Nat → Int32 → Int32 → St → Option (Int32 × St)
  | 0 => fun _ _ _ => none
  | n + 1 => b_Mo_home_28 (f_Mo_home_28 n)
def f_Mo_home_14 (x1 y0 : Int32) (st : St) : Option (Int32 × St) :=
  xlet (sI st 0 y0) (fun s2 => (if (s2.1 0) ≤ 0 then f_Mo_home_28 40 x1 0 s2 else some (0, s2)))
def f_Mo_home (x1 : Int32) (st : St) : Option (Int32 × St) :=
  (f_Mo_isShip x1 st).bind (fun o1 => (if o1.1 = 0 then f_Mo_home_14 x1 1 o1.2 else f_Mo_home_14 x1 0 o1.2))
def rm_Mo_home : Room := { frames := 2, cells := 0, slots := 0, locals := 56 }
def f_Mo_rate_36 (x1 x2 y0 : Int32) (st : St) : Option (Int32 × St) :=
  xlet (sI st 0 y0) (fun s2 => (if (s2.1 0) ≤ 0 then (if ¬ x2 = 0 then some ((60 * x1) / x2, s2) else none) else some (0, s2)))
def f_Mo_rate_23 (x1 x2 : Int32) (st : St) : Option (Int32 × St) :=
  f_Mo_rate_36 x1 x2 1 st
def f_Mo_rate (x1 x2 : Int32) (st : St) : Option (Int32 × St) :=
  (f_Mo_in x1 0 1000 st).bind (fun o1 => (if o1.1 = 0 then f_Mo_rate_23 x1 x2 o1.2 else (f_Mo_in x2 0 1000 o1.2).bind (fun o4 => (if o4.1 = 0 then f_Mo_rate_23 x1 x2 o4.2 else (if x2 = 0 then f_Mo_rate_36 x1 x2 2 o4.2 else f_Mo_rate_36 x1 x2 0 o4.2)))))
def rm_Mo_rate : Room := { frames := 1, cells := 0, slots := 0, locals := 22 }
def f_Mo_count_53 (K9 : Int32 → Int32 → Int32 → St → Option (Int32 × St)) (x1 x3 y0 y1 : Int32) (st : St) : Option (Int32 × St) :=
  xlet (y1 + y0) (fun v4 => K9 x1 v4 (x3 + 1) st)
def f_Mo_count_52 (K9 : Int32 → Int32 → Int32 → St → Option (Int32 × St)) (x1 x3 y0 : Int32) (st : St) : Option (Int32 × St) :=
  f_Mo_count_53 K9 x1 x3 0 y0 st
def b_Mo_count_9 (K9 : Int32 → Int32 → Int32 → St → Option (Int32 × St)) (x1 x2 x3 : Int32) (st : St) : Option (Int32 × St) :=
  (if 4 ≤ x3 then (if x1 = 0 then some (st.1 1, st) else (if x1 = 1 then some (st.1 2, st) else (if x1 = 2 then some (st.1 3, st) else (if x1 = 3 then (if (st.1 6) = 0 then some (0, st) else some (1, st)) else (if x1 = 4 then some (st.1 4, st) else (if x1 = 5 then some (st.1 5, st) else (if x1 = 6 then (if (st.1 6) = 0 then some ((-1), st) else (f_Mo_isChamber (x1 - 6) st).bind (fun o2 => (if o2.1 = 0 then some ((-1), o2.2) else some (x2, o2.2)))) else (if x1 = 7 then (if (st.1 6) = 0 then some ((-1), st) else (f_Mo_isChamber (x1 - 6) st).bind (fun o3 => (if o3.1 = 0 then some ((-1), o3.2) else some (x2, o3.2)))) else some ((-1), st))))))))) else (if (st.1 6) = 0 then f_Mo_count_52 K9 x1 x3 x2 st else (f_Mo_isChamber (x1 - 6) st).bind (fun o5 => (if o5.1 = 0 then f_Mo_count_52 K9 x1 x3 x2 o5.2 else (f_Mo_shipsOf ((4 * (x1 - 6)) + x3) o5.2).bind (fun o6 => (if o6.1 ≤ 0 then f_Mo_count_52 K9 x1 x3 x2 o6.2 else f_Mo_count_53 K9 x1 x3 1 x2 o6.2))))))
def f_Mo_count_9 : Nat → Int32 → Int32 → Int32 → St → Option (Int32 × St)
  | 0 => fun _ _ _ _ => none
  | n + 1 => b_Mo_count_9 (f_Mo_count_9 n)
def f_Mo_count (x1 : Int32) (st : St) : Option (Int32 × St) :=
  xlet (sI st 0 0) (fun s1 => f_Mo_count_9 40 x1 0 0 s1)
def rm_Mo_count : Room := { frames := 1, cells := 0, slots := 0, locals := 23 }
