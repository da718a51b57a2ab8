theorem xj_ws {p : Program} {l : Launch} {e : Env} {R : Room} {s : State} {m : MethodId} {args : Array Value} {below : List Frame} {meth : Method} {c : Code} {Q : State → Prop} {cells slots : Nat} {A : Nat → Prop} {D : va_G} {nL : Nat} {lv : List (Nat × Value)} {pc : Nat} {rest : List Value} {ws ws' : va_W} (h : ws = ws') (k : xJ p l e R s m args below meth c cells slots Q A D nL ws' lv pc rest) : xJ p l e R s m args below meth c cells slots Q A D nL ws lv pc rest := by rw [h]; exact k
theorem xj_perm {p : Program} {l : Launch} {e : Env} {R : Room} {s : State} {m : MethodId} {args : Array Value} {below : List Frame} {meth : Method} {c : Code} {Q : State → Prop} {cells slots : Nat} {A : Nat → Prop} {D : va_G} {nL : Nat} {lv : List (Nat × Value)} {pc : Nat} {rest : List Value} {ws ws' : va_W} (is : List Nat) (h : is.filterMap (fun i => ws[i]?) = ws') (k : xJ p l e R s m args below meth c cells slots Q A D nL ws' lv pc rest) : xJ p l e R s m args below meth c cells slots Q A D nL ws lv pc rest := fun H locs ls hP hS hl => k H locs ls (hP.sub is h) hS hl
/-- the class's state at the start -/
def lr_ad (a : Nat) (qa : Nat → Nat) : Nat → Nat := fun i => if i = 0 then a else qa i
def sC0 : St := (fun k => if k = 8 then 3 else 0, fun _ _ => 0)
theorem d_Ch_init_0 : decode b_Ch_init 0 = .ok (.aload_n 0, 1) := by decide +kernel
theorem d_Ch_init_1 : decode b_Ch_init 1 = .ok (.invokespecial 3, 3) := by decide +kernel
theorem d_Ch_init_4 : decode b_Ch_init 4 = .ok (.aload_n 0, 1) := by decide +kernel
theorem d_Ch_init_5 : decode b_Ch_init 5 = .ok (.iconst 2, 1) := by decide +kernel
theorem d_Ch_init_6 : decode b_Ch_init 6 = .ok (.newarray .int, 2) := by decide +kernel
theorem d_Ch_init_8 : decode b_Ch_init 8 = .ok (.putfield 9, 3) := by decide +kernel
theorem d_Ch_init_11 : decode b_Ch_init 11 = .ok (.aload_n 0, 1) := by decide +kernel
theorem d_Ch_init_12 : decode b_Ch_init 12 = .ok (.iconst 2, 1) := by decide +kernel
theorem d_Ch_init_13 : decode b_Ch_init 13 = .ok (.newarray .int, 2) := by decide +kernel
theorem d_Ch_init_15 : decode b_Ch_init 15 = .ok (.putfield 15, 3) := by decide +kernel
theorem d_Ch_init_18 : decode b_Ch_init 18 = .ok (.aload_n 0, 1) := by decide +kernel
theorem d_Ch_init_19 : decode b_Ch_init 19 = .ok (.iconst 2, 1) := by decide +kernel
theorem d_Ch_init_20 : decode b_Ch_init 20 = .ok (.newarray .int, 2) := by decide +kernel
theorem d_Ch_init_22 : decode b_Ch_init 22 = .ok (.putfield 18, 3) := by decide +kernel
theorem d_Ch_init_25 : decode b_Ch_init 25 = .ok (.aload_n 0, 1) := by decide +kernel
theorem d_Ch_init_26 : decode b_Ch_init 26 = .ok (.bipush 8, 2) := by decide +kernel
theorem d_Ch_init_28 : decode b_Ch_init 28 = .ok (.newarray .int, 2) := by decide +kernel
theorem d_Ch_init_30 : decode b_Ch_init 30 = .ok (.putfield 21, 3) := by decide +kernel
theorem d_Ch_init_33 : decode b_Ch_init 33 = .ok (.aload_n 0, 1) := by decide +kernel
theorem d_Ch_init_34 : decode b_Ch_init 34 = .ok (.bipush 8, 2) := by decide +kernel
theorem d_Ch_init_36 : decode b_Ch_init 36 = .ok (.newarray .int, 2) := by decide +kernel
theorem d_Ch_init_38 : decode b_Ch_init 38 = .ok (.putfield 24, 3) := by decide +kernel
theorem d_Ch_init_41 : decode b_Ch_init 41 = .ok (.aload_n 0, 1) := by decide +kernel
theorem d_Ch_init_42 : decode b_Ch_init 42 = .ok (.bipush 8, 2) := by decide +kernel
theorem d_Ch_init_44 : decode b_Ch_init 44 = .ok (.newarray .int, 2) := by decide +kernel
theorem d_Ch_init_46 : decode b_Ch_init 46 = .ok (.putfield 27, 3) := by decide +kernel
theorem d_Ch_init_49 : decode b_Ch_init 49 = .ok (.return_, 1) := by decide +kernel
theorem d_Fl_init_0 : decode b_Fl_init 0 = .ok (.aload_n 0, 1) := by decide +kernel
theorem d_Fl_init_1 : decode b_Fl_init 1 = .ok (.invokespecial 3, 3) := by decide +kernel
theorem d_Fl_init_4 : decode b_Fl_init 4 = .ok (.aload_n 0, 1) := by decide +kernel
theorem d_Fl_init_5 : decode b_Fl_init 5 = .ok (.iconst 4, 1) := by decide +kernel
theorem d_Fl_init_6 : decode b_Fl_init 6 = .ok (.newarray .int, 2) := by decide +kernel
theorem d_Fl_init_8 : decode b_Fl_init 8 = .ok (.putfield 9, 3) := by decide +kernel
theorem d_Fl_init_11 : decode b_Fl_init 11 = .ok (.aload_n 0, 1) := by decide +kernel
theorem d_Fl_init_12 : decode b_Fl_init 12 = .ok (.iconst 4, 1) := by decide +kernel
theorem d_Fl_init_13 : decode b_Fl_init 13 = .ok (.newarray .int, 2) := by decide +kernel
theorem d_Fl_init_15 : decode b_Fl_init 15 = .ok (.putfield 15, 3) := by decide +kernel
theorem d_Fl_init_18 : decode b_Fl_init 18 = .ok (.aload_n 0, 1) := by decide +kernel
theorem d_Fl_init_19 : decode b_Fl_init 19 = .ok (.iconst 4, 1) := by decide +kernel
theorem d_Fl_init_20 : decode b_Fl_init 20 = .ok (.newarray .int, 2) := by decide +kernel
theorem d_Fl_init_22 : decode b_Fl_init 22 = .ok (.putfield 18, 3) := by decide +kernel
theorem d_Fl_init_25 : decode b_Fl_init 25 = .ok (.aload_n 0, 1) := by decide +kernel
theorem d_Fl_init_26 : decode b_Fl_init 26 = .ok (.iconst 4, 1) := by decide +kernel
theorem d_Fl_init_27 : decode b_Fl_init 27 = .ok (.newarray .int, 2) := by decide +kernel
theorem d_Fl_init_29 : decode b_Fl_init 29 = .ok (.putfield 21, 3) := by decide +kernel
theorem d_Fl_init_32 : decode b_Fl_init 32 = .ok (.aload_n 0, 1) := by decide +kernel
theorem d_Fl_init_33 : decode b_Fl_init 33 = .ok (.iconst 4, 1) := by decide +kernel
theorem d_Fl_init_34 : decode b_Fl_init 34 = .ok (.newarray .int, 2) := by decide +kernel
theorem d_Fl_init_36 : decode b_Fl_init 36 = .ok (.putfield 24, 3) := by decide +kernel
theorem d_Fl_init_39 : decode b_Fl_init 39 = .ok (.return_, 1) := by decide +kernel
theorem d_Tt_init_0 : decode b_Tt_init 0 = .ok (.aload_n 0, 1) := by decide +kernel
theorem d_Tt_init_1 : decode b_Tt_init 1 = .ok (.invokespecial 3, 3) := by decide +kernel
theorem d_Tt_init_4 : decode b_Tt_init 4 = .ok (.aload_n 0, 1) := by decide +kernel
theorem d_Tt_init_5 : decode b_Tt_init 5 = .ok (.iconst 4, 1) := by decide +kernel
theorem d_Tt_init_6 : decode b_Tt_init 6 = .ok (.newarray .int, 2) := by decide +kernel
theorem d_Tt_init_8 : decode b_Tt_init 8 = .ok (.putfield 9, 3) := by decide +kernel
theorem d_Tt_init_11 : decode b_Tt_init 11 = .ok (.aload_n 0, 1) := by decide +kernel
theorem d_Tt_init_12 : decode b_Tt_init 12 = .ok (.iconst 4, 1) := by decide +kernel
theorem d_Tt_init_13 : decode b_Tt_init 13 = .ok (.newarray .int, 2) := by decide +kernel
theorem d_Tt_init_15 : decode b_Tt_init 15 = .ok (.putfield 15, 3) := by decide +kernel
theorem d_Tt_init_18 : decode b_Tt_init 18 = .ok (.aload_n 0, 1) := by decide +kernel
theorem d_Tt_init_19 : decode b_Tt_init 19 = .ok (.iconst 4, 1) := by decide +kernel
theorem d_Tt_init_20 : decode b_Tt_init 20 = .ok (.newarray .int, 2) := by decide +kernel
theorem d_Tt_init_22 : decode b_Tt_init 22 = .ok (.putfield 18, 3) := by decide +kernel
theorem d_Tt_init_25 : decode b_Tt_init 25 = .ok (.return_, 1) := by decide +kernel
theorem d_Be_init_0 : decode b_Be_init 0 = .ok (.aload_n 0, 1) := by decide +kernel
theorem d_Be_init_1 : decode b_Be_init 1 = .ok (.invokespecial 3, 3) := by decide +kernel
theorem d_Be_init_4 : decode b_Be_init 4 = .ok (.aload_n 0, 1) := by decide +kernel
theorem d_Be_init_5 : decode b_Be_init 5 = .ok (.iconst 4, 1) := by decide +kernel
theorem d_Be_init_6 : decode b_Be_init 6 = .ok (.newarray .int, 2) := by decide +kernel
theorem d_Be_init_8 : decode b_Be_init 8 = .ok (.putfield 9, 3) := by decide +kernel
theorem d_Be_init_11 : decode b_Be_init 11 = .ok (.aload_n 0, 1) := by decide +kernel
theorem d_Be_init_12 : decode b_Be_init 12 = .ok (.iconst 4, 1) := by decide +kernel
theorem d_Be_init_13 : decode b_Be_init 13 = .ok (.newarray .int, 2) := by decide +kernel
theorem d_Be_init_15 : decode b_Be_init 15 = .ok (.putfield 15, 3) := by decide +kernel
theorem d_Be_init_18 : decode b_Be_init 18 = .ok (.aload_n 0, 1) := by decide +kernel
theorem d_Be_init_19 : decode b_Be_init 19 = .ok (.sipush 128, 3) := by decide +kernel
theorem d_Be_init_22 : decode b_Be_init 22 = .ok (.newarray .int, 2) := by decide +kernel
theorem d_Be_init_24 : decode b_Be_init 24 = .ok (.putfield 18, 3) := by decide +kernel
theorem d_Be_init_27 : decode b_Be_init 27 = .ok (.aload_n 0, 1) := by decide +kernel
theorem d_Be_init_28 : decode b_Be_init 28 = .ok (.aload_n 1, 1) := by decide +kernel
theorem d_Be_init_29 : decode b_Be_init 29 = .ok (.putfield 21, 3) := by decide +kernel
theorem d_Be_init_32 : decode b_Be_init 32 = .ok (.aload_n 0, 1) := by decide +kernel
theorem d_Be_init_33 : decode b_Be_init 33 = .ok (.aload_n 2, 1) := by decide +kernel
theorem d_Be_init_34 : decode b_Be_init 34 = .ok (.putfield 25, 3) := by decide +kernel
theorem d_Be_init_37 : decode b_Be_init 37 = .ok (.return_, 1) := by decide +kernel
theorem d_Pl_init_0 : decode b_Pl_init 0 = .ok (.aload_n 0, 1) := by decide +kernel
theorem d_Pl_init_1 : decode b_Pl_init 1 = .ok (.invokespecial 3, 3) := by decide +kernel
theorem d_Pl_init_4 : decode b_Pl_init 4 = .ok (.aload_n 0, 1) := by decide +kernel
theorem d_Pl_init_5 : decode b_Pl_init 5 = .ok (.new 9, 3) := by decide +kernel
theorem d_Pl_init_8 : decode b_Pl_init 8 = .ok (.dup, 1) := by decide +kernel
theorem d_Pl_init_9 : decode b_Pl_init 9 = .ok (.invokespecial 11, 3) := by decide +kernel
theorem d_Pl_init_12 : decode b_Pl_init 12 = .ok (.putfield 12, 3) := by decide +kernel
theorem d_Pl_init_15 : decode b_Pl_init 15 = .ok (.aload_n 0, 1) := by decide +kernel
theorem d_Pl_init_16 : decode b_Pl_init 16 = .ok (.new 9, 3) := by decide +kernel
theorem d_Pl_init_19 : decode b_Pl_init 19 = .ok (.dup, 1) := by decide +kernel
theorem d_Pl_init_20 : decode b_Pl_init 20 = .ok (.invokespecial 11, 3) := by decide +kernel
theorem d_Pl_init_23 : decode b_Pl_init 23 = .ok (.putfield 18, 3) := by decide +kernel
theorem d_Pl_init_26 : decode b_Pl_init 26 = .ok (.aload_n 0, 1) := by decide +kernel
theorem d_Pl_init_27 : decode b_Pl_init 27 = .ok (.new 9, 3) := by decide +kernel
theorem d_Pl_init_30 : decode b_Pl_init 30 = .ok (.dup, 1) := by decide +kernel
theorem d_Pl_init_31 : decode b_Pl_init 31 = .ok (.invokespecial 11, 3) := by decide +kernel
theorem d_Pl_init_34 : decode b_Pl_init 34 = .ok (.putfield 21, 3) := by decide +kernel
theorem d_Pl_init_37 : decode b_Pl_init 37 = .ok (.aload_n 0, 1) := by decide +kernel
theorem d_Pl_init_38 : decode b_Pl_init 38 = .ok (.iconst 3, 1) := by decide +kernel
theorem d_Pl_init_39 : decode b_Pl_init 39 = .ok (.putfield 24, 3) := by decide +kernel
theorem d_Pl_init_42 : decode b_Pl_init 42 = .ok (.aload_n 0, 1) := by decide +kernel
theorem d_Pl_init_43 : decode b_Pl_init 43 = .ok (.aload_n 1, 1) := by decide +kernel
theorem d_Pl_init_44 : decode b_Pl_init 44 = .ok (.putfield 28, 3) := by decide +kernel
theorem d_Pl_init_47 : decode b_Pl_init 47 = .ok (.aload_n 0, 1) := by decide +kernel
theorem d_Pl_init_48 : decode b_Pl_init 48 = .ok (.aload_n 2, 1) := by decide +kernel
theorem d_Pl_init_49 : decode b_Pl_init 49 = .ok (.putfield 32, 3) := by decide +kernel
theorem d_Pl_init_52 : decode b_Pl_init 52 = .ok (.aload_n 0, 1) := by decide +kernel
theorem d_Pl_init_53 : decode b_Pl_init 53 = .ok (.aload_n 3, 1) := by decide +kernel
theorem d_Pl_init_54 : decode b_Pl_init 54 = .ok (.putfield 36, 3) := by decide +kernel
theorem d_Pl_init_57 : decode b_Pl_init 57 = .ok (.return_, 1) := by decide +kernel
theorem d_Mo_init_0 : decode b_Mo_init 0 = .ok (.aload_n 0, 1) := by decide +kernel
theorem d_Mo_init_1 : decode b_Mo_init 1 = .ok (.invokespecial 1, 3) := by decide +kernel
theorem d_Mo_init_4 : decode b_Mo_init 4 = .ok (.aload_n 0, 1) := by decide +kernel
theorem d_Mo_init_5 : decode b_Mo_init 5 = .ok (.iconst 3, 1) := by decide +kernel
theorem d_Mo_init_6 : decode b_Mo_init 6 = .ok (.putfield 7, 3) := by decide +kernel
theorem d_Mo_init_9 : decode b_Mo_init 9 = .ok (.aload_n 0, 1) := by decide +kernel
theorem d_Mo_init_10 : decode b_Mo_init 10 = .ok (.iconst 2, 1) := by decide +kernel
theorem d_Mo_init_11 : decode b_Mo_init 11 = .ok (.newarray .int, 2) := by decide +kernel
theorem d_Mo_init_13 : decode b_Mo_init 13 = .ok (.putfield 13, 3) := by decide +kernel
theorem d_Mo_init_16 : decode b_Mo_init 16 = .ok (.aload_n 0, 1) := by decide +kernel
theorem d_Mo_init_17 : decode b_Mo_init 17 = .ok (.iconst 2, 1) := by decide +kernel
theorem d_Mo_init_18 : decode b_Mo_init 18 = .ok (.newarray .int, 2) := by decide +kernel
theorem d_Mo_init_20 : decode b_Mo_init 20 = .ok (.putfield 17, 3) := by decide +kernel
theorem d_Mo_init_23 : decode b_Mo_init 23 = .ok (.aload_n 0, 1) := by decide +kernel
theorem d_Mo_init_24 : decode b_Mo_init 24 = .ok (.iconst 2, 1) := by decide +kernel
theorem d_Mo_init_25 : decode b_Mo_init 25 = .ok (.newarray .int, 2) := by decide +kernel
theorem d_Mo_init_27 : decode b_Mo_init 27 = .ok (.putfield 20, 3) := by decide +kernel
theorem d_Mo_init_30 : decode b_Mo_init 30 = .ok (.aload_n 0, 1) := by decide +kernel
theorem d_Mo_init_31 : decode b_Mo_init 31 = .ok (.bipush 8, 2) := by decide +kernel
theorem d_Mo_init_33 : decode b_Mo_init 33 = .ok (.newarray .int, 2) := by decide +kernel
theorem d_Mo_init_35 : decode b_Mo_init 35 = .ok (.putfield 23, 3) := by decide +kernel
theorem d_Mo_init_38 : decode b_Mo_init 38 = .ok (.aload_n 0, 1) := by decide +kernel
theorem d_Mo_init_39 : decode b_Mo_init 39 = .ok (.bipush 8, 2) := by decide +kernel
theorem d_Mo_init_41 : decode b_Mo_init 41 = .ok (.newarray .int, 2) := by decide +kernel
theorem d_Mo_init_43 : decode b_Mo_init 43 = .ok (.putfield 26, 3) := by decide +kernel
theorem d_Mo_init_46 : decode b_Mo_init 46 = .ok (.aload_n 0, 1) := by decide +kernel
theorem d_Mo_init_47 : decode b_Mo_init 47 = .ok (.bipush 8, 2) := by decide +kernel
theorem d_Mo_init_49 : decode b_Mo_init 49 = .ok (.newarray .int, 2) := by decide +kernel
theorem d_Mo_init_51 : decode b_Mo_init 51 = .ok (.putfield 29, 3) := by decide +kernel
theorem d_Mo_init_54 : decode b_Mo_init 54 = .ok (.aload_n 0, 1) := by decide +kernel
theorem d_Mo_init_55 : decode b_Mo_init 55 = .ok (.iconst 4, 1) := by decide +kernel
theorem d_Mo_init_56 : decode b_Mo_init 56 = .ok (.newarray .int, 2) := by decide +kernel
theorem d_Mo_init_58 : decode b_Mo_init 58 = .ok (.putfield 32, 3) := by decide +kernel
theorem d_Mo_init_61 : decode b_Mo_init 61 = .ok (.aload_n 0, 1) := by decide +kernel
theorem d_Mo_init_62 : decode b_Mo_init 62 = .ok (.iconst 4, 1) := by decide +kernel
theorem d_Mo_init_63 : decode b_Mo_init 63 = .ok (.newarray .int, 2) := by decide +kernel
theorem d_Mo_init_65 : decode b_Mo_init 65 = .ok (.putfield 35, 3) := by decide +kernel
theorem d_Mo_init_68 : decode b_Mo_init 68 = .ok (.aload_n 0, 1) := by decide +kernel
theorem d_Mo_init_69 : decode b_Mo_init 69 = .ok (.iconst 4, 1) := by decide +kernel
theorem d_Mo_init_70 : decode b_Mo_init 70 = .ok (.newarray .int, 2) := by decide +kernel
theorem d_Mo_init_72 : decode b_Mo_init 72 = .ok (.putfield 38, 3) := by decide +kernel
theorem d_Mo_init_75 : decode b_Mo_init 75 = .ok (.aload_n 0, 1) := by decide +kernel
theorem d_Mo_init_76 : decode b_Mo_init 76 = .ok (.iconst 4, 1) := by decide +kernel
theorem d_Mo_init_77 : decode b_Mo_init 77 = .ok (.newarray .int, 2) := by decide +kernel
theorem d_Mo_init_79 : decode b_Mo_init 79 = .ok (.putfield 41, 3) := by decide +kernel
theorem d_Mo_init_82 : decode b_Mo_init 82 = .ok (.aload_n 0, 1) := by decide +kernel
theorem d_Mo_init_83 : decode b_Mo_init 83 = .ok (.iconst 4, 1) := by decide +kernel
theorem d_Mo_init_84 : decode b_Mo_init 84 = .ok (.newarray .int, 2) := by decide +kernel
theorem d_Mo_init_86 : decode b_Mo_init 86 = .ok (.putfield 44, 3) := by decide +kernel
theorem d_Mo_init_89 : decode b_Mo_init 89 = .ok (.aload_n 0, 1) := by decide +kernel
theorem d_Mo_init_90 : decode b_Mo_init 90 = .ok (.iconst 5, 1) := by decide +kernel
theorem d_Mo_init_91 : decode b_Mo_init 91 = .ok (.newarray .int, 2) := by decide +kernel
theorem d_Mo_init_93 : decode b_Mo_init 93 = .ok (.putfield 47, 3) := by decide +kernel
theorem d_Mo_init_96 : decode b_Mo_init 96 = .ok (.aload_n 0, 1) := by decide +kernel
theorem d_Mo_init_97 : decode b_Mo_init 97 = .ok (.bipush 32, 2) := by decide +kernel
theorem d_Mo_init_99 : decode b_Mo_init 99 = .ok (.newarray .boolean, 2) := by decide +kernel
theorem d_Mo_init_101 : decode b_Mo_init 101 = .ok (.putfield 50, 3) := by decide +kernel
theorem d_Mo_init_104 : decode b_Mo_init 104 = .ok (.aload_n 0, 1) := by decide +kernel
theorem d_Mo_init_105 : decode b_Mo_init 105 = .ok (.iconst 4, 1) := by decide +kernel
theorem d_Mo_init_106 : decode b_Mo_init 106 = .ok (.newarray .int, 2) := by decide +kernel
theorem d_Mo_init_108 : decode b_Mo_init 108 = .ok (.putfield 54, 3) := by decide +kernel
theorem d_Mo_init_111 : decode b_Mo_init 111 = .ok (.aload_n 0, 1) := by decide +kernel
theorem d_Mo_init_112 : decode b_Mo_init 112 = .ok (.iconst 4, 1) := by decide +kernel
theorem d_Mo_init_113 : decode b_Mo_init 113 = .ok (.newarray .int, 2) := by decide +kernel
theorem d_Mo_init_115 : decode b_Mo_init 115 = .ok (.putfield 57, 3) := by decide +kernel
theorem d_Mo_init_118 : decode b_Mo_init 118 = .ok (.aload_n 0, 1) := by decide +kernel
theorem d_Mo_init_119 : decode b_Mo_init 119 = .ok (.iconst 4, 1) := by decide +kernel
theorem d_Mo_init_120 : decode b_Mo_init 120 = .ok (.newarray .int, 2) := by decide +kernel
theorem d_Mo_init_122 : decode b_Mo_init 122 = .ok (.putfield 60, 3) := by decide +kernel
theorem d_Mo_init_125 : decode b_Mo_init 125 = .ok (.aload_n 0, 1) := by decide +kernel
theorem d_Mo_init_126 : decode b_Mo_init 126 = .ok (.iconst 4, 1) := by decide +kernel
theorem d_Mo_init_127 : decode b_Mo_init 127 = .ok (.newarray .int, 2) := by decide +kernel
theorem d_Mo_init_129 : decode b_Mo_init 129 = .ok (.putfield 63, 3) := by decide +kernel
theorem d_Mo_init_132 : decode b_Mo_init 132 = .ok (.aload_n 0, 1) := by decide +kernel
theorem d_Mo_init_133 : decode b_Mo_init 133 = .ok (.bipush 8, 2) := by decide +kernel
theorem d_Mo_init_135 : decode b_Mo_init 135 = .ok (.newarray .int, 2) := by decide +kernel
theorem d_Mo_init_137 : decode b_Mo_init 137 = .ok (.putfield 66, 3) := by decide +kernel
theorem d_Mo_init_140 : decode b_Mo_init 140 = .ok (.return_, 1) := by decide +kernel
theorem d_LR_init_0 : decode b_LR_init 0 = .ok (.aload_n 0, 1) := by decide +kernel
theorem d_LR_init_1 : decode b_LR_init 1 = .ok (.invokespecial 3, 3) := by decide +kernel
theorem d_LR_init_4 : decode b_LR_init 4 = .ok (.aload_n 0, 1) := by decide +kernel
theorem d_LR_init_5 : decode b_LR_init 5 = .ok (.new 9, 3) := by decide +kernel
theorem d_LR_init_8 : decode b_LR_init 8 = .ok (.dup, 1) := by decide +kernel
theorem d_LR_init_9 : decode b_LR_init 9 = .ok (.invokespecial 11, 3) := by decide +kernel
theorem d_LR_init_12 : decode b_LR_init 12 = .ok (.putfield 12, 3) := by decide +kernel
theorem d_LR_init_15 : decode b_LR_init 15 = .ok (.aload_n 0, 1) := by decide +kernel
theorem d_LR_init_16 : decode b_LR_init 16 = .ok (.new 16, 3) := by decide +kernel
theorem d_LR_init_19 : decode b_LR_init 19 = .ok (.dup, 1) := by decide +kernel
theorem d_LR_init_20 : decode b_LR_init 20 = .ok (.invokespecial 18, 3) := by decide +kernel
theorem d_LR_init_23 : decode b_LR_init 23 = .ok (.putfield 19, 3) := by decide +kernel
theorem d_LR_init_26 : decode b_LR_init 26 = .ok (.aload_n 0, 1) := by decide +kernel
theorem d_LR_init_27 : decode b_LR_init 27 = .ok (.new 23, 3) := by decide +kernel
theorem d_LR_init_30 : decode b_LR_init 30 = .ok (.dup, 1) := by decide +kernel
theorem d_LR_init_31 : decode b_LR_init 31 = .ok (.aload_n 0, 1) := by decide +kernel
theorem d_LR_init_32 : decode b_LR_init 32 = .ok (.getfield 12, 3) := by decide +kernel
theorem d_LR_init_35 : decode b_LR_init 35 = .ok (.aload_n 0, 1) := by decide +kernel
theorem d_LR_init_36 : decode b_LR_init 36 = .ok (.getfield 19, 3) := by decide +kernel
theorem d_LR_init_39 : decode b_LR_init 39 = .ok (.invokespecial 25, 3) := by decide +kernel
theorem d_LR_init_42 : decode b_LR_init 42 = .ok (.putfield 28, 3) := by decide +kernel
theorem d_LR_init_45 : decode b_LR_init 45 = .ok (.aload_n 0, 1) := by decide +kernel
theorem d_LR_init_46 : decode b_LR_init 46 = .ok (.new 32, 3) := by decide +kernel
theorem d_LR_init_49 : decode b_LR_init 49 = .ok (.dup, 1) := by decide +kernel
theorem d_LR_init_50 : decode b_LR_init 50 = .ok (.aload_n 0, 1) := by decide +kernel
theorem d_LR_init_51 : decode b_LR_init 51 = .ok (.getfield 12, 3) := by decide +kernel
theorem d_LR_init_54 : decode b_LR_init 54 = .ok (.aload_n 0, 1) := by decide +kernel
theorem d_LR_init_55 : decode b_LR_init 55 = .ok (.getfield 19, 3) := by decide +kernel
theorem d_LR_init_58 : decode b_LR_init 58 = .ok (.aload_n 0, 1) := by decide +kernel
theorem d_LR_init_59 : decode b_LR_init 59 = .ok (.getfield 28, 3) := by decide +kernel
theorem d_LR_init_62 : decode b_LR_init 62 = .ok (.invokespecial 34, 3) := by decide +kernel
theorem d_LR_init_65 : decode b_LR_init 65 = .ok (.putfield 37, 3) := by decide +kernel
theorem d_LR_init_68 : decode b_LR_init 68 = .ok (.return_, 1) := by decide +kernel
theorem oi_Ch : xOI R_Ch 3 := ⟨BIG_at 29 (by decide +kernel) (by decide +kernel), BIG_at 22 (by decide +kernel) (by decide +kernel), BIG_at 23 (by decide +kernel) (by decide +kernel)⟩
theorem gc_Ch_9 : xF R_Ch 9 1 0 := ⟨R_Ch, F_Ch, 8, rfl, i_Ch, by decide, BIG_at 30 (by decide +kernel) (by decide +kernel)⟩
theorem ff_Ch_lengths : xFF R_Ch 1 0 (.array .int) := ⟨R_Ch, F_Ch, 8, t_Ch, rfl, t_Ch_ok, n_Ch, rfl, by decide +kernel, rfl⟩
theorem gc_Ch_15 : xF R_Ch 15 1 1 := ⟨R_Ch, F_Ch, 8, rfl, i_Ch, by decide, BIG_at 31 (by decide +kernel) (by decide +kernel)⟩
theorem ff_Ch_widths : xFF R_Ch 1 1 (.array .int) := ⟨R_Ch, F_Ch, 8, t_Ch, rfl, t_Ch_ok, n_Ch, rfl, by decide +kernel, rfl⟩
theorem gc_Ch_18 : xF R_Ch 18 1 2 := ⟨R_Ch, F_Ch, 8, rfl, i_Ch, by decide, BIG_at 32 (by decide +kernel) (by decide +kernel)⟩
theorem ff_Ch_fills : xFF R_Ch 1 2 (.array .int) := ⟨R_Ch, F_Ch, 8, t_Ch, rfl, t_Ch_ok, n_Ch, rfl, by decide +kernel, rfl⟩
theorem gc_Ch_21 : xF R_Ch 21 1 4 := ⟨R_Ch, F_Ch, 8, rfl, i_Ch, by decide, BIG_at 34 (by decide +kernel) (by decide +kernel)⟩
theorem ff_Ch_spanChambers : xFF R_Ch 1 4 (.array .int) := ⟨R_Ch, F_Ch, 8, t_Ch, rfl, t_Ch_ok, n_Ch, rfl, by decide +kernel, rfl⟩
theorem gc_Ch_24 : xF R_Ch 24 1 5 := ⟨R_Ch, F_Ch, 8, rfl, i_Ch, by decide, BIG_at 35 (by decide +kernel) (by decide +kernel)⟩
theorem ff_Ch_spanBegins : xFF R_Ch 1 5 (.array .int) := ⟨R_Ch, F_Ch, 8, t_Ch, rfl, t_Ch_ok, n_Ch, rfl, by decide +kernel, rfl⟩
theorem gc_Ch_27 : xF R_Ch 27 1 6 := ⟨R_Ch, F_Ch, 8, rfl, i_Ch, by decide, BIG_at 36 (by decide +kernel) (by decide +kernel)⟩
theorem ff_Ch_spanEnds : xFF R_Ch 1 6 (.array .int) := ⟨R_Ch, F_Ch, 8, t_Ch, rfl, t_Ch_ok, n_Ch, rfl, by decide +kernel, rfl⟩
theorem oi_Fl : xOI R_Fl 3 := ⟨BIG_at 61 (by decide +kernel) (by decide +kernel), BIG_at 22 (by decide +kernel) (by decide +kernel), BIG_at 23 (by decide +kernel) (by decide +kernel)⟩
theorem gc_Fl_9 : xF R_Fl 9 2 0 := ⟨R_Fl, F_Fl, 6, rfl, i_Fl, by decide, BIG_at 62 (by decide +kernel) (by decide +kernel)⟩
theorem ff_Fl_lengths : xFF R_Fl 2 0 (.array .int) := ⟨R_Fl, F_Fl, 6, t_Fl, rfl, t_Fl_ok, n_Fl, rfl, by decide +kernel, rfl⟩
theorem gc_Fl_15 : xF R_Fl 15 2 1 := ⟨R_Fl, F_Fl, 6, rfl, i_Fl, by decide, BIG_at 63 (by decide +kernel) (by decide +kernel)⟩
theorem ff_Fl_widths : xFF R_Fl 2 1 (.array .int) := ⟨R_Fl, F_Fl, 6, t_Fl, rfl, t_Fl_ok, n_Fl, rfl, by decide +kernel, rfl⟩
theorem gc_Fl_18 : xF R_Fl 18 2 2 := ⟨R_Fl, F_Fl, 6, rfl, i_Fl, by decide, BIG_at 64 (by decide +kernel) (by decide +kernel)⟩
theorem ff_Fl_arrivals : xFF R_Fl 2 2 (.array .int) := ⟨R_Fl, F_Fl, 6, t_Fl, rfl, t_Fl_ok, n_Fl, rfl, by decide +kernel, rfl⟩
theorem gc_Fl_21 : xF R_Fl 21 2 3 := ⟨R_Fl, F_Fl, 6, rfl, i_Fl, by decide, BIG_at 65 (by decide +kernel) (by decide +kernel)⟩
theorem ff_Fl_directions : xFF R_Fl 2 3 (.array .int) := ⟨R_Fl, F_Fl, 6, t_Fl, rfl, t_Fl_ok, n_Fl, rfl, by decide +kernel, rfl⟩
theorem gc_Fl_24 : xF R_Fl 24 2 4 := ⟨R_Fl, F_Fl, 6, rfl, i_Fl, by decide, BIG_at 66 (by decide +kernel) (by decide +kernel)⟩
theorem ff_Fl_sides : xFF R_Fl 2 4 (.array .int) := ⟨R_Fl, F_Fl, 6, t_Fl, rfl, t_Fl_ok, n_Fl, rfl, by decide +kernel, rfl⟩
theorem oi_Tt : xOI R_Tt 3 := ⟨BIG_at 117 (by decide +kernel) (by decide +kernel), BIG_at 22 (by decide +kernel) (by decide +kernel), BIG_at 23 (by decide +kernel) (by decide +kernel)⟩
theorem gc_Tt_9 : xF R_Tt 9 4 0 := ⟨R_Tt, F_Tt, 4, rfl, i_Tt, by decide, BIG_at 118 (by decide +kernel) (by decide +kernel)⟩
theorem ff_Tt_begins : xFF R_Tt 4 0 (.array .int) := ⟨R_Tt, F_Tt, 4, t_Tt, rfl, t_Tt_ok, n_Tt, rfl, by decide +kernel, rfl⟩
theorem gc_Tt_15 : xF R_Tt 15 4 1 := ⟨R_Tt, F_Tt, 4, rfl, i_Tt, by decide, BIG_at 119 (by decide +kernel) (by decide +kernel)⟩
theorem ff_Tt_chambers : xFF R_Tt 4 1 (.array .int) := ⟨R_Tt, F_Tt, 4, t_Tt, rfl, t_Tt_ok, n_Tt, rfl, by decide +kernel, rfl⟩
theorem gc_Tt_18 : xF R_Tt 18 4 2 := ⟨R_Tt, F_Tt, 4, rfl, i_Tt, by decide, BIG_at 120 (by decide +kernel) (by decide +kernel)⟩
theorem ff_Tt_runs : xFF R_Tt 4 2 (.array .int) := ⟨R_Tt, F_Tt, 4, t_Tt, rfl, t_Tt_ok, n_Tt, rfl, by decide +kernel, rfl⟩
theorem oi_Be : xOI R_Be 3 := ⟨BIG_at 86 (by decide +kernel) (by decide +kernel), BIG_at 22 (by decide +kernel) (by decide +kernel), BIG_at 23 (by decide +kernel) (by decide +kernel)⟩
theorem gc_Be_9 : xF R_Be 9 3 2 := ⟨R_Be, F_Be, 6, rfl, i_Be, by decide, BIG_at 89 (by decide +kernel) (by decide +kernel)⟩
theorem ff_Be_xs : xFF R_Be 3 2 (.array .int) := ⟨R_Be, F_Be, 6, t_Be, rfl, t_Be_ok, n_Be, rfl, by decide +kernel, rfl⟩
theorem gc_Be_15 : xF R_Be 15 3 3 := ⟨R_Be, F_Be, 6, rfl, i_Be, by decide, BIG_at 90 (by decide +kernel) (by decide +kernel)⟩
theorem ff_Be_ys : xFF R_Be 3 3 (.array .int) := ⟨R_Be, F_Be, 6, t_Be, rfl, t_Be_ok, n_Be, rfl, by decide +kernel, rfl⟩
theorem gc_Be_18 : xF R_Be 18 3 4 := ⟨R_Be, F_Be, 6, rfl, i_Be, by decide, BIG_at 91 (by decide +kernel) (by decide +kernel)⟩
theorem ff_Be_found : xFF R_Be 3 4 (.array .int) := ⟨R_Be, F_Be, 6, t_Be, rfl, t_Be_ok, n_Be, rfl, by decide +kernel, rfl⟩
theorem gc_Be_21 : xF R_Be 21 3 0 := ⟨R_Be, F_Be, 6, rfl, i_Be, by decide, BIG_at 87 (by decide +kernel) (by decide +kernel)⟩
theorem ff_Be_chambers : xFF R_Be 3 0 (.object "LockRuns$Chambers") := ⟨R_Be, F_Be, 6, t_Be, rfl, t_Be_ok, n_Be, rfl, by decide +kernel, rfl⟩
theorem gc_Be_25 : xF R_Be 25 3 1 := ⟨R_Be, F_Be, 6, rfl, i_Be, by decide, BIG_at 88 (by decide +kernel) (by decide +kernel)⟩
theorem ff_Be_fleet : xFF R_Be 3 1 (.object "LockRuns$Fleet") := ⟨R_Be, F_Be, 6, t_Be, rfl, t_Be_ok, n_Be, rfl, by decide +kernel, rfl⟩
theorem oi_Pl : xOI R_Pl 3 := ⟨BIG_at 111 (by decide +kernel) (by decide +kernel), BIG_at 22 (by decide +kernel) (by decide +kernel), BIG_at 23 (by decide +kernel) (by decide +kernel)⟩
theorem nc_Pl_9 : xNC R_Pl 9 4 4 t_Tt := ⟨R_Tt, F_Tt, rfl, i_Tt, t_Tt_ok, BIG_at 112 (by decide +kernel) (by decide +kernel), BIG_at 113 (by decide +kernel) (by decide +kernel), BIG_at 6 (by decide +kernel) (by decide +kernel)⟩
set_option maxRecDepth 20000 in
theorem Y_Tt_init : xY y_Tt_init b_Tt_init 1 none 0 := ⟨BIG_at 116 rfl rfl, BIG_at 6 (by decide +kernel) (by decide +kernel), by decide +kernel, by decide +kernel, by decide +kernel⟩
theorem ii_Pl_11 : xIIN R_Pl 11 y_Tt_init := ⟨rfl, BIG_at 115 (by decide +kernel) (by decide +kernel), "LockRuns", by decide +kernel⟩
theorem gc_Pl_12 : xF R_Pl 12 5 3 := ⟨R_Pl, F_Pl, 8, rfl, i_Pl, by decide, BIG_at 134 (by decide +kernel) (by decide +kernel)⟩
theorem ff_Pl_trial : xFF R_Pl 5 3 (.object "LockRuns$Timetable") := ⟨R_Pl, F_Pl, 8, t_Pl, rfl, t_Pl_ok, n_Pl, rfl, by decide +kernel, rfl⟩
theorem gc_Pl_18 : xF R_Pl 18 5 4 := ⟨R_Pl, F_Pl, 8, rfl, i_Pl, by decide, BIG_at 135 (by decide +kernel) (by decide +kernel)⟩
theorem ff_Pl_best : xFF R_Pl 5 4 (.object "LockRuns$Timetable") := ⟨R_Pl, F_Pl, 8, t_Pl, rfl, t_Pl_ok, n_Pl, rfl, by decide +kernel, rfl⟩
theorem gc_Pl_21 : xF R_Pl 21 5 5 := ⟨R_Pl, F_Pl, 8, rfl, i_Pl, by decide, BIG_at 136 (by decide +kernel) (by decide +kernel)⟩
theorem ff_Pl_previous : xFF R_Pl 5 5 (.object "LockRuns$Timetable") := ⟨R_Pl, F_Pl, 8, t_Pl, rfl, t_Pl_ok, n_Pl, rfl, by decide +kernel, rfl⟩
theorem gc_Pl_24 : xF R_Pl 24 5 7 := ⟨R_Pl, F_Pl, 8, rfl, i_Pl, by decide, BIG_at 138 (by decide +kernel) (by decide +kernel)⟩
theorem fc_Pl_over : xFW 5 7 .int := ⟨R_Pl, F_Pl, 8, t_Pl, rfl, t_Pl_ok, n_Pl, rfl, by decide +kernel⟩
theorem gc_Pl_28 : xF R_Pl 28 5 0 := ⟨R_Pl, F_Pl, 8, rfl, i_Pl, by decide, BIG_at 131 (by decide +kernel) (by decide +kernel)⟩
theorem ff_Pl_chambers : xFF R_Pl 5 0 (.object "LockRuns$Chambers") := ⟨R_Pl, F_Pl, 8, t_Pl, rfl, t_Pl_ok, n_Pl, rfl, by decide +kernel, rfl⟩
theorem gc_Pl_32 : xF R_Pl 32 5 1 := ⟨R_Pl, F_Pl, 8, rfl, i_Pl, by decide, BIG_at 132 (by decide +kernel) (by decide +kernel)⟩
theorem ff_Pl_fleet : xFF R_Pl 5 1 (.object "LockRuns$Fleet") := ⟨R_Pl, F_Pl, 8, t_Pl, rfl, t_Pl_ok, n_Pl, rfl, by decide +kernel, rfl⟩
theorem gc_Pl_36 : xF R_Pl 36 5 2 := ⟨R_Pl, F_Pl, 8, rfl, i_Pl, by decide, BIG_at 133 (by decide +kernel) (by decide +kernel)⟩
theorem ff_Pl_berths : xFF R_Pl 5 2 (.object "LockRuns$Berths") := ⟨R_Pl, F_Pl, 8, t_Pl, rfl, t_Pl_ok, n_Pl, rfl, by decide +kernel, rfl⟩
theorem oi_Mo : xOI R_Mo 1 := ⟨BIG_at 640 (by decide +kernel) (by decide +kernel), BIG_at 22 (by decide +kernel) (by decide +kernel), BIG_at 23 (by decide +kernel) (by decide +kernel)⟩
theorem gc_Mo_7 : xF R_Mo 7 6 5 := ⟨R_Mo, F_Mo, 25, rfl, i_Mo, by decide, BIG_at 646 (by decide +kernel) (by decide +kernel)⟩
theorem fc_Mo_over : xFW 6 5 .int := ⟨R_Mo, F_Mo, 25, t_Mo, rfl, t_Mo_ok, n_Mo, rfl, by decide +kernel⟩
theorem gc_Mo_13 : xF R_Mo 13 6 7 := ⟨R_Mo, F_Mo, 25, rfl, i_Mo, by decide, BIG_at 648 (by decide +kernel) (by decide +kernel)⟩
theorem ff_Mo_lengthOf : xFF R_Mo 6 7 (.array .int) := ⟨R_Mo, F_Mo, 25, t_Mo, rfl, t_Mo_ok, n_Mo, rfl, by decide +kernel, rfl⟩
theorem gc_Mo_17 : xF R_Mo 17 6 8 := ⟨R_Mo, F_Mo, 25, rfl, i_Mo, by decide, BIG_at 649 (by decide +kernel) (by decide +kernel)⟩
theorem ff_Mo_widthOf : xFF R_Mo 6 8 (.array .int) := ⟨R_Mo, F_Mo, 25, t_Mo, rfl, t_Mo_ok, n_Mo, rfl, by decide +kernel, rfl⟩
theorem gc_Mo_20 : xF R_Mo 20 6 9 := ⟨R_Mo, F_Mo, 25, rfl, i_Mo, by decide, BIG_at 650 (by decide +kernel) (by decide +kernel)⟩
theorem ff_Mo_fillOf : xFF R_Mo 6 9 (.array .int) := ⟨R_Mo, F_Mo, 25, t_Mo, rfl, t_Mo_ok, n_Mo, rfl, by decide +kernel, rfl⟩
theorem gc_Mo_23 : xF R_Mo 23 6 10 := ⟨R_Mo, F_Mo, 25, rfl, i_Mo, by decide, BIG_at 651 (by decide +kernel) (by decide +kernel)⟩
theorem ff_Mo_spanChamber : xFF R_Mo 6 10 (.array .int) := ⟨R_Mo, F_Mo, 25, t_Mo, rfl, t_Mo_ok, n_Mo, rfl, by decide +kernel, rfl⟩
theorem gc_Mo_26 : xF R_Mo 26 6 11 := ⟨R_Mo, F_Mo, 25, rfl, i_Mo, by decide, BIG_at 652 (by decide +kernel) (by decide +kernel)⟩
theorem ff_Mo_spanFrom : xFF R_Mo 6 11 (.array .int) := ⟨R_Mo, F_Mo, 25, t_Mo, rfl, t_Mo_ok, n_Mo, rfl, by decide +kernel, rfl⟩
theorem gc_Mo_29 : xF R_Mo 29 6 12 := ⟨R_Mo, F_Mo, 25, rfl, i_Mo, by decide, BIG_at 653 (by decide +kernel) (by decide +kernel)⟩
theorem ff_Mo_spanTo : xFF R_Mo 6 12 (.array .int) := ⟨R_Mo, F_Mo, 25, t_Mo, rfl, t_Mo_ok, n_Mo, rfl, by decide +kernel, rfl⟩
theorem gc_Mo_32 : xF R_Mo 32 6 13 := ⟨R_Mo, F_Mo, 25, rfl, i_Mo, by decide, BIG_at 654 (by decide +kernel) (by decide +kernel)⟩
theorem ff_Mo_shipLength : xFF R_Mo 6 13 (.array .int) := ⟨R_Mo, F_Mo, 25, t_Mo, rfl, t_Mo_ok, n_Mo, rfl, by decide +kernel, rfl⟩
theorem gc_Mo_35 : xF R_Mo 35 6 14 := ⟨R_Mo, F_Mo, 25, rfl, i_Mo, by decide, BIG_at 655 (by decide +kernel) (by decide +kernel)⟩
theorem ff_Mo_shipWidth : xFF R_Mo 6 14 (.array .int) := ⟨R_Mo, F_Mo, 25, t_Mo, rfl, t_Mo_ok, n_Mo, rfl, by decide +kernel, rfl⟩
theorem gc_Mo_38 : xF R_Mo 38 6 15 := ⟨R_Mo, F_Mo, 25, rfl, i_Mo, by decide, BIG_at 656 (by decide +kernel) (by decide +kernel)⟩
theorem ff_Mo_arrives : xFF R_Mo 6 15 (.array .int) := ⟨R_Mo, F_Mo, 25, t_Mo, rfl, t_Mo_ok, n_Mo, rfl, by decide +kernel, rfl⟩
theorem gc_Mo_41 : xF R_Mo 41 6 16 := ⟨R_Mo, F_Mo, 25, rfl, i_Mo, by decide, BIG_at 657 (by decide +kernel) (by decide +kernel)⟩
theorem ff_Mo_way : xFF R_Mo 6 16 (.array .int) := ⟨R_Mo, F_Mo, 25, t_Mo, rfl, t_Mo_ok, n_Mo, rfl, by decide +kernel, rfl⟩
theorem gc_Mo_44 : xF R_Mo 44 6 17 := ⟨R_Mo, F_Mo, 25, rfl, i_Mo, by decide, BIG_at 658 (by decide +kernel) (by decide +kernel)⟩
theorem ff_Mo_side : xFF R_Mo 6 17 (.array .int) := ⟨R_Mo, F_Mo, 25, t_Mo, rfl, t_Mo_ok, n_Mo, rfl, by decide +kernel, rfl⟩
theorem gc_Mo_47 : xF R_Mo 47 6 18 := ⟨R_Mo, F_Mo, 25, rfl, i_Mo, by decide, BIG_at 659 (by decide +kernel) (by decide +kernel)⟩
theorem ff_Mo_laid : xFF R_Mo 6 18 (.array .int) := ⟨R_Mo, F_Mo, 25, t_Mo, rfl, t_Mo_ok, n_Mo, rfl, by decide +kernel, rfl⟩
theorem gc_Mo_50 : xF R_Mo 50 6 19 := ⟨R_Mo, F_Mo, 25, rfl, i_Mo, by decide, BIG_at 660 (by decide +kernel) (by decide +kernel)⟩
theorem ff_Mo_isFit : xFF R_Mo 6 19 (.array .boolean) := ⟨R_Mo, F_Mo, 25, t_Mo, rfl, t_Mo_ok, n_Mo, rfl, by decide +kernel, rfl⟩
theorem gc_Mo_54 : xF R_Mo 54 6 20 := ⟨R_Mo, F_Mo, 25, rfl, i_Mo, by decide, BIG_at 661 (by decide +kernel) (by decide +kernel)⟩
theorem ff_Mo_tried : xFF R_Mo 6 20 (.array .int) := ⟨R_Mo, F_Mo, 25, t_Mo, rfl, t_Mo_ok, n_Mo, rfl, by decide +kernel, rfl⟩
theorem gc_Mo_57 : xF R_Mo 57 6 21 := ⟨R_Mo, F_Mo, 25, rfl, i_Mo, by decide, BIG_at 662 (by decide +kernel) (by decide +kernel)⟩
theorem ff_Mo_triedBegin : xFF R_Mo 6 21 (.array .int) := ⟨R_Mo, F_Mo, 25, t_Mo, rfl, t_Mo_ok, n_Mo, rfl, by decide +kernel, rfl⟩
theorem gc_Mo_60 : xF R_Mo 60 6 22 := ⟨R_Mo, F_Mo, 25, rfl, i_Mo, by decide, BIG_at 663 (by decide +kernel) (by decide +kernel)⟩
theorem ff_Mo_best : xFF R_Mo 6 22 (.array .int) := ⟨R_Mo, F_Mo, 25, t_Mo, rfl, t_Mo_ok, n_Mo, rfl, by decide +kernel, rfl⟩
theorem gc_Mo_63 : xF R_Mo 63 6 23 := ⟨R_Mo, F_Mo, 25, rfl, i_Mo, by decide, BIG_at 664 (by decide +kernel) (by decide +kernel)⟩
theorem ff_Mo_bestBegin : xFF R_Mo 6 23 (.array .int) := ⟨R_Mo, F_Mo, 25, t_Mo, rfl, t_Mo_ok, n_Mo, rfl, by decide +kernel, rfl⟩
theorem gc_Mo_66 : xF R_Mo 66 6 24 := ⟨R_Mo, F_Mo, 25, rfl, i_Mo, by decide, BIG_at 665 (by decide +kernel) (by decide +kernel)⟩
theorem ff_Mo_runBegin : xFF R_Mo 6 24 (.array .int) := ⟨R_Mo, F_Mo, 25, t_Mo, rfl, t_Mo_ok, n_Mo, rfl, by decide +kernel, rfl⟩
theorem oi_LR : xOI R_LR 3 := ⟨BIG_at 21 (by decide +kernel) (by decide +kernel), BIG_at 22 (by decide +kernel) (by decide +kernel), BIG_at 23 (by decide +kernel) (by decide +kernel)⟩
theorem nc_LR_9 : xNC R_LR 9 1 8 t_Ch := ⟨R_Ch, F_Ch, rfl, i_Ch, t_Ch_ok, BIG_at 24 (by decide +kernel) (by decide +kernel), BIG_at 25 (by decide +kernel) (by decide +kernel), BIG_at 2 (by decide +kernel) (by decide +kernel)⟩
set_option maxRecDepth 20000 in
theorem Y_Ch_init : xY y_Ch_init b_Ch_init 1 none 0 := ⟨BIG_at 28 rfl rfl, BIG_at 2 (by decide +kernel) (by decide +kernel), by decide +kernel, by decide +kernel, by decide +kernel⟩
theorem ii_LR_11 : xIIN R_LR 11 y_Ch_init := ⟨rfl, BIG_at 27 (by decide +kernel) (by decide +kernel), "LockRuns", by decide +kernel⟩
theorem gc_LR_12 : xF R_LR 12 0 0 := ⟨R_LR, F_LR, 4, rfl, i_LR, by decide, BIG_at 156 (by decide +kernel) (by decide +kernel)⟩
theorem ff_LR_chambers : xFF R_LR 0 0 (.object "LockRuns$Chambers") := ⟨R_LR, F_LR, 4, t_LR, rfl, t_LR_ok, n_LR, rfl, by decide +kernel, rfl⟩
theorem nc_LR_16 : xNC R_LR 16 2 6 t_Fl := ⟨R_Fl, F_Fl, rfl, i_Fl, t_Fl_ok, BIG_at 56 (by decide +kernel) (by decide +kernel), BIG_at 57 (by decide +kernel) (by decide +kernel), BIG_at 3 (by decide +kernel) (by decide +kernel)⟩
set_option maxRecDepth 20000 in
theorem Y_Fl_init : xY y_Fl_init b_Fl_init 1 none 0 := ⟨BIG_at 60 rfl rfl, BIG_at 3 (by decide +kernel) (by decide +kernel), by decide +kernel, by decide +kernel, by decide +kernel⟩
theorem ii_LR_18 : xIIN R_LR 18 y_Fl_init := ⟨rfl, BIG_at 59 (by decide +kernel) (by decide +kernel), "LockRuns", by decide +kernel⟩
theorem gc_LR_19 : xF R_LR 19 0 1 := ⟨R_LR, F_LR, 4, rfl, i_LR, by decide, BIG_at 157 (by decide +kernel) (by decide +kernel)⟩
theorem ff_LR_fleet : xFF R_LR 0 1 (.object "LockRuns$Fleet") := ⟨R_LR, F_LR, 4, t_LR, rfl, t_LR_ok, n_LR, rfl, by decide +kernel, rfl⟩
theorem nc_LR_23 : xNC R_LR 23 3 6 t_Be := ⟨R_Be, F_Be, rfl, i_Be, t_Be_ok, BIG_at 81 (by decide +kernel) (by decide +kernel), BIG_at 82 (by decide +kernel) (by decide +kernel), BIG_at 4 (by decide +kernel) (by decide +kernel)⟩
set_option maxRecDepth 20000 in
theorem Y_Be_init : xY y_Be_init b_Be_init 3 none 2 := ⟨BIG_at 85 rfl rfl, BIG_at 4 (by decide +kernel) (by decide +kernel), by decide +kernel, by decide +kernel, by decide +kernel⟩
theorem ii_LR_25 : xII R_LR 25 y_Be_init := ⟨rfl, BIG_at 84 (by decide +kernel) (by decide +kernel), BIG_at 83 (by decide +kernel) (by decide +kernel)⟩
theorem gc_LR_28 : xF R_LR 28 0 2 := ⟨R_LR, F_LR, 4, rfl, i_LR, by decide, BIG_at 158 (by decide +kernel) (by decide +kernel)⟩
theorem ff_LR_berths : xFF R_LR 0 2 (.object "LockRuns$Berths") := ⟨R_LR, F_LR, 4, t_LR, rfl, t_LR_ok, n_LR, rfl, by decide +kernel, rfl⟩
theorem nc_LR_32 : xNC R_LR 32 5 8 t_Pl := ⟨R_Pl, F_Pl, rfl, i_Pl, t_Pl_ok, BIG_at 106 (by decide +kernel) (by decide +kernel), BIG_at 107 (by decide +kernel) (by decide +kernel), BIG_at 5 (by decide +kernel) (by decide +kernel)⟩
set_option maxRecDepth 20000 in
theorem Y_Pl_init : xY y_Pl_init b_Pl_init 4 none 3 := ⟨BIG_at 110 rfl rfl, BIG_at 5 (by decide +kernel) (by decide +kernel), by decide +kernel, by decide +kernel, by decide +kernel⟩
theorem ii_LR_34 : xII R_LR 34 y_Pl_init := ⟨rfl, BIG_at 109 (by decide +kernel) (by decide +kernel), BIG_at 108 (by decide +kernel) (by decide +kernel)⟩
theorem gc_LR_37 : xF R_LR 37 0 3 := ⟨R_LR, F_LR, 4, rfl, i_LR, by decide, BIG_at 159 (by decide +kernel) (by decide +kernel)⟩
theorem ff_LR_planner : xFF R_LR 0 3 (.object "LockRuns$Planner") := ⟨R_LR, F_LR, 4, t_LR, rfl, t_LR_ok, n_LR, rfl, by decide +kernel, rfl⟩
def W_Ch (cI : ClassId) (a : Nat) (qa : Nat → Nat) : va_W :=
  [(a, .inr (1, [.ref (qa 0), .ref (qa 1), .ref (qa 2), .int 0, .ref (qa 3), .ref (qa 4), .ref (qa 5), .int 0])), ((qa 0), .inl (cI, 2, .inl (fun _ => 0))), ((qa 1), .inl (cI, 2, .inl (fun _ => 0))), ((qa 2), .inl (cI, 2, .inl (fun _ => 0))), ((qa 3), .inl (cI, 8, .inl (fun _ => 0))), ((qa 4), .inl (cI, 8, .inl (fun _ => 0))), ((qa 5), .inl (cI, 8, .inl (fun _ => 0)))]
def rm_Ch_init : Room := { frames := 1, cells := 6, slots := 30, locals := 12 }
def W_Fl (cI : ClassId) (a : Nat) (qa : Nat → Nat) : va_W :=
  [(a, .inr (2, [.ref (qa 0), .ref (qa 1), .ref (qa 2), .ref (qa 3), .ref (qa 4), .int 0])), ((qa 0), .inl (cI, 4, .inl (fun _ => 0))), ((qa 1), .inl (cI, 4, .inl (fun _ => 0))), ((qa 2), .inl (cI, 4, .inl (fun _ => 0))), ((qa 3), .inl (cI, 4, .inl (fun _ => 0))), ((qa 4), .inl (cI, 4, .inl (fun _ => 0)))]
def rm_Fl_init : Room := { frames := 1, cells := 5, slots := 20, locals := 12 }
def W_Tt (cI : ClassId) (a : Nat) (qa : Nat → Nat) : va_W :=
  [(a, .inr (4, [.ref (qa 0), .ref (qa 1), .ref (qa 2), .int 0])), ((qa 0), .inl (cI, 4, .inl (fun _ => 0))), ((qa 1), .inl (cI, 4, .inl (fun _ => 0))), ((qa 2), .inl (cI, 4, .inl (fun _ => 0)))]
def rm_Tt_init : Room := { frames := 1, cells := 3, slots := 12, locals := 12 }
def W_Be (cI : ClassId) (a : Nat) (r1 : Nat) (r2 : Nat) (qa : Nat → Nat) : va_W :=
  [(a, .inr (3, [.ref r1, .ref r2, .ref (qa 0), .ref (qa 1), .ref (qa 2), .int 0])), ((qa 0), .inl (cI, 4, .inl (fun _ => 0))), ((qa 1), .inl (cI, 4, .inl (fun _ => 0))), ((qa 2), .inl (cI, 128, .inl (fun _ => 0)))]
def rm_Be_init : Room := { frames := 1, cells := 3, slots := 136, locals := 12 }
def W_Pl (cI : ClassId) (a : Nat) (r1 : Nat) (r2 : Nat) (r3 : Nat) (qa : Nat → Nat) : va_W :=
  [(a, .inr (5, [.ref r1, .ref r2, .ref r3, .ref (qa 0), .ref (qa 4), .ref (qa 8), .int 0, .int 3])), ((qa 0), .inr (4, [.ref (qa 1), .ref (qa 2), .ref (qa 3), .int 0])), ((qa 1), .inl (cI, 4, .inl (fun _ => 0))), ((qa 2), .inl (cI, 4, .inl (fun _ => 0))), ((qa 3), .inl (cI, 4, .inl (fun _ => 0))), ((qa 4), .inr (4, [.ref (qa 5), .ref (qa 6), .ref (qa 7), .int 0])), ((qa 5), .inl (cI, 4, .inl (fun _ => 0))), ((qa 6), .inl (cI, 4, .inl (fun _ => 0))), ((qa 7), .inl (cI, 4, .inl (fun _ => 0))), ((qa 8), .inr (4, [.ref (qa 9), .ref (qa 10), .ref (qa 11), .int 0])), ((qa 9), .inl (cI, 4, .inl (fun _ => 0))), ((qa 10), .inl (cI, 4, .inl (fun _ => 0))), ((qa 11), .inl (cI, 4, .inl (fun _ => 0)))]
def rm_Pl_init : Room := { frames := 2, cells := 12, slots := 48, locals := 32 }
def W_Mo (cI cZ : ClassId) (a : Nat) (qa : Nat → Nat) : va_W :=
  [(a, .inr (6, [.int 0, .int 0, .int 0, .int 0, .int 0, .int 3, .int 0, .ref (qa 0), .ref (qa 1), .ref (qa 2), .ref (qa 3), .ref (qa 4), .ref (qa 5), .ref (qa 6), .ref (qa 7), .ref (qa 8), .ref (qa 9), .ref (qa 10), .ref (qa 11), .ref (qa 12), .ref (qa 13), .ref (qa 14), .ref (qa 15), .ref (qa 16), .ref (qa 17)])), ((qa 0), .inl (cI, 2, .inl (fun _ => 0))), ((qa 1), .inl (cI, 2, .inl (fun _ => 0))), ((qa 2), .inl (cI, 2, .inl (fun _ => 0))), ((qa 3), .inl (cI, 8, .inl (fun _ => 0))), ((qa 4), .inl (cI, 8, .inl (fun _ => 0))), ((qa 5), .inl (cI, 8, .inl (fun _ => 0))), ((qa 6), .inl (cI, 4, .inl (fun _ => 0))), ((qa 7), .inl (cI, 4, .inl (fun _ => 0))), ((qa 8), .inl (cI, 4, .inl (fun _ => 0))), ((qa 9), .inl (cI, 4, .inl (fun _ => 0))), ((qa 10), .inl (cI, 4, .inl (fun _ => 0))), ((qa 11), .inl (cI, 5, .inl (fun _ => 0))), ((qa 12), .inl (cZ, 32, .inl (fun _ => 0))), ((qa 13), .inl (cI, 4, .inl (fun _ => 0))), ((qa 14), .inl (cI, 4, .inl (fun _ => 0))), ((qa 15), .inl (cI, 4, .inl (fun _ => 0))), ((qa 16), .inl (cI, 4, .inl (fun _ => 0))), ((qa 17), .inl (cI, 8, .inl (fun _ => 0)))]
def rm_Mo_init : Room := { frames := 1, cells := 18, slots := 111, locals := 12 }
def rm_LR_init : Room := { frames := 3, cells := 30, slots := 262, locals := 55 }
