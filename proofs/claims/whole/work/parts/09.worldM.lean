/-- the reference's world: 19 cells -/
def WM (ad : Nat → Nat) (cI : ClassId × ClassId) (st : St) : va_W :=
  [(ad 0, .inr (6, [.int (st.1 0), .int (st.1 1), .int (st.1 2), .int (st.1 3), .int (st.1 4), .int (st.1 5), .int (st.1 6), .ref (ad 1), .ref (ad 2), .ref (ad 3), .ref (ad 4), .ref (ad 5), .ref (ad 6), .ref (ad 7), .ref (ad 8), .ref (ad 9), .ref (ad 10), .ref (ad 11), .ref (ad 12), .ref (ad 13), .ref (ad 14), .ref (ad 15), .ref (ad 16), .ref (ad 17), .ref (ad 18)])),
  (ad 1, .inl (cI.1, 2, .inl (st.2 0))),
  (ad 2, .inl (cI.1, 2, .inl (st.2 1))),
  (ad 3, .inl (cI.1, 2, .inl (st.2 2))),
  (ad 4, .inl (cI.1, 8, .inl (st.2 3))),
  (ad 5, .inl (cI.1, 8, .inl (st.2 4))),
  (ad 6, .inl (cI.1, 8, .inl (st.2 5))),
  (ad 7, .inl (cI.1, 4, .inl (st.2 6))),
  (ad 8, .inl (cI.1, 4, .inl (st.2 7))),
  (ad 9, .inl (cI.1, 4, .inl (st.2 8))),
  (ad 10, .inl (cI.1, 4, .inl (st.2 9))),
  (ad 11, .inl (cI.1, 4, .inl (st.2 10))),
  (ad 12, .inl (cI.1, 5, .inl (st.2 11))),
  (ad 13, .inl (cI.2, 32, .inl (st.2 12))),
  (ad 14, .inl (cI.1, 4, .inl (st.2 13))),
  (ad 15, .inl (cI.1, 4, .inl (st.2 14))),
  (ad 16, .inl (cI.1, 4, .inl (st.2 15))),
  (ad 17, .inl (cI.1, 4, .inl (st.2 16))),
  (ad 18, .inl (cI.1, 8, .inl (st.2 17)))]
def LM (ad : Nat → Nat) : List Nat := [ad 0, ad 1, ad 2, ad 3, ad 4, ad 5, ad 6, ad 7, ad 8, ad 9, ad 10, ad 11, ad 12, ad 13, ad 14, ad 15, ad 16, ad 17, ad 18]
theorem WM_D {ad : Nat → Nat} {cI : ClassId × ClassId} (N : (LM ad).Nodup) (sz : Nat) (st : St) : va_D (xA (LM ad) sz) (WM ad cI st) := xD_L (L := LM ad) (wf := WM ad cI) (fun _ => rfl) N sz st
theorem xlt_6 {k : Nat} (h : k < 6) : k = 0 ∨ k = 1 ∨ k = 2 ∨ k = 3 ∨ k = 4 ∨ k = 5 := by omega
def tyM (cI : ClassId × ClassId) : List (ClassId × FieldType) := [(cI.1, .int), (cI.2, .boolean)]
set_option maxRecDepth 20000 in
theorem Y_Mo_lay : xY y_Mo_lay b_Mo_lay 7 (some .boolean) 2 := ⟨BIG_at 752 rfl rfl, BIG_at 7 (by decide +kernel) (by decide +kernel), by decide +kernel, by decide +kernel, by decide +kernel⟩
theorem i_Mo_100 : xIV R_Mo 100 y_Mo_lay := ⟨BIG_at 749 (by decide +kernel) (by decide +kernel), BIG_at 751 (by decide +kernel) (by decide +kernel), BIG_sel (q := (y_Mo_lay, 25)) 11 (by decide +kernel) (by decide +kernel)⟩
set_option maxRecDepth 20000 in
theorem Y_Mo_first : xY y_Mo_first b_Mo_first 2 (some .int) 1 := ⟨BIG_at 784 rfl rfl, BIG_at 7 (by decide +kernel) (by decide +kernel), by decide +kernel, by decide +kernel, by decide +kernel⟩
theorem i_Mo_104 : xIS R_Mo 104 y_Mo_first := ⟨BIG_at 782 (by decide +kernel) (by decide +kernel), BIG_at 783 (by decide +kernel) (by decide +kernel)⟩
set_option maxRecDepth 20000 in
theorem Y_Mo_setOf : xY y_Mo_setOf b_Mo_setOf 4 (some .int) 1 := ⟨BIG_at 777 rfl rfl, BIG_at 7 (by decide +kernel) (by decide +kernel), by decide +kernel, by decide +kernel, by decide +kernel⟩
theorem i_Mo_108 : xIV R_Mo 108 y_Mo_setOf := ⟨BIG_at 774 (by decide +kernel) (by decide +kernel), BIG_at 776 (by decide +kernel) (by decide +kernel), BIG_sel (q := (y_Mo_setOf, 25)) 16 (by decide +kernel) (by decide +kernel)⟩
set_option maxRecDepth 20000 in
theorem Y_Mo_isOneWay : xY y_Mo_isOneWay b_Mo_isOneWay 4 (some .boolean) 1 := ⟨BIG_at 781 rfl rfl, BIG_at 7 (by decide +kernel) (by decide +kernel), by decide +kernel, by decide +kernel, by decide +kernel⟩
theorem i_Mo_111 : xIV R_Mo 111 y_Mo_isOneWay := ⟨BIG_at 778 (by decide +kernel) (by decide +kernel), BIG_at 780 (by decide +kernel) (by decide +kernel), BIG_sel (q := (y_Mo_isOneWay, 25)) 17 (by decide +kernel) (by decide +kernel)⟩
set_option maxRecDepth 20000 in
theorem Y_Mo_open : xY y_Mo_open b_Mo_open 6 (some .int) 2 := ⟨BIG_at 788 rfl rfl, BIG_at 7 (by decide +kernel) (by decide +kernel), by decide +kernel, by decide +kernel, by decide +kernel⟩
theorem i_Mo_114 : xIV R_Mo 114 y_Mo_open := ⟨BIG_at 785 (by decide +kernel) (by decide +kernel), BIG_at 787 (by decide +kernel) (by decide +kernel), BIG_sel (q := (y_Mo_open, 25)) 18 (by decide +kernel) (by decide +kernel)⟩
set_option maxRecDepth 20000 in
theorem Y_Mo_times : xY y_Mo_times b_Mo_times 10 (some .boolean) 1 := ⟨BIG_at 773 rfl rfl, BIG_at 7 (by decide +kernel) (by decide +kernel), by decide +kernel, by decide +kernel, by decide +kernel⟩
theorem i_Mo_118 : xIV R_Mo 118 y_Mo_times := ⟨BIG_at 770 (by decide +kernel) (by decide +kernel), BIG_at 772 (by decide +kernel) (by decide +kernel), BIG_sel (q := (y_Mo_times, 25)) 15 (by decide +kernel) (by decide +kernel)⟩
set_option maxRecDepth 20000 in
theorem Y_Mo_overtaken : xY y_Mo_overtaken b_Mo_overtaken 7 (some .int) 2 := ⟨BIG_at 792 rfl rfl, BIG_at 7 (by decide +kernel) (by decide +kernel), by decide +kernel, by decide +kernel, by decide +kernel⟩
theorem i_Mo_122 : xIV R_Mo 122 y_Mo_overtaken := ⟨BIG_at 789 (by decide +kernel) (by decide +kernel), BIG_at 791 (by decide +kernel) (by decide +kernel), BIG_sel (q := (y_Mo_overtaken, 25)) 19 (by decide +kernel) (by decide +kernel)⟩
set_option maxRecDepth 20000 in
theorem Y_Mo_weighed : xY y_Mo_weighed b_Mo_weighed 3 (some .int) 0 := ⟨BIG_at 769 rfl rfl, BIG_at 7 (by decide +kernel) (by decide +kernel), by decide +kernel, by decide +kernel, by decide +kernel⟩
theorem i_Mo_126 : xIV R_Mo 126 y_Mo_weighed := ⟨BIG_at 766 (by decide +kernel) (by decide +kernel), BIG_at 768 (by decide +kernel) (by decide +kernel), BIG_sel (q := (y_Mo_weighed, 25)) 14 (by decide +kernel) (by decide +kernel)⟩
set_option maxRecDepth 20000 in
theorem Y_Mo_isAhead : xY y_Mo_isAhead b_Mo_isAhead 2 (some .boolean) 0 := ⟨BIG_at 796 rfl rfl, BIG_at 7 (by decide +kernel) (by decide +kernel), by decide +kernel, by decide +kernel, by decide +kernel⟩
theorem i_Mo_130 : xIV R_Mo 130 y_Mo_isAhead := ⟨BIG_at 793 (by decide +kernel) (by decide +kernel), BIG_at 795 (by decide +kernel) (by decide +kernel), BIG_sel (q := (y_Mo_isAhead, 25)) 20 (by decide +kernel) (by decide +kernel)⟩
set_option maxRecDepth 20000 in
theorem Y_Mo_search : xY y_Mo_search b_Mo_search 7 (some .int) 0 := ⟨BIG_at 764 rfl rfl, BIG_at 7 (by decide +kernel) (by decide +kernel), by decide +kernel, by decide +kernel, by decide +kernel⟩
theorem i_Mo_134 : xIV R_Mo 134 y_Mo_search := ⟨BIG_at 761 (by decide +kernel) (by decide +kernel), BIG_at 763 (by decide +kernel) (by decide +kernel), BIG_sel (q := (y_Mo_search, 25)) 13 (by decide +kernel) (by decide +kernel)⟩
set_option maxRecDepth 20000 in
theorem Y_Mo_isShip : xY y_Mo_isShip b_Mo_isShip 2 (some .boolean) 1 := ⟨BIG_at 804 rfl rfl, BIG_at 7 (by decide +kernel) (by decide +kernel), by decide +kernel, by decide +kernel, by decide +kernel⟩
theorem i_Mo_137 : xIV R_Mo 137 y_Mo_isShip := ⟨BIG_at 801 (by decide +kernel) (by decide +kernel), BIG_at 803 (by decide +kernel) (by decide +kernel), BIG_sel (q := (y_Mo_isShip, 25)) 21 (by decide +kernel) (by decide +kernel)⟩
set_option maxRecDepth 20000 in
theorem Y_Mo_shipsOf : xY y_Mo_shipsOf b_Mo_shipsOf 4 (some .int) 1 := ⟨BIG_at 808 rfl rfl, BIG_at 7 (by decide +kernel) (by decide +kernel), by decide +kernel, by decide +kernel, by decide +kernel⟩
theorem i_Mo_140 : xIV R_Mo 140 y_Mo_shipsOf := ⟨BIG_at 805 (by decide +kernel) (by decide +kernel), BIG_at 807 (by decide +kernel) (by decide +kernel), BIG_sel (q := (y_Mo_shipsOf, 25)) 22 (by decide +kernel) (by decide +kernel)⟩
set_option maxRecDepth 20000 in
theorem Y_Mo_in : xY y_Mo_in b_Mo_in 3 (some .boolean) 3 := ⟨BIG_at 728 rfl rfl, BIG_at 7 (by decide +kernel) (by decide +kernel), by decide +kernel, by decide +kernel, by decide +kernel⟩
theorem i_Mo_78 : xIS R_Mo 78 y_Mo_in := ⟨BIG_at 726 (by decide +kernel) (by decide +kernel), BIG_at 727 (by decide +kernel) (by decide +kernel)⟩
set_option maxRecDepth 20000 in
theorem Y_Mo_isChamber : xY y_Mo_isChamber b_Mo_isChamber 2 (some .boolean) 1 := ⟨BIG_at 740 rfl rfl, BIG_at 7 (by decide +kernel) (by decide +kernel), by decide +kernel, by decide +kernel, by decide +kernel⟩
theorem i_Mo_86 : xIV R_Mo 86 y_Mo_isChamber := ⟨BIG_at 737 (by decide +kernel) (by decide +kernel), BIG_at 739 (by decide +kernel) (by decide +kernel), BIG_sel (q := (y_Mo_isChamber, 25)) 10 (by decide +kernel) (by decide +kernel)⟩
set_option maxRecDepth 20000 in
theorem Y_Mo_mayLie : xY y_Mo_mayLie b_Mo_mayLie 11 (some .boolean) 4 := ⟨BIG_at 756 rfl rfl, BIG_at 7 (by decide +kernel) (by decide +kernel), by decide +kernel, by decide +kernel, by decide +kernel⟩
theorem i_Mo_96 : xIV R_Mo 96 y_Mo_mayLie := ⟨BIG_at 753 (by decide +kernel) (by decide +kernel), BIG_at 755 (by decide +kernel) (by decide +kernel), BIG_sel (q := (y_Mo_mayLie, 25)) 12 (by decide +kernel) (by decide +kernel)⟩
theorem k_Mo_121 : Cond.constant R_Mo 121 1000000000 ∈ BIG := BIG_at 765 (by decide +kernel) (by decide +kernel)
theorem k_Mo_143 : Cond.constantLong R_Mo 143 40000 ∈ BIG := BIG_at 817 (by decide +kernel) (by decide +kernel)
theorem k_Mo_145 : Cond.constantLong R_Mo 145 2 ∈ BIG := BIG_at 818 (by decide +kernel) (by decide +kernel)
theorem g_Mo_13 : xF R_Mo 13 6 7 := ⟨R_Mo, F_Mo, 25, rfl, i_Mo, by decide, BIG_at 648 (by decide +kernel) (by decide +kernel)⟩
theorem g_Mo_17 : xF R_Mo 17 6 8 := ⟨R_Mo, F_Mo, 25, rfl, i_Mo, by decide, BIG_at 649 (by decide +kernel) (by decide +kernel)⟩
theorem g_Mo_20 : xF R_Mo 20 6 9 := ⟨R_Mo, F_Mo, 25, rfl, i_Mo, by decide, BIG_at 650 (by decide +kernel) (by decide +kernel)⟩
theorem g_Mo_23 : xF R_Mo 23 6 10 := ⟨R_Mo, F_Mo, 25, rfl, i_Mo, by decide, BIG_at 651 (by decide +kernel) (by decide +kernel)⟩
theorem g_Mo_26 : xF R_Mo 26 6 11 := ⟨R_Mo, F_Mo, 25, rfl, i_Mo, by decide, BIG_at 652 (by decide +kernel) (by decide +kernel)⟩
theorem g_Mo_29 : xF R_Mo 29 6 12 := ⟨R_Mo, F_Mo, 25, rfl, i_Mo, by decide, BIG_at 653 (by decide +kernel) (by decide +kernel)⟩
theorem g_Mo_32 : xF R_Mo 32 6 13 := ⟨R_Mo, F_Mo, 25, rfl, i_Mo, by decide, BIG_at 654 (by decide +kernel) (by decide +kernel)⟩
theorem g_Mo_35 : xF R_Mo 35 6 14 := ⟨R_Mo, F_Mo, 25, rfl, i_Mo, by decide, BIG_at 655 (by decide +kernel) (by decide +kernel)⟩
theorem g_Mo_38 : xF R_Mo 38 6 15 := ⟨R_Mo, F_Mo, 25, rfl, i_Mo, by decide, BIG_at 656 (by decide +kernel) (by decide +kernel)⟩
theorem g_Mo_41 : xF R_Mo 41 6 16 := ⟨R_Mo, F_Mo, 25, rfl, i_Mo, by decide, BIG_at 657 (by decide +kernel) (by decide +kernel)⟩
theorem g_Mo_44 : xF R_Mo 44 6 17 := ⟨R_Mo, F_Mo, 25, rfl, i_Mo, by decide, BIG_at 658 (by decide +kernel) (by decide +kernel)⟩
theorem g_Mo_47 : xF R_Mo 47 6 18 := ⟨R_Mo, F_Mo, 25, rfl, i_Mo, by decide, BIG_at 659 (by decide +kernel) (by decide +kernel)⟩
theorem g_Mo_50 : xF R_Mo 50 6 19 := ⟨R_Mo, F_Mo, 25, rfl, i_Mo, by decide, BIG_at 660 (by decide +kernel) (by decide +kernel)⟩
theorem g_Mo_54 : xF R_Mo 54 6 20 := ⟨R_Mo, F_Mo, 25, rfl, i_Mo, by decide, BIG_at 661 (by decide +kernel) (by decide +kernel)⟩
theorem g_Mo_57 : xF R_Mo 57 6 21 := ⟨R_Mo, F_Mo, 25, rfl, i_Mo, by decide, BIG_at 662 (by decide +kernel) (by decide +kernel)⟩
theorem g_Mo_60 : xF R_Mo 60 6 22 := ⟨R_Mo, F_Mo, 25, rfl, i_Mo, by decide, BIG_at 663 (by decide +kernel) (by decide +kernel)⟩
theorem g_Mo_63 : xF R_Mo 63 6 23 := ⟨R_Mo, F_Mo, 25, rfl, i_Mo, by decide, BIG_at 664 (by decide +kernel) (by decide +kernel)⟩
theorem g_Mo_66 : xF R_Mo 66 6 24 := ⟨R_Mo, F_Mo, 25, rfl, i_Mo, by decide, BIG_at 665 (by decide +kernel) (by decide +kernel)⟩
theorem g_Mo_69 : xF R_Mo 69 6 0 := ⟨R_Mo, F_Mo, 25, rfl, i_Mo, by decide, BIG_at 641 (by decide +kernel) (by decide +kernel)⟩
theorem g_Mo_7 : xF R_Mo 7 6 5 := ⟨R_Mo, F_Mo, 25, rfl, i_Mo, by decide, BIG_at 646 (by decide +kernel) (by decide +kernel)⟩
theorem g_Mo_72 : xF R_Mo 72 6 1 := ⟨R_Mo, F_Mo, 25, rfl, i_Mo, by decide, BIG_at 642 (by decide +kernel) (by decide +kernel)⟩
theorem g_Mo_75 : xF R_Mo 75 6 2 := ⟨R_Mo, F_Mo, 25, rfl, i_Mo, by decide, BIG_at 643 (by decide +kernel) (by decide +kernel)⟩
theorem g_Mo_82 : xF R_Mo 82 6 6 := ⟨R_Mo, F_Mo, 25, rfl, i_Mo, by decide, BIG_at 647 (by decide +kernel) (by decide +kernel)⟩
theorem g_Mo_90 : xF R_Mo 90 6 3 := ⟨R_Mo, F_Mo, 25, rfl, i_Mo, by decide, BIG_at 644 (by decide +kernel) (by decide +kernel)⟩
theorem g_Mo_93 : xF R_Mo 93 6 4 := ⟨R_Mo, F_Mo, 25, rfl, i_Mo, by decide, BIG_at 645 (by decide +kernel) (by decide +kernel)⟩
theorem gw_Mo_chambers : xFW 6 1 .int := ⟨R_Mo, F_Mo, 25, t_Mo, rfl, t_Mo_ok, n_Mo, rfl, by decide +kernel⟩
theorem gw_Mo_gap : xFW 6 4 .int := ⟨R_Mo, F_Mo, 25, t_Mo, rfl, t_Mo_ok, n_Mo, rfl, by decide +kernel⟩
theorem gw_Mo_isPlan : xFW 6 6 .boolean := ⟨R_Mo, F_Mo, 25, t_Mo, rfl, t_Mo_ok, n_Mo, rfl, by decide +kernel⟩
theorem gw_Mo_over : xFW 6 5 .int := ⟨R_Mo, F_Mo, 25, t_Mo, rfl, t_Mo_ok, n_Mo, rfl, by decide +kernel⟩
theorem gw_Mo_ships : xFW 6 2 .int := ⟨R_Mo, F_Mo, 25, t_Mo, rfl, t_Mo_ok, n_Mo, rfl, by decide +kernel⟩
theorem gw_Mo_spans : xFW 6 3 .int := ⟨R_Mo, F_Mo, 25, t_Mo, rfl, t_Mo_ok, n_Mo, rfl, by decide +kernel⟩
theorem gw_Mo_thrown : xFW 6 0 .int := ⟨R_Mo, F_Mo, 25, t_Mo, rfl, t_Mo_ok, n_Mo, rfl, by decide +kernel⟩
