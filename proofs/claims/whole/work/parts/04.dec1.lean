theorem d_Be_x_5 : decode b_Be_x 5 = .ok (.iconst 4, 1) := by decide +kernel
theorem d_Be_x_6 : decode b_Be_x 6 = .ok (.if_icmp .ge 12, 3) := by decide +kernel
theorem d_Be_x_9 : decode b_Be_x 9 = .ok (.aload_n 0, 1) := by decide +kernel
theorem d_Be_x_10 : decode b_Be_x 10 = .ok (.getfield 9, 3) := by decide +kernel
theorem d_Be_x_13 : decode b_Be_x 13 = .ok (.iload_n 1, 1) := by decide +kernel
theorem d_Be_x_14 : decode b_Be_x 14 = .ok (.iaload, 1) := by decide +kernel
theorem d_Be_x_15 : decode b_Be_x 15 = .ok (.goto 4, 3) := by decide +kernel
theorem d_Be_x_18 : decode b_Be_x 18 = .ok (.iconst (-1), 1) := by decide +kernel
theorem d_Be_x_19 : decode b_Be_x 19 = .ok (.ireturn, 1) := by decide +kernel
theorem d_Be_y_0 : decode b_Be_y 0 = .ok (.iload_n 1, 1) := by decide +kernel
theorem d_Be_y_1 : decode b_Be_y 1 = .ok (.ifCond .lt 17, 3) := by decide +kernel
theorem d_Be_y_4 : decode b_Be_y 4 = .ok (.iload_n 1, 1) := by decide +kernel
theorem d_Be_y_5 : decode b_Be_y 5 = .ok (.iconst 4, 1) := by decide +kernel
theorem d_Be_y_6 : decode b_Be_y 6 = .ok (.if_icmp .ge 12, 3) := by decide +kernel
theorem d_Be_y_9 : decode b_Be_y 9 = .ok (.aload_n 0, 1) := by decide +kernel
theorem d_Be_y_10 : decode b_Be_y 10 = .ok (.getfield 15, 3) := by decide +kernel
theorem d_Be_y_13 : decode b_Be_y 13 = .ok (.iload_n 1, 1) := by decide +kernel
theorem d_Be_y_14 : decode b_Be_y 14 = .ok (.iaload, 1) := by decide +kernel
theorem d_Be_y_15 : decode b_Be_y 15 = .ok (.goto 4, 3) := by decide +kernel
theorem d_Be_y_18 : decode b_Be_y 18 = .ok (.iconst (-1), 1) := by decide +kernel
theorem d_Be_y_19 : decode b_Be_y 19 = .ok (.ireturn, 1) := by decide +kernel
theorem d_Ch_add_0 : decode b_Ch_add 0 = .ok (.aload_n 0, 1) := by decide +kernel
theorem d_Ch_add_1 : decode b_Ch_add 1 = .ok (.getfield 30, 3) := by decide +kernel
theorem d_Ch_add_4 : decode b_Ch_add 4 = .ok (.istore 4, 2) := by decide +kernel
theorem d_Ch_add_6 : decode b_Ch_add 6 = .ok (.iload 4, 2) := by decide +kernel
theorem d_Ch_add_8 : decode b_Ch_add 8 = .ok (.ifCond .lt 9, 3) := by decide +kernel
theorem d_Ch_add_11 : decode b_Ch_add 11 = .ok (.iload 4, 2) := by decide +kernel
theorem d_Ch_add_13 : decode b_Ch_add 13 = .ok (.iconst 2, 1) := by decide +kernel
theorem d_Ch_add_14 : decode b_Ch_add 14 = .ok (.if_icmp .lt 5, 3) := by decide +kernel
theorem d_Ch_add_17 : decode b_Ch_add 17 = .ok (.iconst (-1), 1) := by decide +kernel
theorem d_Ch_add_18 : decode b_Ch_add 18 = .ok (.ireturn, 1) := by decide +kernel
theorem d_Ch_add_19 : decode b_Ch_add 19 = .ok (.aload_n 0, 1) := by decide +kernel
theorem d_Ch_add_20 : decode b_Ch_add 20 = .ok (.getfield 9, 3) := by decide +kernel
theorem d_Ch_add_23 : decode b_Ch_add 23 = .ok (.iload 4, 2) := by decide +kernel
theorem d_Ch_add_25 : decode b_Ch_add 25 = .ok (.iload_n 1, 1) := by decide +kernel
theorem d_Ch_add_26 : decode b_Ch_add 26 = .ok (.iastore, 1) := by decide +kernel
theorem d_Ch_add_27 : decode b_Ch_add 27 = .ok (.aload_n 0, 1) := by decide +kernel
theorem d_Ch_add_28 : decode b_Ch_add 28 = .ok (.getfield 15, 3) := by decide +kernel
theorem d_Ch_add_31 : decode b_Ch_add 31 = .ok (.iload 4, 2) := by decide +kernel
theorem d_Ch_add_33 : decode b_Ch_add 33 = .ok (.iload_n 2, 1) := by decide +kernel
theorem d_Ch_add_34 : decode b_Ch_add 34 = .ok (.iastore, 1) := by decide +kernel
theorem d_Ch_add_35 : decode b_Ch_add 35 = .ok (.aload_n 0, 1) := by decide +kernel
theorem d_Ch_add_36 : decode b_Ch_add 36 = .ok (.getfield 18, 3) := by decide +kernel
theorem d_Ch_add_39 : decode b_Ch_add 39 = .ok (.iload 4, 2) := by decide +kernel
theorem d_Ch_add_41 : decode b_Ch_add 41 = .ok (.iload_n 3, 1) := by decide +kernel
theorem d_Ch_add_42 : decode b_Ch_add 42 = .ok (.iastore, 1) := by decide +kernel
theorem d_Ch_add_43 : decode b_Ch_add 43 = .ok (.aload_n 0, 1) := by decide +kernel
theorem d_Ch_add_44 : decode b_Ch_add 44 = .ok (.iload 4, 2) := by decide +kernel
theorem d_Ch_add_46 : decode b_Ch_add 46 = .ok (.iconst 1, 1) := by decide +kernel
theorem d_Ch_add_47 : decode b_Ch_add 47 = .ok (.iadd, 1) := by decide +kernel
theorem d_Ch_add_48 : decode b_Ch_add 48 = .ok (.putfield 30, 3) := by decide +kernel
theorem d_Ch_add_51 : decode b_Ch_add 51 = .ok (.iload 4, 2) := by decide +kernel
theorem d_Ch_add_53 : decode b_Ch_add 53 = .ok (.ireturn, 1) := by decide +kernel
theorem d_Ch_addSpan_0 : decode b_Ch_addSpan 0 = .ok (.aload_n 0, 1) := by decide +kernel
theorem d_Ch_addSpan_1 : decode b_Ch_addSpan 1 = .ok (.getfield 34, 3) := by decide +kernel
theorem d_Ch_addSpan_4 : decode b_Ch_addSpan 4 = .ok (.istore 4, 2) := by decide +kernel
theorem d_Ch_addSpan_6 : decode b_Ch_addSpan 6 = .ok (.iload 4, 2) := by decide +kernel
theorem d_Ch_addSpan_8 : decode b_Ch_addSpan 8 = .ok (.ifCond .lt 10, 3) := by decide +kernel
theorem d_Ch_addSpan_11 : decode b_Ch_addSpan 11 = .ok (.iload 4, 2) := by decide +kernel
theorem d_Ch_addSpan_13 : decode b_Ch_addSpan 13 = .ok (.bipush 8, 2) := by decide +kernel
theorem d_Ch_addSpan_15 : decode b_Ch_addSpan 15 = .ok (.if_icmp .lt 5, 3) := by decide +kernel
theorem d_Ch_addSpan_18 : decode b_Ch_addSpan 18 = .ok (.iconst 0, 1) := by decide +kernel
theorem d_Ch_addSpan_19 : decode b_Ch_addSpan 19 = .ok (.ireturn, 1) := by decide +kernel
theorem d_Ch_addSpan_20 : decode b_Ch_addSpan 20 = .ok (.aload_n 0, 1) := by decide +kernel
theorem d_Ch_addSpan_21 : decode b_Ch_addSpan 21 = .ok (.getfield 21, 3) := by decide +kernel
theorem d_Ch_addSpan_24 : decode b_Ch_addSpan 24 = .ok (.iload 4, 2) := by decide +kernel
theorem d_Ch_addSpan_26 : decode b_Ch_addSpan 26 = .ok (.iload_n 1, 1) := by decide +kernel
theorem d_Ch_addSpan_27 : decode b_Ch_addSpan 27 = .ok (.iastore, 1) := by decide +kernel
theorem d_Ch_addSpan_28 : decode b_Ch_addSpan 28 = .ok (.aload_n 0, 1) := by decide +kernel
theorem d_Ch_addSpan_29 : decode b_Ch_addSpan 29 = .ok (.getfield 24, 3) := by decide +kernel
theorem d_Ch_addSpan_32 : decode b_Ch_addSpan 32 = .ok (.iload 4, 2) := by decide +kernel
theorem d_Ch_addSpan_34 : decode b_Ch_addSpan 34 = .ok (.iload_n 2, 1) := by decide +kernel
theorem d_Ch_addSpan_35 : decode b_Ch_addSpan 35 = .ok (.iastore, 1) := by decide +kernel
theorem d_Ch_addSpan_36 : decode b_Ch_addSpan 36 = .ok (.aload_n 0, 1) := by decide +kernel
theorem d_Ch_addSpan_37 : decode b_Ch_addSpan 37 = .ok (.getfield 27, 3) := by decide +kernel
theorem d_Ch_addSpan_40 : decode b_Ch_addSpan 40 = .ok (.iload 4, 2) := by decide +kernel
theorem d_Ch_addSpan_42 : decode b_Ch_addSpan 42 = .ok (.iload_n 3, 1) := by decide +kernel
theorem d_Ch_addSpan_43 : decode b_Ch_addSpan 43 = .ok (.iastore, 1) := by decide +kernel
theorem d_Ch_addSpan_44 : decode b_Ch_addSpan 44 = .ok (.aload_n 0, 1) := by decide +kernel
theorem d_Ch_addSpan_45 : decode b_Ch_addSpan 45 = .ok (.iload 4, 2) := by decide +kernel
theorem d_Ch_addSpan_47 : decode b_Ch_addSpan 47 = .ok (.iconst 1, 1) := by decide +kernel
theorem d_Ch_addSpan_48 : decode b_Ch_addSpan 48 = .ok (.iadd, 1) := by decide +kernel
theorem d_Ch_addSpan_49 : decode b_Ch_addSpan 49 = .ok (.putfield 34, 3) := by decide +kernel
theorem d_Ch_addSpan_52 : decode b_Ch_addSpan 52 = .ok (.iconst 1, 1) := by decide +kernel
theorem d_Ch_addSpan_53 : decode b_Ch_addSpan 53 = .ok (.ireturn, 1) := by decide +kernel
theorem d_Ch_fill_0 : decode b_Ch_fill 0 = .ok (.aload_n 0, 1) := by decide +kernel
theorem d_Ch_fill_1 : decode b_Ch_fill 1 = .ok (.iload_n 1, 1) := by decide +kernel
theorem d_Ch_fill_2 : decode b_Ch_fill 2 = .ok (.invokevirtual 37, 3) := by decide +kernel
theorem d_Ch_fill_5 : decode b_Ch_fill 5 = .ok (.ifCond .eq 12, 3) := by decide +kernel
theorem d_Ch_fill_8 : decode b_Ch_fill 8 = .ok (.aload_n 0, 1) := by decide +kernel
theorem d_Ch_fill_9 : decode b_Ch_fill 9 = .ok (.getfield 18, 3) := by decide +kernel
theorem d_Ch_fill_12 : decode b_Ch_fill 12 = .ok (.iload_n 1, 1) := by decide +kernel
theorem d_Ch_fill_13 : decode b_Ch_fill 13 = .ok (.iaload, 1) := by decide +kernel
theorem d_Ch_fill_14 : decode b_Ch_fill 14 = .ok (.goto 4, 3) := by decide +kernel
theorem d_Ch_fill_17 : decode b_Ch_fill 17 = .ok (.iconst 0, 1) := by decide +kernel
theorem d_Ch_fill_18 : decode b_Ch_fill 18 = .ok (.ireturn, 1) := by decide +kernel
theorem d_Ch_firstOpen_0 : decode b_Ch_firstOpen 0 = .ok (.iload_n 2, 1) := by decide +kernel
theorem d_Ch_firstOpen_1 : decode b_Ch_firstOpen 1 = .ok (.istore_n 3, 1) := by decide +kernel
theorem d_Ch_firstOpen_2 : decode b_Ch_firstOpen 2 = .ok (.iconst 0, 1) := by decide +kernel
theorem d_Ch_firstOpen_3 : decode b_Ch_firstOpen 3 = .ok (.istore 4, 2) := by decide +kernel
theorem d_Ch_firstOpen_5 : decode b_Ch_firstOpen 5 = .ok (.iload 4, 2) := by decide +kernel
theorem d_Ch_firstOpen_7 : decode b_Ch_firstOpen 7 = .ok (.bipush 8, 2) := by decide +kernel
theorem d_Ch_firstOpen_9 : decode b_Ch_firstOpen 9 = .ok (.if_icmp .ge 29, 3) := by decide +kernel
theorem d_Ch_firstOpen_12 : decode b_Ch_firstOpen 12 = .ok (.aload_n 0, 1) := by decide +kernel
theorem d_Ch_firstOpen_13 : decode b_Ch_firstOpen 13 = .ok (.iload_n 1, 1) := by decide +kernel
theorem d_Ch_firstOpen_14 : decode b_Ch_firstOpen 14 = .ok (.iload_n 3, 1) := by decide +kernel
theorem d_Ch_firstOpen_15 : decode b_Ch_firstOpen 15 = .ok (.invokevirtual 41, 3) := by decide +kernel
theorem d_Ch_firstOpen_18 : decode b_Ch_firstOpen 18 = .ok (.istore 5, 2) := by decide +kernel
theorem d_Ch_firstOpen_20 : decode b_Ch_firstOpen 20 = .ok (.iload 5, 2) := by decide +kernel
theorem d_Ch_firstOpen_22 : decode b_Ch_firstOpen 22 = .ok (.iload_n 3, 1) := by decide +kernel
theorem d_Ch_firstOpen_23 : decode b_Ch_firstOpen 23 = .ok (.if_icmp .ne 6, 3) := by decide +kernel
theorem d_Ch_firstOpen_26 : decode b_Ch_firstOpen 26 = .ok (.goto 12, 3) := by decide +kernel
theorem d_Ch_firstOpen_29 : decode b_Ch_firstOpen 29 = .ok (.iload 5, 2) := by decide +kernel
theorem d_Ch_firstOpen_31 : decode b_Ch_firstOpen 31 = .ok (.istore_n 3, 1) := by decide +kernel
theorem d_Ch_firstOpen_32 : decode b_Ch_firstOpen 32 = .ok (.iinc 4 1, 3) := by decide +kernel
theorem d_Ch_firstOpen_35 : decode b_Ch_firstOpen 35 = .ok (.goto (-30), 3) := by decide +kernel
theorem d_Ch_firstOpen_38 : decode b_Ch_firstOpen 38 = .ok (.iload_n 3, 1) := by decide +kernel
theorem d_Ch_firstOpen_39 : decode b_Ch_firstOpen 39 = .ok (.ireturn, 1) := by decide +kernel
theorem d_Ch_has_0 : decode b_Ch_has 0 = .ok (.iload_n 1, 1) := by decide +kernel
theorem d_Ch_has_1 : decode b_Ch_has 1 = .ok (.ifCond .lt 20, 3) := by decide +kernel
theorem d_Ch_has_4 : decode b_Ch_has 4 = .ok (.iload_n 1, 1) := by decide +kernel
theorem d_Ch_has_5 : decode b_Ch_has 5 = .ok (.aload_n 0, 1) := by decide +kernel
theorem d_Ch_has_6 : decode b_Ch_has 6 = .ok (.getfield 30, 3) := by decide +kernel
theorem d_Ch_has_9 : decode b_Ch_has 9 = .ok (.if_icmp .ge 12, 3) := by decide +kernel
theorem d_Ch_has_12 : decode b_Ch_has 12 = .ok (.iload_n 1, 1) := by decide +kernel
theorem d_Ch_has_13 : decode b_Ch_has 13 = .ok (.iconst 2, 1) := by decide +kernel
theorem d_Ch_has_14 : decode b_Ch_has 14 = .ok (.if_icmp .ge 7, 3) := by decide +kernel
theorem d_Ch_has_17 : decode b_Ch_has 17 = .ok (.iconst 1, 1) := by decide +kernel
theorem d_Ch_has_18 : decode b_Ch_has 18 = .ok (.goto 4, 3) := by decide +kernel
theorem d_Ch_has_21 : decode b_Ch_has 21 = .ok (.iconst 0, 1) := by decide +kernel
theorem d_Ch_has_22 : decode b_Ch_has 22 = .ok (.ireturn, 1) := by decide +kernel
theorem d_Ch_length_0 : decode b_Ch_length 0 = .ok (.aload_n 0, 1) := by decide +kernel
theorem d_Ch_length_1 : decode b_Ch_length 1 = .ok (.iload_n 1, 1) := by decide +kernel
theorem d_Ch_length_2 : decode b_Ch_length 2 = .ok (.invokevirtual 37, 3) := by decide +kernel
theorem d_Ch_length_5 : decode b_Ch_length 5 = .ok (.ifCond .eq 12, 3) := by decide +kernel
theorem d_Ch_length_8 : decode b_Ch_length 8 = .ok (.aload_n 0, 1) := by decide +kernel
theorem d_Ch_length_9 : decode b_Ch_length 9 = .ok (.getfield 9, 3) := by decide +kernel
theorem d_Ch_length_12 : decode b_Ch_length 12 = .ok (.iload_n 1, 1) := by decide +kernel
theorem d_Ch_length_13 : decode b_Ch_length 13 = .ok (.iaload, 1) := by decide +kernel
theorem d_Ch_length_14 : decode b_Ch_length 14 = .ok (.goto 4, 3) := by decide +kernel
theorem d_Ch_length_17 : decode b_Ch_length 17 = .ok (.iconst 0, 1) := by decide +kernel
theorem d_Ch_length_18 : decode b_Ch_length 18 = .ok (.ireturn, 1) := by decide +kernel
theorem d_Ch_pastSpans_0 : decode b_Ch_pastSpans 0 = .ok (.aload_n 0, 1) := by decide +kernel
theorem d_Ch_pastSpans_1 : decode b_Ch_pastSpans 1 = .ok (.iload_n 1, 1) := by decide +kernel
theorem d_Ch_pastSpans_2 : decode b_Ch_pastSpans 2 = .ok (.invokevirtual 45, 3) := by decide +kernel
theorem d_Ch_pastSpans_5 : decode b_Ch_pastSpans 5 = .ok (.istore_n 3, 1) := by decide +kernel
theorem d_Ch_pastSpans_6 : decode b_Ch_pastSpans 6 = .ok (.iload_n 2, 1) := by decide +kernel
theorem d_Ch_pastSpans_7 : decode b_Ch_pastSpans 7 = .ok (.istore 4, 2) := by decide +kernel
theorem d_Ch_pastSpans_9 : decode b_Ch_pastSpans 9 = .ok (.iconst 0, 1) := by decide +kernel
theorem d_Ch_pastSpans_10 : decode b_Ch_pastSpans 10 = .ok (.istore 5, 2) := by decide +kernel
theorem d_Ch_pastSpans_12 : decode b_Ch_pastSpans 12 = .ok (.iload 5, 2) := by decide +kernel
theorem d_Ch_pastSpans_14 : decode b_Ch_pastSpans 14 = .ok (.bipush 8, 2) := by decide +kernel
theorem d_Ch_pastSpans_16 : decode b_Ch_pastSpans 16 = .ok (.if_icmp .ge 64, 3) := by decide +kernel
theorem d_Ch_pastSpans_19 : decode b_Ch_pastSpans 19 = .ok (.iload 5, 2) := by decide +kernel
theorem d_Ch_pastSpans_21 : decode b_Ch_pastSpans 21 = .ok (.aload_n 0, 1) := by decide +kernel
theorem d_Ch_pastSpans_22 : decode b_Ch_pastSpans 22 = .ok (.getfield 34, 3) := by decide +kernel
theorem d_Ch_pastSpans_25 : decode b_Ch_pastSpans 25 = .ok (.if_icmp .ge 55, 3) := by decide +kernel
theorem d_Ch_pastSpans_28 : decode b_Ch_pastSpans 28 = .ok (.aload_n 0, 1) := by decide +kernel
theorem d_Ch_pastSpans_29 : decode b_Ch_pastSpans 29 = .ok (.getfield 21, 3) := by decide +kernel
theorem d_Ch_pastSpans_32 : decode b_Ch_pastSpans 32 = .ok (.iload 5, 2) := by decide +kernel
theorem d_Ch_pastSpans_34 : decode b_Ch_pastSpans 34 = .ok (.iaload, 1) := by decide +kernel
theorem d_Ch_pastSpans_35 : decode b_Ch_pastSpans 35 = .ok (.iload_n 1, 1) := by decide +kernel
theorem d_Ch_pastSpans_36 : decode b_Ch_pastSpans 36 = .ok (.if_icmp .ne 38, 3) := by decide +kernel
theorem d_Ch_pastSpans_39 : decode b_Ch_pastSpans 39 = .ok (.iload 4, 2) := by decide +kernel
theorem d_Ch_pastSpans_41 : decode b_Ch_pastSpans 41 = .ok (.aload_n 0, 1) := by decide +kernel
theorem d_Ch_pastSpans_42 : decode b_Ch_pastSpans 42 = .ok (.getfield 27, 3) := by decide +kernel
theorem d_Ch_pastSpans_45 : decode b_Ch_pastSpans 45 = .ok (.iload 5, 2) := by decide +kernel
theorem d_Ch_pastSpans_47 : decode b_Ch_pastSpans 47 = .ok (.iaload, 1) := by decide +kernel
theorem d_Ch_pastSpans_48 : decode b_Ch_pastSpans 48 = .ok (.if_icmp .ge 26, 3) := by decide +kernel
theorem d_Ch_pastSpans_51 : decode b_Ch_pastSpans 51 = .ok (.iload 4, 2) := by decide +kernel
theorem d_Ch_pastSpans_53 : decode b_Ch_pastSpans 53 = .ok (.iload_n 3, 1) := by decide +kernel
theorem d_Ch_pastSpans_54 : decode b_Ch_pastSpans 54 = .ok (.iadd, 1) := by decide +kernel
theorem d_Ch_pastSpans_55 : decode b_Ch_pastSpans 55 = .ok (.aload_n 0, 1) := by decide +kernel
theorem d_Ch_pastSpans_56 : decode b_Ch_pastSpans 56 = .ok (.getfield 24, 3) := by decide +kernel
theorem d_Ch_pastSpans_59 : decode b_Ch_pastSpans 59 = .ok (.iload 5, 2) := by decide +kernel
theorem d_Ch_pastSpans_61 : decode b_Ch_pastSpans 61 = .ok (.iaload, 1) := by decide +kernel
theorem d_Ch_pastSpans_62 : decode b_Ch_pastSpans 62 = .ok (.if_icmp .le 12, 3) := by decide +kernel
theorem d_Ch_pastSpans_65 : decode b_Ch_pastSpans 65 = .ok (.aload_n 0, 1) := by decide +kernel
theorem d_Ch_pastSpans_66 : decode b_Ch_pastSpans 66 = .ok (.getfield 27, 3) := by decide +kernel
theorem d_Ch_pastSpans_69 : decode b_Ch_pastSpans 69 = .ok (.iload 5, 2) := by decide +kernel
theorem d_Ch_pastSpans_71 : decode b_Ch_pastSpans 71 = .ok (.iaload, 1) := by decide +kernel
theorem d_Ch_pastSpans_72 : decode b_Ch_pastSpans 72 = .ok (.istore 4, 2) := by decide +kernel
theorem d_Ch_pastSpans_74 : decode b_Ch_pastSpans 74 = .ok (.iinc 5 1, 3) := by decide +kernel
theorem d_Ch_pastSpans_77 : decode b_Ch_pastSpans 77 = .ok (.goto (-65), 3) := by decide +kernel
theorem d_Ch_pastSpans_80 : decode b_Ch_pastSpans 80 = .ok (.iload 4, 2) := by decide +kernel
theorem d_Ch_pastSpans_82 : decode b_Ch_pastSpans 82 = .ok (.ireturn, 1) := by decide +kernel
theorem d_Ch_size_0 : decode b_Ch_size 0 = .ok (.aload_n 0, 1) := by decide +kernel
theorem d_Ch_size_1 : decode b_Ch_size 1 = .ok (.getfield 30, 3) := by decide +kernel
theorem d_Ch_size_4 : decode b_Ch_size 4 = .ok (.ireturn, 1) := by decide +kernel
theorem d_Ch_spans_0 : decode b_Ch_spans 0 = .ok (.aload_n 0, 1) := by decide +kernel
theorem d_Ch_spans_1 : decode b_Ch_spans 1 = .ok (.getfield 34, 3) := by decide +kernel
theorem d_Ch_spans_4 : decode b_Ch_spans 4 = .ok (.ireturn, 1) := by decide +kernel
theorem d_Ch_width_0 : decode b_Ch_width 0 = .ok (.aload_n 0, 1) := by decide +kernel
theorem d_Ch_width_1 : decode b_Ch_width 1 = .ok (.iload_n 1, 1) := by decide +kernel
theorem d_Ch_width_2 : decode b_Ch_width 2 = .ok (.invokevirtual 37, 3) := by decide +kernel
theorem d_Ch_width_5 : decode b_Ch_width 5 = .ok (.ifCond .eq 12, 3) := by decide +kernel
theorem d_Ch_width_8 : decode b_Ch_width 8 = .ok (.aload_n 0, 1) := by decide +kernel
theorem d_Ch_width_9 : decode b_Ch_width 9 = .ok (.getfield 15, 3) := by decide +kernel
theorem d_Ch_width_12 : decode b_Ch_width 12 = .ok (.iload_n 1, 1) := by decide +kernel
theorem d_Ch_width_13 : decode b_Ch_width 13 = .ok (.iaload, 1) := by decide +kernel
theorem d_Ch_width_14 : decode b_Ch_width 14 = .ok (.goto 4, 3) := by decide +kernel
theorem d_Ch_width_17 : decode b_Ch_width 17 = .ok (.iconst 0, 1) := by decide +kernel
theorem d_Ch_width_18 : decode b_Ch_width 18 = .ok (.ireturn, 1) := by decide +kernel
theorem d_Fl_add_0 : decode b_Fl_add 0 = .ok (.aload_n 0, 1) := by decide +kernel
theorem d_Fl_add_1 : decode b_Fl_add 1 = .ok (.getfield 27, 3) := by decide +kernel
theorem d_Fl_add_4 : decode b_Fl_add 4 = .ok (.istore 6, 2) := by decide +kernel
theorem d_Fl_add_6 : decode b_Fl_add 6 = .ok (.iload 6, 2) := by decide +kernel
theorem d_Fl_add_8 : decode b_Fl_add 8 = .ok (.ifCond .lt 9, 3) := by decide +kernel
theorem d_Fl_add_11 : decode b_Fl_add 11 = .ok (.iload 6, 2) := by decide +kernel
theorem d_Fl_add_13 : decode b_Fl_add 13 = .ok (.iconst 4, 1) := by decide +kernel
theorem d_Fl_add_14 : decode b_Fl_add 14 = .ok (.if_icmp .lt 5, 3) := by decide +kernel
theorem d_Fl_add_17 : decode b_Fl_add 17 = .ok (.iconst (-1), 1) := by decide +kernel
theorem d_Fl_add_18 : decode b_Fl_add 18 = .ok (.ireturn, 1) := by decide +kernel
theorem d_Fl_add_19 : decode b_Fl_add 19 = .ok (.aload_n 0, 1) := by decide +kernel
theorem d_Fl_add_20 : decode b_Fl_add 20 = .ok (.getfield 9, 3) := by decide +kernel
theorem d_Fl_add_23 : decode b_Fl_add 23 = .ok (.iload 6, 2) := by decide +kernel
theorem d_Fl_add_25 : decode b_Fl_add 25 = .ok (.iload_n 1, 1) := by decide +kernel
theorem d_Fl_add_26 : decode b_Fl_add 26 = .ok (.iastore, 1) := by decide +kernel
theorem d_Fl_add_27 : decode b_Fl_add 27 = .ok (.aload_n 0, 1) := by decide +kernel
theorem d_Fl_add_28 : decode b_Fl_add 28 = .ok (.getfield 15, 3) := by decide +kernel
theorem d_Fl_add_31 : decode b_Fl_add 31 = .ok (.iload 6, 2) := by decide +kernel
theorem d_Fl_add_33 : decode b_Fl_add 33 = .ok (.iload_n 2, 1) := by decide +kernel
theorem d_Fl_add_34 : decode b_Fl_add 34 = .ok (.iastore, 1) := by decide +kernel
theorem d_Fl_add_35 : decode b_Fl_add 35 = .ok (.aload_n 0, 1) := by decide +kernel
theorem d_Fl_add_36 : decode b_Fl_add 36 = .ok (.getfield 18, 3) := by decide +kernel
theorem d_Fl_add_39 : decode b_Fl_add 39 = .ok (.iload 6, 2) := by decide +kernel
theorem d_Fl_add_41 : decode b_Fl_add 41 = .ok (.iload_n 3, 1) := by decide +kernel
theorem d_Fl_add_42 : decode b_Fl_add 42 = .ok (.iastore, 1) := by decide +kernel
theorem d_Fl_add_43 : decode b_Fl_add 43 = .ok (.aload_n 0, 1) := by decide +kernel
theorem d_Fl_add_44 : decode b_Fl_add 44 = .ok (.getfield 21, 3) := by decide +kernel
theorem d_Fl_add_47 : decode b_Fl_add 47 = .ok (.iload 6, 2) := by decide +kernel
theorem d_Fl_add_49 : decode b_Fl_add 49 = .ok (.iload 4, 2) := by decide +kernel
theorem d_Fl_add_51 : decode b_Fl_add 51 = .ok (.iastore, 1) := by decide +kernel
theorem d_Fl_add_52 : decode b_Fl_add 52 = .ok (.aload_n 0, 1) := by decide +kernel
theorem d_Fl_add_53 : decode b_Fl_add 53 = .ok (.getfield 24, 3) := by decide +kernel
theorem d_Fl_add_56 : decode b_Fl_add 56 = .ok (.iload 6, 2) := by decide +kernel
theorem d_Fl_add_58 : decode b_Fl_add 58 = .ok (.iload 5, 2) := by decide +kernel
theorem d_Fl_add_60 : decode b_Fl_add 60 = .ok (.iastore, 1) := by decide +kernel
theorem d_Fl_add_61 : decode b_Fl_add 61 = .ok (.aload_n 0, 1) := by decide +kernel
theorem d_Fl_add_62 : decode b_Fl_add 62 = .ok (.iload 6, 2) := by decide +kernel
theorem d_Fl_add_64 : decode b_Fl_add 64 = .ok (.iconst 1, 1) := by decide +kernel
theorem d_Fl_add_65 : decode b_Fl_add 65 = .ok (.iadd, 1) := by decide +kernel
theorem d_Fl_add_66 : decode b_Fl_add 66 = .ok (.putfield 27, 3) := by decide +kernel
theorem d_Fl_add_69 : decode b_Fl_add 69 = .ok (.iload 6, 2) := by decide +kernel
theorem d_Fl_add_71 : decode b_Fl_add 71 = .ok (.ireturn, 1) := by decide +kernel
theorem d_Fl_all_0 : decode b_Fl_all 0 = .ok (.iconst 1, 1) := by decide +kernel
theorem d_Fl_all_1 : decode b_Fl_all 1 = .ok (.aload_n 0, 1) := by decide +kernel
theorem d_Fl_all_2 : decode b_Fl_all 2 = .ok (.getfield 27, 3) := by decide +kernel
theorem d_Fl_all_5 : decode b_Fl_all 5 = .ok (.ishl, 1) := by decide +kernel
theorem d_Fl_all_6 : decode b_Fl_all 6 = .ok (.iconst 1, 1) := by decide +kernel
theorem d_Fl_all_7 : decode b_Fl_all 7 = .ok (.isub, 1) := by decide +kernel
theorem d_Fl_all_8 : decode b_Fl_all 8 = .ok (.ireturn, 1) := by decide +kernel
theorem d_Fl_arrival_0 : decode b_Fl_arrival 0 = .ok (.aload_n 0, 1) := by decide +kernel
theorem d_Fl_arrival_1 : decode b_Fl_arrival 1 = .ok (.iload_n 1, 1) := by decide +kernel
theorem d_Fl_arrival_2 : decode b_Fl_arrival 2 = .ok (.invokevirtual 31, 3) := by decide +kernel
theorem d_Fl_arrival_5 : decode b_Fl_arrival 5 = .ok (.ifCond .eq 12, 3) := by decide +kernel
theorem d_Fl_arrival_8 : decode b_Fl_arrival 8 = .ok (.aload_n 0, 1) := by decide +kernel
theorem d_Fl_arrival_9 : decode b_Fl_arrival 9 = .ok (.getfield 18, 3) := by decide +kernel
theorem d_Fl_arrival_12 : decode b_Fl_arrival 12 = .ok (.iload_n 1, 1) := by decide +kernel
theorem d_Fl_arrival_13 : decode b_Fl_arrival 13 = .ok (.iaload, 1) := by decide +kernel
theorem d_Fl_arrival_14 : decode b_Fl_arrival 14 = .ok (.goto 4, 3) := by decide +kernel
theorem d_Fl_arrival_17 : decode b_Fl_arrival 17 = .ok (.iconst 0, 1) := by decide +kernel
theorem d_Fl_arrival_18 : decode b_Fl_arrival 18 = .ok (.ireturn, 1) := by decide +kernel
theorem d_Fl_comesBehind_0 : decode b_Fl_comesBehind 0 = .ok (.aload_n 0, 1) := by decide +kernel
theorem d_Fl_comesBehind_1 : decode b_Fl_comesBehind 1 = .ok (.iload_n 1, 1) := by decide +kernel
theorem d_Fl_comesBehind_2 : decode b_Fl_comesBehind 2 = .ok (.invokevirtual 31, 3) := by decide +kernel
theorem d_Fl_comesBehind_5 : decode b_Fl_comesBehind 5 = .ok (.ifCond .eq 26, 3) := by decide +kernel
theorem d_Fl_comesBehind_8 : decode b_Fl_comesBehind 8 = .ok (.aload_n 0, 1) := by decide +kernel
theorem d_Fl_comesBehind_9 : decode b_Fl_comesBehind 9 = .ok (.iload_n 2, 1) := by decide +kernel
theorem d_Fl_comesBehind_10 : decode b_Fl_comesBehind 10 = .ok (.invokevirtual 31, 3) := by decide +kernel
theorem d_Fl_comesBehind_13 : decode b_Fl_comesBehind 13 = .ok (.ifCond .eq 18, 3) := by decide +kernel
theorem d_Fl_comesBehind_16 : decode b_Fl_comesBehind 16 = .ok (.aload_n 0, 1) := by decide +kernel
theorem d_Fl_comesBehind_17 : decode b_Fl_comesBehind 17 = .ok (.getfield 21, 3) := by decide +kernel
theorem d_Fl_comesBehind_20 : decode b_Fl_comesBehind 20 = .ok (.iload_n 1, 1) := by decide +kernel
theorem d_Fl_comesBehind_21 : decode b_Fl_comesBehind 21 = .ok (.iaload, 1) := by decide +kernel
theorem d_Fl_comesBehind_22 : decode b_Fl_comesBehind 22 = .ok (.aload_n 0, 1) := by decide +kernel
theorem d_Fl_comesBehind_23 : decode b_Fl_comesBehind 23 = .ok (.getfield 21, 3) := by decide +kernel
theorem d_Fl_comesBehind_26 : decode b_Fl_comesBehind 26 = .ok (.iload_n 2, 1) := by decide +kernel
theorem d_Fl_comesBehind_27 : decode b_Fl_comesBehind 27 = .ok (.iaload, 1) := by decide +kernel
theorem d_Fl_comesBehind_28 : decode b_Fl_comesBehind 28 = .ok (.if_icmp .eq 5, 3) := by decide +kernel
theorem d_Fl_comesBehind_31 : decode b_Fl_comesBehind 31 = .ok (.iconst 0, 1) := by decide +kernel
theorem d_Fl_comesBehind_32 : decode b_Fl_comesBehind 32 = .ok (.ireturn, 1) := by decide +kernel
theorem d_Fl_comesBehind_33 : decode b_Fl_comesBehind 33 = .ok (.aload_n 0, 1) := by decide +kernel
theorem d_Fl_comesBehind_34 : decode b_Fl_comesBehind 34 = .ok (.getfield 18, 3) := by decide +kernel
theorem d_Fl_comesBehind_37 : decode b_Fl_comesBehind 37 = .ok (.iload_n 1, 1) := by decide +kernel
theorem d_Fl_comesBehind_38 : decode b_Fl_comesBehind 38 = .ok (.iaload, 1) := by decide +kernel
theorem d_Fl_comesBehind_39 : decode b_Fl_comesBehind 39 = .ok (.aload_n 0, 1) := by decide +kernel
theorem d_Fl_comesBehind_40 : decode b_Fl_comesBehind 40 = .ok (.getfield 18, 3) := by decide +kernel
theorem d_Fl_comesBehind_43 : decode b_Fl_comesBehind 43 = .ok (.iload_n 2, 1) := by decide +kernel
theorem d_Fl_comesBehind_44 : decode b_Fl_comesBehind 44 = .ok (.iaload, 1) := by decide +kernel
theorem d_Fl_comesBehind_45 : decode b_Fl_comesBehind 45 = .ok (.if_icmp .gt 23, 3) := by decide +kernel
theorem d_Fl_comesBehind_48 : decode b_Fl_comesBehind 48 = .ok (.aload_n 0, 1) := by decide +kernel
theorem d_Fl_comesBehind_49 : decode b_Fl_comesBehind 49 = .ok (.getfield 18, 3) := by decide +kernel
theorem d_Fl_comesBehind_52 : decode b_Fl_comesBehind 52 = .ok (.iload_n 1, 1) := by decide +kernel
theorem d_Fl_comesBehind_53 : decode b_Fl_comesBehind 53 = .ok (.iaload, 1) := by decide +kernel
theorem d_Fl_comesBehind_54 : decode b_Fl_comesBehind 54 = .ok (.aload_n 0, 1) := by decide +kernel
theorem d_Fl_comesBehind_55 : decode b_Fl_comesBehind 55 = .ok (.getfield 18, 3) := by decide +kernel
theorem d_Fl_comesBehind_58 : decode b_Fl_comesBehind 58 = .ok (.iload_n 2, 1) := by decide +kernel
theorem d_Fl_comesBehind_59 : decode b_Fl_comesBehind 59 = .ok (.iaload, 1) := by decide +kernel
theorem d_Fl_comesBehind_60 : decode b_Fl_comesBehind 60 = .ok (.if_icmp .ne 12, 3) := by decide +kernel
theorem d_Fl_comesBehind_63 : decode b_Fl_comesBehind 63 = .ok (.iload_n 1, 1) := by decide +kernel
theorem d_Fl_comesBehind_64 : decode b_Fl_comesBehind 64 = .ok (.iload_n 2, 1) := by decide +kernel
theorem d_Fl_comesBehind_65 : decode b_Fl_comesBehind 65 = .ok (.if_icmp .le 7, 3) := by decide +kernel
theorem d_Fl_comesBehind_68 : decode b_Fl_comesBehind 68 = .ok (.iconst 1, 1) := by decide +kernel
theorem d_Fl_comesBehind_69 : decode b_Fl_comesBehind 69 = .ok (.goto 4, 3) := by decide +kernel
theorem d_Fl_comesBehind_72 : decode b_Fl_comesBehind 72 = .ok (.iconst 0, 1) := by decide +kernel
theorem d_Fl_comesBehind_73 : decode b_Fl_comesBehind 73 = .ok (.ireturn, 1) := by decide +kernel
theorem d_Fl_commonDirection_0 : decode b_Fl_commonDirection 0 = .ok (.iconst (-1), 1) := by decide +kernel
theorem d_Fl_commonDirection_1 : decode b_Fl_commonDirection 1 = .ok (.istore_n 2, 1) := by decide +kernel
theorem d_Fl_commonDirection_2 : decode b_Fl_commonDirection 2 = .ok (.iconst 0, 1) := by decide +kernel
theorem d_Fl_commonDirection_3 : decode b_Fl_commonDirection 3 = .ok (.istore_n 3, 1) := by decide +kernel
theorem d_Fl_commonDirection_4 : decode b_Fl_commonDirection 4 = .ok (.iload_n 3, 1) := by decide +kernel
theorem d_Fl_commonDirection_5 : decode b_Fl_commonDirection 5 = .ok (.iconst 4, 1) := by decide +kernel
theorem d_Fl_commonDirection_6 : decode b_Fl_commonDirection 6 = .ok (.if_icmp .ge 41, 3) := by decide +kernel
theorem d_Fl_commonDirection_9 : decode b_Fl_commonDirection 9 = .ok (.iload_n 1, 1) := by decide +kernel
theorem d_Fl_commonDirection_10 : decode b_Fl_commonDirection 10 = .ok (.iload_n 3, 1) := by decide +kernel
theorem d_Fl_commonDirection_11 : decode b_Fl_commonDirection 11 = .ok (.invokestatic 35, 3) := by decide +kernel
theorem d_Fl_commonDirection_14 : decode b_Fl_commonDirection 14 = .ok (.ifCond .eq 27, 3) := by decide +kernel
theorem d_Fl_commonDirection_17 : decode b_Fl_commonDirection 17 = .ok (.iload_n 2, 1) := by decide +kernel
theorem d_Fl_commonDirection_18 : decode b_Fl_commonDirection 18 = .ok (.iconst (-1), 1) := by decide +kernel
theorem d_Fl_commonDirection_19 : decode b_Fl_commonDirection 19 = .ok (.if_icmp .eq 15, 3) := by decide +kernel
theorem d_Fl_commonDirection_22 : decode b_Fl_commonDirection 22 = .ok (.iload_n 2, 1) := by decide +kernel
theorem d_Fl_commonDirection_23 : decode b_Fl_commonDirection 23 = .ok (.aload_n 0, 1) := by decide +kernel
theorem d_Fl_commonDirection_24 : decode b_Fl_commonDirection 24 = .ok (.getfield 21, 3) := by decide +kernel
theorem d_Fl_commonDirection_27 : decode b_Fl_commonDirection 27 = .ok (.iload_n 3, 1) := by decide +kernel
theorem d_Fl_commonDirection_28 : decode b_Fl_commonDirection 28 = .ok (.iaload, 1) := by decide +kernel
theorem d_Fl_commonDirection_29 : decode b_Fl_commonDirection 29 = .ok (.if_icmp .eq 5, 3) := by decide +kernel
theorem d_Fl_commonDirection_32 : decode b_Fl_commonDirection 32 = .ok (.iconst (-1), 1) := by decide +kernel
theorem d_Fl_commonDirection_33 : decode b_Fl_commonDirection 33 = .ok (.ireturn, 1) := by decide +kernel
theorem d_Fl_commonDirection_34 : decode b_Fl_commonDirection 34 = .ok (.aload_n 0, 1) := by decide +kernel
theorem d_Fl_commonDirection_35 : decode b_Fl_commonDirection 35 = .ok (.getfield 21, 3) := by decide +kernel
theorem d_Fl_commonDirection_38 : decode b_Fl_commonDirection 38 = .ok (.iload_n 3, 1) := by decide +kernel
theorem d_Fl_commonDirection_39 : decode b_Fl_commonDirection 39 = .ok (.iaload, 1) := by decide +kernel
theorem d_Fl_commonDirection_40 : decode b_Fl_commonDirection 40 = .ok (.istore_n 2, 1) := by decide +kernel
theorem d_Fl_commonDirection_41 : decode b_Fl_commonDirection 41 = .ok (.iinc 3 1, 3) := by decide +kernel
theorem d_Fl_commonDirection_44 : decode b_Fl_commonDirection 44 = .ok (.goto (-40), 3) := by decide +kernel
theorem d_Fl_commonDirection_47 : decode b_Fl_commonDirection 47 = .ok (.iload_n 2, 1) := by decide +kernel
theorem d_Fl_commonDirection_48 : decode b_Fl_commonDirection 48 = .ok (.ireturn, 1) := by decide +kernel
theorem d_Fl_has_0 : decode b_Fl_has 0 = .ok (.iload_n 1, 1) := by decide +kernel
theorem d_Fl_has_1 : decode b_Fl_has 1 = .ok (.ifCond .lt 20, 3) := by decide +kernel
theorem d_Fl_has_4 : decode b_Fl_has 4 = .ok (.iload_n 1, 1) := by decide +kernel
theorem d_Fl_has_5 : decode b_Fl_has 5 = .ok (.aload_n 0, 1) := by decide +kernel
theorem d_Fl_has_6 : decode b_Fl_has 6 = .ok (.getfield 27, 3) := by decide +kernel
theorem d_Fl_has_9 : decode b_Fl_has 9 = .ok (.if_icmp .ge 12, 3) := by decide +kernel
theorem d_Fl_has_12 : decode b_Fl_has 12 = .ok (.iload_n 1, 1) := by decide +kernel
theorem d_Fl_has_13 : decode b_Fl_has 13 = .ok (.iconst 4, 1) := by decide +kernel
theorem d_Fl_has_14 : decode b_Fl_has 14 = .ok (.if_icmp .ge 7, 3) := by decide +kernel
theorem d_Fl_has_17 : decode b_Fl_has 17 = .ok (.iconst 1, 1) := by decide +kernel
theorem d_Fl_has_18 : decode b_Fl_has 18 = .ok (.goto 4, 3) := by decide +kernel
theorem d_Fl_has_21 : decode b_Fl_has 21 = .ok (.iconst 0, 1) := by decide +kernel
theorem d_Fl_has_22 : decode b_Fl_has 22 = .ok (.ireturn, 1) := by decide +kernel
theorem d_Fl_lastArrival_0 : decode b_Fl_lastArrival 0 = .ok (.iconst 0, 1) := by decide +kernel
theorem d_Fl_lastArrival_1 : decode b_Fl_lastArrival 1 = .ok (.istore_n 2, 1) := by decide +kernel
theorem d_Fl_lastArrival_2 : decode b_Fl_lastArrival 2 = .ok (.iconst 0, 1) := by decide +kernel
theorem d_Fl_lastArrival_3 : decode b_Fl_lastArrival 3 = .ok (.istore_n 3, 1) := by decide +kernel
theorem d_Fl_lastArrival_4 : decode b_Fl_lastArrival 4 = .ok (.iload_n 3, 1) := by decide +kernel
theorem d_Fl_lastArrival_5 : decode b_Fl_lastArrival 5 = .ok (.iconst 4, 1) := by decide +kernel
theorem d_Fl_lastArrival_6 : decode b_Fl_lastArrival 6 = .ok (.if_icmp .ge 28, 3) := by decide +kernel
theorem d_Fl_lastArrival_9 : decode b_Fl_lastArrival 9 = .ok (.iload_n 1, 1) := by decide +kernel
theorem d_Fl_lastArrival_10 : decode b_Fl_lastArrival 10 = .ok (.iload_n 3, 1) := by decide +kernel
theorem d_Fl_lastArrival_11 : decode b_Fl_lastArrival 11 = .ok (.invokestatic 35, 3) := by decide +kernel
theorem d_Fl_lastArrival_14 : decode b_Fl_lastArrival 14 = .ok (.ifCond .eq 14, 3) := by decide +kernel
theorem d_Fl_lastArrival_17 : decode b_Fl_lastArrival 17 = .ok (.iload_n 2, 1) := by decide +kernel
theorem d_Fl_lastArrival_18 : decode b_Fl_lastArrival 18 = .ok (.aload_n 0, 1) := by decide +kernel
theorem d_Fl_lastArrival_19 : decode b_Fl_lastArrival 19 = .ok (.getfield 18, 3) := by decide +kernel
theorem d_Fl_lastArrival_22 : decode b_Fl_lastArrival 22 = .ok (.iload_n 3, 1) := by decide +kernel
theorem d_Fl_lastArrival_23 : decode b_Fl_lastArrival 23 = .ok (.iaload, 1) := by decide +kernel
theorem d_Fl_lastArrival_24 : decode b_Fl_lastArrival 24 = .ok (.invokestatic 39, 3) := by decide +kernel
theorem d_Fl_lastArrival_27 : decode b_Fl_lastArrival 27 = .ok (.istore_n 2, 1) := by decide +kernel
theorem d_Fl_lastArrival_28 : decode b_Fl_lastArrival 28 = .ok (.iinc 3 1, 3) := by decide +kernel
theorem d_Fl_lastArrival_31 : decode b_Fl_lastArrival 31 = .ok (.goto (-27), 3) := by decide +kernel
theorem d_Fl_lastArrival_34 : decode b_Fl_lastArrival 34 = .ok (.iload_n 2, 1) := by decide +kernel
theorem d_Fl_lastArrival_35 : decode b_Fl_lastArrival 35 = .ok (.ireturn, 1) := by decide +kernel
theorem d_Fl_length_0 : decode b_Fl_length 0 = .ok (.aload_n 0, 1) := by decide +kernel
theorem d_Fl_length_1 : decode b_Fl_length 1 = .ok (.iload_n 1, 1) := by decide +kernel
theorem d_Fl_length_2 : decode b_Fl_length 2 = .ok (.invokevirtual 31, 3) := by decide +kernel
theorem d_Fl_length_5 : decode b_Fl_length 5 = .ok (.ifCond .eq 12, 3) := by decide +kernel
theorem d_Fl_length_8 : decode b_Fl_length 8 = .ok (.aload_n 0, 1) := by decide +kernel
theorem d_Fl_length_9 : decode b_Fl_length 9 = .ok (.getfield 9, 3) := by decide +kernel
theorem d_Fl_length_12 : decode b_Fl_length 12 = .ok (.iload_n 1, 1) := by decide +kernel
theorem d_Fl_length_13 : decode b_Fl_length 13 = .ok (.iaload, 1) := by decide +kernel
theorem d_Fl_length_14 : decode b_Fl_length 14 = .ok (.goto 4, 3) := by decide +kernel
theorem d_Fl_length_17 : decode b_Fl_length 17 = .ok (.iconst 0, 1) := by decide +kernel
theorem d_Fl_length_18 : decode b_Fl_length 18 = .ok (.ireturn, 1) := by decide +kernel
theorem d_Fl_setArrival_0 : decode b_Fl_setArrival 0 = .ok (.aload_n 0, 1) := by decide +kernel
theorem d_Fl_setArrival_1 : decode b_Fl_setArrival 1 = .ok (.iload_n 1, 1) := by decide +kernel
theorem d_Fl_setArrival_2 : decode b_Fl_setArrival 2 = .ok (.invokevirtual 31, 3) := by decide +kernel
theorem d_Fl_setArrival_5 : decode b_Fl_setArrival 5 = .ok (.ifCond .eq 10, 3) := by decide +kernel
theorem d_Fl_setArrival_8 : decode b_Fl_setArrival 8 = .ok (.aload_n 0, 1) := by decide +kernel
theorem d_Fl_setArrival_9 : decode b_Fl_setArrival 9 = .ok (.getfield 18, 3) := by decide +kernel
theorem d_Fl_setArrival_12 : decode b_Fl_setArrival 12 = .ok (.iload_n 1, 1) := by decide +kernel
theorem d_Fl_setArrival_13 : decode b_Fl_setArrival 13 = .ok (.iload_n 2, 1) := by decide +kernel
theorem d_Fl_setArrival_14 : decode b_Fl_setArrival 14 = .ok (.iastore, 1) := by decide +kernel
theorem d_Fl_setArrival_15 : decode b_Fl_setArrival 15 = .ok (.return_, 1) := by decide +kernel
theorem d_Fl_side_0 : decode b_Fl_side 0 = .ok (.aload_n 0, 1) := by decide +kernel
theorem d_Fl_side_1 : decode b_Fl_side 1 = .ok (.iload_n 1, 1) := by decide +kernel
theorem d_Fl_side_2 : decode b_Fl_side 2 = .ok (.invokevirtual 31, 3) := by decide +kernel
theorem d_Fl_side_5 : decode b_Fl_side 5 = .ok (.ifCond .eq 12, 3) := by decide +kernel
theorem d_Fl_side_8 : decode b_Fl_side 8 = .ok (.aload_n 0, 1) := by decide +kernel
theorem d_Fl_side_9 : decode b_Fl_side 9 = .ok (.getfield 24, 3) := by decide +kernel
