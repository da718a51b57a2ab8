theorem d_Fl_side_12 : decode b_Fl_side 12 = .ok (.iload_n 1, 1) := by decide +kernel
theorem d_Fl_side_13 : decode b_Fl_side 13 = .ok (.iaload, 1) := by decide +kernel
theorem d_Fl_side_14 : decode b_Fl_side 14 = .ok (.goto 4, 3) := by decide +kernel
theorem d_Fl_side_17 : decode b_Fl_side 17 = .ok (.iconst 2, 1) := by decide +kernel
theorem d_Fl_side_18 : decode b_Fl_side 18 = .ok (.ireturn, 1) := by decide +kernel
theorem d_Fl_size_0 : decode b_Fl_size 0 = .ok (.aload_n 0, 1) := by decide +kernel
theorem d_Fl_size_1 : decode b_Fl_size 1 = .ok (.getfield 27, 3) := by decide +kernel
theorem d_Fl_size_4 : decode b_Fl_size 4 = .ok (.ireturn, 1) := by decide +kernel
theorem d_Fl_waiting_0 : decode b_Fl_waiting 0 = .ok (.iconst 0, 1) := by decide +kernel
theorem d_Fl_waiting_1 : decode b_Fl_waiting 1 = .ok (.istore_n 3, 1) := by decide +kernel
theorem d_Fl_waiting_2 : decode b_Fl_waiting 2 = .ok (.iconst 0, 1) := by decide +kernel
theorem d_Fl_waiting_3 : decode b_Fl_waiting 3 = .ok (.istore 4, 2) := by decide +kernel
theorem d_Fl_waiting_5 : decode b_Fl_waiting 5 = .ok (.iload 4, 2) := by decide +kernel
theorem d_Fl_waiting_7 : decode b_Fl_waiting 7 = .ok (.iconst 4, 1) := by decide +kernel
theorem d_Fl_waiting_8 : decode b_Fl_waiting 8 = .ok (.if_icmp .ge 30, 3) := by decide +kernel
theorem d_Fl_waiting_11 : decode b_Fl_waiting 11 = .ok (.iload_n 1, 1) := by decide +kernel
theorem d_Fl_waiting_12 : decode b_Fl_waiting 12 = .ok (.iload 4, 2) := by decide +kernel
theorem d_Fl_waiting_14 : decode b_Fl_waiting 14 = .ok (.invokestatic 35, 3) := by decide +kernel
theorem d_Fl_waiting_17 : decode b_Fl_waiting 17 = .ok (.ifCond .eq 15, 3) := by decide +kernel
theorem d_Fl_waiting_20 : decode b_Fl_waiting 20 = .ok (.iload_n 3, 1) := by decide +kernel
theorem d_Fl_waiting_21 : decode b_Fl_waiting 21 = .ok (.iload_n 2, 1) := by decide +kernel
theorem d_Fl_waiting_22 : decode b_Fl_waiting 22 = .ok (.aload_n 0, 1) := by decide +kernel
theorem d_Fl_waiting_23 : decode b_Fl_waiting 23 = .ok (.getfield 18, 3) := by decide +kernel
theorem d_Fl_waiting_26 : decode b_Fl_waiting 26 = .ok (.iload 4, 2) := by decide +kernel
theorem d_Fl_waiting_28 : decode b_Fl_waiting 28 = .ok (.iaload, 1) := by decide +kernel
theorem d_Fl_waiting_29 : decode b_Fl_waiting 29 = .ok (.isub, 1) := by decide +kernel
theorem d_Fl_waiting_30 : decode b_Fl_waiting 30 = .ok (.iadd, 1) := by decide +kernel
theorem d_Fl_waiting_31 : decode b_Fl_waiting 31 = .ok (.istore_n 3, 1) := by decide +kernel
theorem d_Fl_waiting_32 : decode b_Fl_waiting 32 = .ok (.iinc 4 1, 3) := by decide +kernel
theorem d_Fl_waiting_35 : decode b_Fl_waiting 35 = .ok (.goto (-30), 3) := by decide +kernel
theorem d_Fl_waiting_38 : decode b_Fl_waiting 38 = .ok (.iload_n 3, 1) := by decide +kernel
theorem d_Fl_waiting_39 : decode b_Fl_waiting 39 = .ok (.ireturn, 1) := by decide +kernel
theorem d_Fl_width_0 : decode b_Fl_width 0 = .ok (.aload_n 0, 1) := by decide +kernel
theorem d_Fl_width_1 : decode b_Fl_width 1 = .ok (.iload_n 1, 1) := by decide +kernel
theorem d_Fl_width_2 : decode b_Fl_width 2 = .ok (.invokevirtual 31, 3) := by decide +kernel
theorem d_Fl_width_5 : decode b_Fl_width 5 = .ok (.ifCond .eq 12, 3) := by decide +kernel
theorem d_Fl_width_8 : decode b_Fl_width 8 = .ok (.aload_n 0, 1) := by decide +kernel
theorem d_Fl_width_9 : decode b_Fl_width 9 = .ok (.getfield 15, 3) := by decide +kernel
theorem d_Fl_width_12 : decode b_Fl_width 12 = .ok (.iload_n 1, 1) := by decide +kernel
theorem d_Fl_width_13 : decode b_Fl_width 13 = .ok (.iaload, 1) := by decide +kernel
theorem d_Fl_width_14 : decode b_Fl_width 14 = .ok (.goto 4, 3) := by decide +kernel
theorem d_Fl_width_17 : decode b_Fl_width 17 = .ok (.iconst 0, 1) := by decide +kernel
theorem d_Fl_width_18 : decode b_Fl_width 18 = .ok (.ireturn, 1) := by decide +kernel
theorem d_Pl_canRun_0 : decode b_Pl_canRun 0 = .ok (.aload_n 0, 1) := by decide +kernel
theorem d_Pl_canRun_1 : decode b_Pl_canRun 1 = .ok (.getfield 32, 3) := by decide +kernel
theorem d_Pl_canRun_4 : decode b_Pl_canRun 4 = .ok (.iload_n 2, 1) := by decide +kernel
theorem d_Pl_canRun_5 : decode b_Pl_canRun 5 = .ok (.invokevirtual 83, 3) := by decide +kernel
theorem d_Pl_canRun_8 : decode b_Pl_canRun 8 = .ok (.iconst (-1), 1) := by decide +kernel
theorem d_Pl_canRun_9 : decode b_Pl_canRun 9 = .ok (.if_icmp .eq 19, 3) := by decide +kernel
theorem d_Pl_canRun_12 : decode b_Pl_canRun 12 = .ok (.aload_n 0, 1) := by decide +kernel
theorem d_Pl_canRun_13 : decode b_Pl_canRun 13 = .ok (.getfield 36, 3) := by decide +kernel
theorem d_Pl_canRun_16 : decode b_Pl_canRun 16 = .ok (.iload_n 1, 1) := by decide +kernel
theorem d_Pl_canRun_17 : decode b_Pl_canRun 17 = .ok (.iload_n 2, 1) := by decide +kernel
theorem d_Pl_canRun_18 : decode b_Pl_canRun 18 = .ok (.invokevirtual 104, 3) := by decide +kernel
theorem d_Pl_canRun_21 : decode b_Pl_canRun 21 = .ok (.ifCond .eq 7, 3) := by decide +kernel
theorem d_Pl_canRun_24 : decode b_Pl_canRun 24 = .ok (.iconst 1, 1) := by decide +kernel
theorem d_Pl_canRun_25 : decode b_Pl_canRun 25 = .ok (.goto 4, 3) := by decide +kernel
theorem d_Pl_canRun_28 : decode b_Pl_canRun 28 = .ok (.iconst 0, 1) := by decide +kernel
theorem d_Pl_canRun_29 : decode b_Pl_canRun 29 = .ok (.ireturn, 1) := by decide +kernel
theorem d_Pl_forget_0 : decode b_Pl_forget 0 = .ok (.aload_n 0, 1) := by decide +kernel
theorem d_Pl_forget_1 : decode b_Pl_forget 1 = .ok (.iconst 0, 1) := by decide +kernel
theorem d_Pl_forget_2 : decode b_Pl_forget 2 = .ok (.putfield 40, 3) := by decide +kernel
theorem d_Pl_forget_5 : decode b_Pl_forget 5 = .ok (.return_, 1) := by decide +kernel
theorem d_Pl_hasPlan_0 : decode b_Pl_hasPlan 0 = .ok (.aload_n 0, 1) := by decide +kernel
theorem d_Pl_hasPlan_1 : decode b_Pl_hasPlan 1 = .ok (.getfield 40, 3) := by decide +kernel
theorem d_Pl_hasPlan_4 : decode b_Pl_hasPlan 4 = .ok (.ireturn, 1) := by decide +kernel
theorem d_Pl_keepForComparison_0 : decode b_Pl_keepForComparison 0 = .ok (.aload_n 0, 1) := by decide +kernel
theorem d_Pl_keepForComparison_1 : decode b_Pl_keepForComparison 1 = .ok (.getfield 21, 3) := by decide +kernel
theorem d_Pl_keepForComparison_4 : decode b_Pl_keepForComparison 4 = .ok (.aload_n 0, 1) := by decide +kernel
theorem d_Pl_keepForComparison_5 : decode b_Pl_keepForComparison 5 = .ok (.getfield 18, 3) := by decide +kernel
theorem d_Pl_keepForComparison_8 : decode b_Pl_keepForComparison 8 = .ok (.invokevirtual 57, 3) := by decide +kernel
theorem d_Pl_keepForComparison_11 : decode b_Pl_keepForComparison 11 = .ok (.return_, 1) := by decide +kernel
theorem d_Pl_layRunOf_0 : decode b_Pl_layRunOf 0 = .ok (.aload_n 0, 1) := by decide +kernel
theorem d_Pl_layRunOf_1 : decode b_Pl_layRunOf 1 = .ok (.getfield 18, 3) := by decide +kernel
theorem d_Pl_layRunOf_4 : decode b_Pl_layRunOf 4 = .ok (.iload_n 1, 1) := by decide +kernel
theorem d_Pl_layRunOf_5 : decode b_Pl_layRunOf 5 = .ok (.invokevirtual 128, 3) := by decide +kernel
theorem d_Pl_layRunOf_8 : decode b_Pl_layRunOf 8 = .ok (.istore_n 2, 1) := by decide +kernel
theorem d_Pl_layRunOf_9 : decode b_Pl_layRunOf 9 = .ok (.aload_n 0, 1) := by decide +kernel
theorem d_Pl_layRunOf_10 : decode b_Pl_layRunOf 10 = .ok (.getfield 36, 3) := by decide +kernel
theorem d_Pl_layRunOf_13 : decode b_Pl_layRunOf 13 = .ok (.iload_n 2, 1) := by decide +kernel
theorem d_Pl_layRunOf_14 : decode b_Pl_layRunOf 14 = .ok (.aload_n 0, 1) := by decide +kernel
theorem d_Pl_layRunOf_15 : decode b_Pl_layRunOf 15 = .ok (.getfield 18, 3) := by decide +kernel
theorem d_Pl_layRunOf_18 : decode b_Pl_layRunOf 18 = .ok (.iload_n 2, 1) := by decide +kernel
theorem d_Pl_layRunOf_19 : decode b_Pl_layRunOf 19 = .ok (.aload_n 0, 1) := by decide +kernel
theorem d_Pl_layRunOf_20 : decode b_Pl_layRunOf 20 = .ok (.getfield 18, 3) := by decide +kernel
theorem d_Pl_layRunOf_23 : decode b_Pl_layRunOf 23 = .ok (.iload_n 1, 1) := by decide +kernel
theorem d_Pl_layRunOf_24 : decode b_Pl_layRunOf 24 = .ok (.invokevirtual 131, 3) := by decide +kernel
theorem d_Pl_layRunOf_27 : decode b_Pl_layRunOf 27 = .ok (.aload_n 0, 1) := by decide +kernel
theorem d_Pl_layRunOf_28 : decode b_Pl_layRunOf 28 = .ok (.getfield 32, 3) := by decide +kernel
theorem d_Pl_layRunOf_31 : decode b_Pl_layRunOf 31 = .ok (.invokevirtual 48, 3) := by decide +kernel
theorem d_Pl_layRunOf_34 : decode b_Pl_layRunOf 34 = .ok (.invokevirtual 146, 3) := by decide +kernel
theorem d_Pl_layRunOf_37 : decode b_Pl_layRunOf 37 = .ok (.invokevirtual 150, 3) := by decide +kernel
theorem d_Pl_layRunOf_40 : decode b_Pl_layRunOf 40 = .ok (.ireturn, 1) := by decide +kernel
theorem d_Pl_moved_0 : decode b_Pl_moved 0 = .ok (.aload_n 0, 1) := by decide +kernel
theorem d_Pl_moved_1 : decode b_Pl_moved 1 = .ok (.getfield 18, 3) := by decide +kernel
theorem d_Pl_moved_4 : decode b_Pl_moved 4 = .ok (.aload_n 0, 1) := by decide +kernel
theorem d_Pl_moved_5 : decode b_Pl_moved 5 = .ok (.getfield 21, 3) := by decide +kernel
theorem d_Pl_moved_8 : decode b_Pl_moved 8 = .ok (.aload_n 0, 1) := by decide +kernel
theorem d_Pl_moved_9 : decode b_Pl_moved 9 = .ok (.getfield 32, 3) := by decide +kernel
theorem d_Pl_moved_12 : decode b_Pl_moved 12 = .ok (.invokevirtual 48, 3) := by decide +kernel
theorem d_Pl_moved_15 : decode b_Pl_moved 15 = .ok (.invokevirtual 61, 3) := by decide +kernel
theorem d_Pl_moved_18 : decode b_Pl_moved 18 = .ok (.ireturn, 1) := by decide +kernel
theorem d_Pl_offerTrial_0 : decode b_Pl_offerTrial 0 = .ok (.iconst 0, 1) := by decide +kernel
theorem d_Pl_offerTrial_1 : decode b_Pl_offerTrial 1 = .ok (.istore_n 2, 1) := by decide +kernel
theorem d_Pl_offerTrial_2 : decode b_Pl_offerTrial 2 = .ok (.iload_n 2, 1) := by decide +kernel
theorem d_Pl_offerTrial_3 : decode b_Pl_offerTrial 3 = .ok (.aload_n 0, 1) := by decide +kernel
theorem d_Pl_offerTrial_4 : decode b_Pl_offerTrial 4 = .ok (.getfield 32, 3) := by decide +kernel
theorem d_Pl_offerTrial_7 : decode b_Pl_offerTrial 7 = .ok (.invokevirtual 109, 3) := by decide +kernel
theorem d_Pl_offerTrial_10 : decode b_Pl_offerTrial 10 = .ok (.if_icmp .ge 26, 3) := by decide +kernel
theorem d_Pl_offerTrial_13 : decode b_Pl_offerTrial 13 = .ok (.aload_n 0, 1) := by decide +kernel
theorem d_Pl_offerTrial_14 : decode b_Pl_offerTrial 14 = .ok (.aload_n 0, 1) := by decide +kernel
theorem d_Pl_offerTrial_15 : decode b_Pl_offerTrial 15 = .ok (.getfield 12, 3) := by decide +kernel
theorem d_Pl_offerTrial_18 : decode b_Pl_offerTrial 18 = .ok (.iload_n 2, 1) := by decide +kernel
theorem d_Pl_offerTrial_19 : decode b_Pl_offerTrial 19 = .ok (.invokevirtual 112, 3) := by decide +kernel
theorem d_Pl_offerTrial_22 : decode b_Pl_offerTrial 22 = .ok (.aload_n 0, 1) := by decide +kernel
theorem d_Pl_offerTrial_23 : decode b_Pl_offerTrial 23 = .ok (.getfield 24, 3) := by decide +kernel
theorem d_Pl_offerTrial_26 : decode b_Pl_offerTrial 26 = .ok (.if_icmp .le 4, 3) := by decide +kernel
theorem d_Pl_offerTrial_29 : decode b_Pl_offerTrial 29 = .ok (.return_, 1) := by decide +kernel
theorem d_Pl_offerTrial_30 : decode b_Pl_offerTrial 30 = .ok (.iinc 2 1, 3) := by decide +kernel
theorem d_Pl_offerTrial_33 : decode b_Pl_offerTrial 33 = .ok (.goto (-31), 3) := by decide +kernel
theorem d_Pl_offerTrial_36 : decode b_Pl_offerTrial 36 = .ok (.aload_n 0, 1) := by decide +kernel
theorem d_Pl_offerTrial_37 : decode b_Pl_offerTrial 37 = .ok (.getfield 12, 3) := by decide +kernel
theorem d_Pl_offerTrial_40 : decode b_Pl_offerTrial 40 = .ok (.iload_n 1, 1) := by decide +kernel
theorem d_Pl_offerTrial_41 : decode b_Pl_offerTrial 41 = .ok (.invokevirtual 115, 3) := by decide +kernel
theorem d_Pl_offerTrial_44 : decode b_Pl_offerTrial 44 = .ok (.aload_n 0, 1) := by decide +kernel
theorem d_Pl_offerTrial_45 : decode b_Pl_offerTrial 45 = .ok (.getfield 40, 3) := by decide +kernel
theorem d_Pl_offerTrial_48 : decode b_Pl_offerTrial 48 = .ok (.ifCond .eq 24, 3) := by decide +kernel
theorem d_Pl_offerTrial_51 : decode b_Pl_offerTrial 51 = .ok (.aload_n 0, 1) := by decide +kernel
theorem d_Pl_offerTrial_52 : decode b_Pl_offerTrial 52 = .ok (.getfield 12, 3) := by decide +kernel
theorem d_Pl_offerTrial_55 : decode b_Pl_offerTrial 55 = .ok (.aload_n 0, 1) := by decide +kernel
theorem d_Pl_offerTrial_56 : decode b_Pl_offerTrial 56 = .ok (.getfield 18, 3) := by decide +kernel
theorem d_Pl_offerTrial_59 : decode b_Pl_offerTrial 59 = .ok (.aload_n 0, 1) := by decide +kernel
theorem d_Pl_offerTrial_60 : decode b_Pl_offerTrial 60 = .ok (.getfield 32, 3) := by decide +kernel
theorem d_Pl_offerTrial_63 : decode b_Pl_offerTrial 63 = .ok (.invokevirtual 48, 3) := by decide +kernel
theorem d_Pl_offerTrial_66 : decode b_Pl_offerTrial 66 = .ok (.invokevirtual 118, 3) := by decide +kernel
theorem d_Pl_offerTrial_69 : decode b_Pl_offerTrial 69 = .ok (.ifCond .eq 19, 3) := by decide +kernel
theorem d_Pl_offerTrial_72 : decode b_Pl_offerTrial 72 = .ok (.aload_n 0, 1) := by decide +kernel
theorem d_Pl_offerTrial_73 : decode b_Pl_offerTrial 73 = .ok (.getfield 18, 3) := by decide +kernel
theorem d_Pl_offerTrial_76 : decode b_Pl_offerTrial 76 = .ok (.aload_n 0, 1) := by decide +kernel
theorem d_Pl_offerTrial_77 : decode b_Pl_offerTrial 77 = .ok (.getfield 12, 3) := by decide +kernel
theorem d_Pl_offerTrial_80 : decode b_Pl_offerTrial 80 = .ok (.invokevirtual 57, 3) := by decide +kernel
theorem d_Pl_offerTrial_83 : decode b_Pl_offerTrial 83 = .ok (.aload_n 0, 1) := by decide +kernel
theorem d_Pl_offerTrial_84 : decode b_Pl_offerTrial 84 = .ok (.iconst 1, 1) := by decide +kernel
theorem d_Pl_offerTrial_85 : decode b_Pl_offerTrial 85 = .ok (.putfield 40, 3) := by decide +kernel
theorem d_Pl_offerTrial_88 : decode b_Pl_offerTrial 88 = .ok (.return_, 1) := by decide +kernel
theorem d_Pl_over_0 : decode b_Pl_over 0 = .ok (.aload_n 0, 1) := by decide +kernel
theorem d_Pl_over_1 : decode b_Pl_over 1 = .ok (.getfield 24, 3) := by decide +kernel
theorem d_Pl_over_4 : decode b_Pl_over 4 = .ok (.ireturn, 1) := by decide +kernel
theorem d_Pl_overtaken_0 : decode b_Pl_overtaken 0 = .ok (.iconst 0, 1) := by decide +kernel
theorem d_Pl_overtaken_1 : decode b_Pl_overtaken 1 = .ok (.istore_n 3, 1) := by decide +kernel
theorem d_Pl_overtaken_2 : decode b_Pl_overtaken 2 = .ok (.iconst 0, 1) := by decide +kernel
theorem d_Pl_overtaken_3 : decode b_Pl_overtaken 3 = .ok (.istore 4, 2) := by decide +kernel
theorem d_Pl_overtaken_5 : decode b_Pl_overtaken 5 = .ok (.iload 4, 2) := by decide +kernel
theorem d_Pl_overtaken_7 : decode b_Pl_overtaken 7 = .ok (.aload_n 0, 1) := by decide +kernel
theorem d_Pl_overtaken_8 : decode b_Pl_overtaken 8 = .ok (.getfield 32, 3) := by decide +kernel
theorem d_Pl_overtaken_11 : decode b_Pl_overtaken 11 = .ok (.invokevirtual 109, 3) := by decide +kernel
theorem d_Pl_overtaken_14 : decode b_Pl_overtaken 14 = .ok (.if_icmp .ge 39, 3) := by decide +kernel
theorem d_Pl_overtaken_17 : decode b_Pl_overtaken 17 = .ok (.aload_n 0, 1) := by decide +kernel
theorem d_Pl_overtaken_18 : decode b_Pl_overtaken 18 = .ok (.getfield 32, 3) := by decide +kernel
theorem d_Pl_overtaken_21 : decode b_Pl_overtaken 21 = .ok (.iload 4, 2) := by decide +kernel
theorem d_Pl_overtaken_23 : decode b_Pl_overtaken 23 = .ok (.iload_n 2, 1) := by decide +kernel
theorem d_Pl_overtaken_24 : decode b_Pl_overtaken 24 = .ok (.invokevirtual 122, 3) := by decide +kernel
theorem d_Pl_overtaken_27 : decode b_Pl_overtaken 27 = .ok (.ifCond .eq 20, 3) := by decide +kernel
theorem d_Pl_overtaken_30 : decode b_Pl_overtaken 30 = .ok (.aload_n 1, 1) := by decide +kernel
theorem d_Pl_overtaken_31 : decode b_Pl_overtaken 31 = .ok (.iload 4, 2) := by decide +kernel
theorem d_Pl_overtaken_33 : decode b_Pl_overtaken 33 = .ok (.invokevirtual 125, 3) := by decide +kernel
theorem d_Pl_overtaken_36 : decode b_Pl_overtaken 36 = .ok (.aload_n 1, 1) := by decide +kernel
theorem d_Pl_overtaken_37 : decode b_Pl_overtaken 37 = .ok (.iload_n 2, 1) := by decide +kernel
theorem d_Pl_overtaken_38 : decode b_Pl_overtaken 38 = .ok (.invokevirtual 125, 3) := by decide +kernel
theorem d_Pl_overtaken_41 : decode b_Pl_overtaken 41 = .ok (.if_icmp .ge 6, 3) := by decide +kernel
theorem d_Pl_overtaken_44 : decode b_Pl_overtaken 44 = .ok (.iinc 3 1, 3) := by decide +kernel
theorem d_Pl_overtaken_47 : decode b_Pl_overtaken 47 = .ok (.iinc 4 1, 3) := by decide +kernel
theorem d_Pl_overtaken_50 : decode b_Pl_overtaken 50 = .ok (.goto (-45), 3) := by decide +kernel
theorem d_Pl_overtaken_53 : decode b_Pl_overtaken 53 = .ok (.iload_n 3, 1) := by decide +kernel
theorem d_Pl_overtaken_54 : decode b_Pl_overtaken 54 = .ok (.ireturn, 1) := by decide +kernel
theorem d_Pl_runs_0 : decode b_Pl_runs 0 = .ok (.iconst 0, 1) := by decide +kernel
theorem d_Pl_runs_1 : decode b_Pl_runs 1 = .ok (.istore_n 2, 1) := by decide +kernel
theorem d_Pl_runs_2 : decode b_Pl_runs 2 = .ok (.iconst 0, 1) := by decide +kernel
theorem d_Pl_runs_3 : decode b_Pl_runs 3 = .ok (.istore_n 3, 1) := by decide +kernel
theorem d_Pl_runs_4 : decode b_Pl_runs 4 = .ok (.iload_n 3, 1) := by decide +kernel
theorem d_Pl_runs_5 : decode b_Pl_runs 5 = .ok (.aload_n 0, 1) := by decide +kernel
theorem d_Pl_runs_6 : decode b_Pl_runs 6 = .ok (.getfield 32, 3) := by decide +kernel
theorem d_Pl_runs_9 : decode b_Pl_runs 9 = .ok (.invokevirtual 109, 3) := by decide +kernel
theorem d_Pl_runs_12 : decode b_Pl_runs 12 = .ok (.if_icmp .ge 36, 3) := by decide +kernel
theorem d_Pl_runs_15 : decode b_Pl_runs 15 = .ok (.aload_n 0, 1) := by decide +kernel
theorem d_Pl_runs_16 : decode b_Pl_runs 16 = .ok (.getfield 18, 3) := by decide +kernel
theorem d_Pl_runs_19 : decode b_Pl_runs 19 = .ok (.iload_n 3, 1) := by decide +kernel
theorem d_Pl_runs_20 : decode b_Pl_runs 20 = .ok (.invokevirtual 128, 3) := by decide +kernel
theorem d_Pl_runs_23 : decode b_Pl_runs 23 = .ok (.iload_n 1, 1) := by decide +kernel
theorem d_Pl_runs_24 : decode b_Pl_runs 24 = .ok (.if_icmp .ne 18, 3) := by decide +kernel
theorem d_Pl_runs_27 : decode b_Pl_runs 27 = .ok (.iload_n 2, 1) := by decide +kernel
theorem d_Pl_runs_28 : decode b_Pl_runs 28 = .ok (.aload_n 0, 1) := by decide +kernel
theorem d_Pl_runs_29 : decode b_Pl_runs 29 = .ok (.getfield 18, 3) := by decide +kernel
theorem d_Pl_runs_32 : decode b_Pl_runs 32 = .ok (.iload_n 3, 1) := by decide +kernel
theorem d_Pl_runs_33 : decode b_Pl_runs 33 = .ok (.invokevirtual 131, 3) := by decide +kernel
theorem d_Pl_runs_36 : decode b_Pl_runs 36 = .ok (.iconst 1, 1) := by decide +kernel
theorem d_Pl_runs_37 : decode b_Pl_runs 37 = .ok (.iadd, 1) := by decide +kernel
theorem d_Pl_runs_38 : decode b_Pl_runs 38 = .ok (.invokestatic 89, 3) := by decide +kernel
theorem d_Pl_runs_41 : decode b_Pl_runs 41 = .ok (.istore_n 2, 1) := by decide +kernel
theorem d_Pl_runs_42 : decode b_Pl_runs 42 = .ok (.iinc 3 1, 3) := by decide +kernel
theorem d_Pl_runs_45 : decode b_Pl_runs 45 = .ok (.goto (-41), 3) := by decide +kernel
theorem d_Pl_runs_48 : decode b_Pl_runs 48 = .ok (.iload_n 2, 1) := by decide +kernel
theorem d_Pl_runs_49 : decode b_Pl_runs 49 = .ok (.ireturn, 1) := by decide +kernel
theorem d_Pl_search_0 : decode b_Pl_search 0 = .ok (.aload_n 0, 1) := by decide +kernel
theorem d_Pl_search_1 : decode b_Pl_search 1 = .ok (.iconst 0, 1) := by decide +kernel
theorem d_Pl_search_2 : decode b_Pl_search 2 = .ok (.putfield 40, 3) := by decide +kernel
theorem d_Pl_search_5 : decode b_Pl_search 5 = .ok (.aload_n 0, 1) := by decide +kernel
theorem d_Pl_search_6 : decode b_Pl_search 6 = .ok (.iconst 0, 1) := by decide +kernel
theorem d_Pl_search_7 : decode b_Pl_search 7 = .ok (.iconst 0, 1) := by decide +kernel
theorem d_Pl_search_8 : decode b_Pl_search 8 = .ok (.aload_n 0, 1) := by decide +kernel
theorem d_Pl_search_9 : decode b_Pl_search 9 = .ok (.getfield 32, 3) := by decide +kernel
theorem d_Pl_search_12 : decode b_Pl_search 12 = .ok (.invokevirtual 48, 3) := by decide +kernel
theorem d_Pl_search_15 : decode b_Pl_search 15 = .ok (.iconst 0, 1) := by decide +kernel
theorem d_Pl_search_16 : decode b_Pl_search 16 = .ok (.iconst 0, 1) := by decide +kernel
theorem d_Pl_search_17 : decode b_Pl_search 17 = .ok (.iconst 0, 1) := by decide +kernel
theorem d_Pl_search_18 : decode b_Pl_search 18 = .ok (.invokevirtual 53, 3) := by decide +kernel
theorem d_Pl_search_21 : decode b_Pl_search 21 = .ok (.aload_n 0, 1) := by decide +kernel
theorem d_Pl_search_22 : decode b_Pl_search 22 = .ok (.getfield 40, 3) := by decide +kernel
theorem d_Pl_search_25 : decode b_Pl_search 25 = .ok (.ireturn, 1) := by decide +kernel
theorem d_Pl_setOver_0 : decode b_Pl_setOver 0 = .ok (.aload_n 0, 1) := by decide +kernel
theorem d_Pl_setOver_1 : decode b_Pl_setOver 1 = .ok (.iload_n 1, 1) := by decide +kernel
theorem d_Pl_setOver_2 : decode b_Pl_setOver 2 = .ok (.putfield 24, 3) := by decide +kernel
theorem d_Pl_setOver_5 : decode b_Pl_setOver 5 = .ok (.return_, 1) := by decide +kernel
theorem d_Pl_tellRun_0 : decode b_Pl_tellRun 0 = .ok (.aload_n 0, 1) := by decide +kernel
theorem d_Pl_tellRun_1 : decode b_Pl_tellRun 1 = .ok (.getfield 18, 3) := by decide +kernel
theorem d_Pl_tellRun_4 : decode b_Pl_tellRun 4 = .ok (.iload_n 1, 1) := by decide +kernel
theorem d_Pl_tellRun_5 : decode b_Pl_tellRun 5 = .ok (.iload_n 2, 1) := by decide +kernel
theorem d_Pl_tellRun_6 : decode b_Pl_tellRun 6 = .ok (.aload_n 0, 1) := by decide +kernel
theorem d_Pl_tellRun_7 : decode b_Pl_tellRun 7 = .ok (.getfield 32, 3) := by decide +kernel
theorem d_Pl_tellRun_10 : decode b_Pl_tellRun 10 = .ok (.invokevirtual 48, 3) := by decide +kernel
theorem d_Pl_tellRun_13 : decode b_Pl_tellRun 13 = .ok (.invokevirtual 146, 3) := by decide +kernel
theorem d_Pl_tellRun_16 : decode b_Pl_tellRun 16 = .ok (.istore 4, 2) := by decide +kernel
theorem d_Pl_tellRun_18 : decode b_Pl_tellRun 18 = .ok (.iload 4, 2) := by decide +kernel
theorem d_Pl_tellRun_20 : decode b_Pl_tellRun 20 = .ok (.ifCond .ne 5, 3) := by decide +kernel
theorem d_Pl_tellRun_23 : decode b_Pl_tellRun 23 = .ok (.iconst (-1), 1) := by decide +kernel
theorem d_Pl_tellRun_24 : decode b_Pl_tellRun 24 = .ok (.ireturn, 1) := by decide +kernel
theorem d_Pl_tellRun_25 : decode b_Pl_tellRun 25 = .ok (.iload_n 3, 1) := by decide +kernel
theorem d_Pl_tellRun_26 : decode b_Pl_tellRun 26 = .ok (.tableswitch 49 0 2 #[26, 36, 46], 26) := by decide +kernel
theorem d_Pl_tellRun_52 : decode b_Pl_tellRun 52 = .ok (.aload_n 0, 1) := by decide +kernel
theorem d_Pl_tellRun_53 : decode b_Pl_tellRun 53 = .ok (.getfield 18, 3) := by decide +kernel
theorem d_Pl_tellRun_56 : decode b_Pl_tellRun 56 = .ok (.iload 4, 2) := by decide +kernel
theorem d_Pl_tellRun_58 : decode b_Pl_tellRun 58 = .ok (.invokevirtual 153, 3) := by decide +kernel
theorem d_Pl_tellRun_61 : decode b_Pl_tellRun 61 = .ok (.ireturn, 1) := by decide +kernel
theorem d_Pl_tellRun_62 : decode b_Pl_tellRun 62 = .ok (.aload_n 0, 1) := by decide +kernel
theorem d_Pl_tellRun_63 : decode b_Pl_tellRun 63 = .ok (.getfield 32, 3) := by decide +kernel
theorem d_Pl_tellRun_66 : decode b_Pl_tellRun 66 = .ok (.iload 4, 2) := by decide +kernel
theorem d_Pl_tellRun_68 : decode b_Pl_tellRun 68 = .ok (.invokevirtual 83, 3) := by decide +kernel
theorem d_Pl_tellRun_71 : decode b_Pl_tellRun 71 = .ok (.ireturn, 1) := by decide +kernel
theorem d_Pl_tellRun_72 : decode b_Pl_tellRun 72 = .ok (.iload 4, 2) := by decide +kernel
theorem d_Pl_tellRun_74 : decode b_Pl_tellRun 74 = .ok (.ireturn, 1) := by decide +kernel
theorem d_Pl_tellRun_75 : decode b_Pl_tellRun 75 = .ok (.iconst (-1), 1) := by decide +kernel
theorem d_Pl_tellRun_76 : decode b_Pl_tellRun 76 = .ok (.ireturn, 1) := by decide +kernel
theorem d_Pl_tellShip_0 : decode b_Pl_tellShip 0 = .ok (.iload_n 2, 1) := by decide +kernel
theorem d_Pl_tellShip_1 : decode b_Pl_tellShip 1 = .ok (.tableswitch 140 0 6 #[43, 52, 61, 70, 91, 112, 130], 43) := by decide +kernel
theorem d_Pl_tellShip_44 : decode b_Pl_tellShip 44 = .ok (.aload_n 0, 1) := by decide +kernel
theorem d_Pl_tellShip_45 : decode b_Pl_tellShip 45 = .ok (.getfield 18, 3) := by decide +kernel
theorem d_Pl_tellShip_48 : decode b_Pl_tellShip 48 = .ok (.iload_n 1, 1) := by decide +kernel
theorem d_Pl_tellShip_49 : decode b_Pl_tellShip 49 = .ok (.invokevirtual 128, 3) := by decide +kernel
theorem d_Pl_tellShip_52 : decode b_Pl_tellShip 52 = .ok (.ireturn, 1) := by decide +kernel
theorem d_Pl_tellShip_53 : decode b_Pl_tellShip 53 = .ok (.aload_n 0, 1) := by decide +kernel
theorem d_Pl_tellShip_54 : decode b_Pl_tellShip 54 = .ok (.getfield 18, 3) := by decide +kernel
theorem d_Pl_tellShip_57 : decode b_Pl_tellShip 57 = .ok (.iload_n 1, 1) := by decide +kernel
theorem d_Pl_tellShip_58 : decode b_Pl_tellShip 58 = .ok (.invokevirtual 131, 3) := by decide +kernel
theorem d_Pl_tellShip_61 : decode b_Pl_tellShip 61 = .ok (.ireturn, 1) := by decide +kernel
theorem d_Pl_tellShip_62 : decode b_Pl_tellShip 62 = .ok (.aload_n 0, 1) := by decide +kernel
theorem d_Pl_tellShip_63 : decode b_Pl_tellShip 63 = .ok (.getfield 18, 3) := by decide +kernel
theorem d_Pl_tellShip_66 : decode b_Pl_tellShip 66 = .ok (.iload_n 1, 1) := by decide +kernel
theorem d_Pl_tellShip_67 : decode b_Pl_tellShip 67 = .ok (.invokevirtual 125, 3) := by decide +kernel
theorem d_Pl_tellShip_70 : decode b_Pl_tellShip 70 = .ok (.ireturn, 1) := by decide +kernel
theorem d_Pl_tellShip_71 : decode b_Pl_tellShip 71 = .ok (.aload_n 0, 1) := by decide +kernel
theorem d_Pl_tellShip_72 : decode b_Pl_tellShip 72 = .ok (.iload_n 1, 1) := by decide +kernel
theorem d_Pl_tellShip_73 : decode b_Pl_tellShip 73 = .ok (.invokevirtual 134, 3) := by decide +kernel
theorem d_Pl_tellShip_76 : decode b_Pl_tellShip 76 = .ok (.ifCond .eq 14, 3) := by decide +kernel
theorem d_Pl_tellShip_79 : decode b_Pl_tellShip 79 = .ok (.aload_n 0, 1) := by decide +kernel
theorem d_Pl_tellShip_80 : decode b_Pl_tellShip 80 = .ok (.getfield 36, 3) := by decide +kernel
theorem d_Pl_tellShip_83 : decode b_Pl_tellShip 83 = .ok (.iload_n 1, 1) := by decide +kernel
theorem d_Pl_tellShip_84 : decode b_Pl_tellShip 84 = .ok (.invokevirtual 137, 3) := by decide +kernel
theorem d_Pl_tellShip_87 : decode b_Pl_tellShip 87 = .ok (.goto 4, 3) := by decide +kernel
theorem d_Pl_tellShip_90 : decode b_Pl_tellShip 90 = .ok (.iconst (-1), 1) := by decide +kernel
theorem d_Pl_tellShip_91 : decode b_Pl_tellShip 91 = .ok (.ireturn, 1) := by decide +kernel
theorem d_Pl_tellShip_92 : decode b_Pl_tellShip 92 = .ok (.aload_n 0, 1) := by decide +kernel
theorem d_Pl_tellShip_93 : decode b_Pl_tellShip 93 = .ok (.iload_n 1, 1) := by decide +kernel
theorem d_Pl_tellShip_94 : decode b_Pl_tellShip 94 = .ok (.invokevirtual 134, 3) := by decide +kernel
theorem d_Pl_tellShip_97 : decode b_Pl_tellShip 97 = .ok (.ifCond .eq 14, 3) := by decide +kernel
theorem d_Pl_tellShip_100 : decode b_Pl_tellShip 100 = .ok (.aload_n 0, 1) := by decide +kernel
theorem d_Pl_tellShip_101 : decode b_Pl_tellShip 101 = .ok (.getfield 36, 3) := by decide +kernel
theorem d_Pl_tellShip_104 : decode b_Pl_tellShip 104 = .ok (.iload_n 1, 1) := by decide +kernel
theorem d_Pl_tellShip_105 : decode b_Pl_tellShip 105 = .ok (.invokevirtual 140, 3) := by decide +kernel
theorem d_Pl_tellShip_108 : decode b_Pl_tellShip 108 = .ok (.goto 4, 3) := by decide +kernel
theorem d_Pl_tellShip_111 : decode b_Pl_tellShip 111 = .ok (.iconst (-1), 1) := by decide +kernel
theorem d_Pl_tellShip_112 : decode b_Pl_tellShip 112 = .ok (.ireturn, 1) := by decide +kernel
theorem d_Pl_tellShip_113 : decode b_Pl_tellShip 113 = .ok (.aload_n 0, 1) := by decide +kernel
theorem d_Pl_tellShip_114 : decode b_Pl_tellShip 114 = .ok (.getfield 18, 3) := by decide +kernel
theorem d_Pl_tellShip_117 : decode b_Pl_tellShip 117 = .ok (.iload_n 1, 1) := by decide +kernel
theorem d_Pl_tellShip_118 : decode b_Pl_tellShip 118 = .ok (.invokevirtual 125, 3) := by decide +kernel
theorem d_Pl_tellShip_121 : decode b_Pl_tellShip 121 = .ok (.aload_n 0, 1) := by decide +kernel
theorem d_Pl_tellShip_122 : decode b_Pl_tellShip 122 = .ok (.getfield 32, 3) := by decide +kernel
theorem d_Pl_tellShip_125 : decode b_Pl_tellShip 125 = .ok (.iload_n 1, 1) := by decide +kernel
theorem d_Pl_tellShip_126 : decode b_Pl_tellShip 126 = .ok (.invokevirtual 143, 3) := by decide +kernel
theorem d_Pl_tellShip_129 : decode b_Pl_tellShip 129 = .ok (.isub, 1) := by decide +kernel
theorem d_Pl_tellShip_130 : decode b_Pl_tellShip 130 = .ok (.ireturn, 1) := by decide +kernel
theorem d_Pl_tellShip_131 : decode b_Pl_tellShip 131 = .ok (.aload_n 0, 1) := by decide +kernel
theorem d_Pl_tellShip_132 : decode b_Pl_tellShip 132 = .ok (.aload_n 0, 1) := by decide +kernel
theorem d_Pl_tellShip_133 : decode b_Pl_tellShip 133 = .ok (.getfield 18, 3) := by decide +kernel
theorem d_Pl_tellShip_136 : decode b_Pl_tellShip 136 = .ok (.iload_n 1, 1) := by decide +kernel
theorem d_Pl_tellShip_137 : decode b_Pl_tellShip 137 = .ok (.invokevirtual 112, 3) := by decide +kernel
theorem d_Pl_tellShip_140 : decode b_Pl_tellShip 140 = .ok (.ireturn, 1) := by decide +kernel
theorem d_Pl_tellShip_141 : decode b_Pl_tellShip 141 = .ok (.iconst (-1), 1) := by decide +kernel
theorem d_Pl_tellShip_142 : decode b_Pl_tellShip 142 = .ok (.ireturn, 1) := by decide +kernel
theorem d_Pl_tryRuns_0 : decode b_Pl_tryRuns 0 = .ok (.aload_n 0, 1) := by decide +kernel
theorem d_Pl_tryRuns_1 : decode b_Pl_tryRuns 1 = .ok (.getfield 40, 3) := by decide +kernel
theorem d_Pl_tryRuns_4 : decode b_Pl_tryRuns 4 = .ok (.ifCond .eq 16, 3) := by decide +kernel
theorem d_Pl_tryRuns_7 : decode b_Pl_tryRuns 7 = .ok (.iload 6, 2) := by decide +kernel
theorem d_Pl_tryRuns_9 : decode b_Pl_tryRuns 9 = .ok (.aload_n 0, 1) := by decide +kernel
theorem d_Pl_tryRuns_10 : decode b_Pl_tryRuns 10 = .ok (.getfield 18, 3) := by decide +kernel
theorem d_Pl_tryRuns_13 : decode b_Pl_tryRuns 13 = .ok (.invokevirtual 44, 3) := by decide +kernel
theorem d_Pl_tryRuns_16 : decode b_Pl_tryRuns 16 = .ok (.if_icmp .le 4, 3) := by decide +kernel
theorem d_Pl_tryRuns_19 : decode b_Pl_tryRuns 19 = .ok (.return_, 1) := by decide +kernel
theorem d_Pl_tryRuns_20 : decode b_Pl_tryRuns 20 = .ok (.iload_n 3, 1) := by decide +kernel
theorem d_Pl_tryRuns_21 : decode b_Pl_tryRuns 21 = .ok (.ifCond .ne 10, 3) := by decide +kernel
theorem d_Pl_tryRuns_24 : decode b_Pl_tryRuns 24 = .ok (.aload_n 0, 1) := by decide +kernel
theorem d_Pl_tryRuns_25 : decode b_Pl_tryRuns 25 = .ok (.iload 6, 2) := by decide +kernel
theorem d_Pl_tryRuns_27 : decode b_Pl_tryRuns 27 = .ok (.invokevirtual 65, 3) := by decide +kernel
theorem d_Pl_tryRuns_30 : decode b_Pl_tryRuns 30 = .ok (.return_, 1) := by decide +kernel
theorem d_Pl_tryRuns_31 : decode b_Pl_tryRuns 31 = .ok (.aload_n 0, 1) := by decide +kernel
theorem d_Pl_tryRuns_32 : decode b_Pl_tryRuns 32 = .ok (.getfield 28, 3) := by decide +kernel
theorem d_Pl_tryRuns_35 : decode b_Pl_tryRuns 35 = .ok (.iload_n 1, 1) := by decide +kernel
theorem d_Pl_tryRuns_36 : decode b_Pl_tryRuns 36 = .ok (.invokevirtual 69, 3) := by decide +kernel
theorem d_Pl_tryRuns_39 : decode b_Pl_tryRuns 39 = .ok (.ifCond .ne 4, 3) := by decide +kernel
theorem d_Pl_tryRuns_42 : decode b_Pl_tryRuns 42 = .ok (.return_, 1) := by decide +kernel
theorem d_Pl_tryRuns_43 : decode b_Pl_tryRuns 43 = .ok (.aload_n 0, 1) := by decide +kernel
theorem d_Pl_tryRuns_44 : decode b_Pl_tryRuns 44 = .ok (.getfield 28, 3) := by decide +kernel
theorem d_Pl_tryRuns_47 : decode b_Pl_tryRuns 47 = .ok (.iload_n 1, 1) := by decide +kernel
theorem d_Pl_tryRuns_48 : decode b_Pl_tryRuns 48 = .ok (.invokevirtual 75, 3) := by decide +kernel
theorem d_Pl_tryRuns_51 : decode b_Pl_tryRuns 51 = .ok (.istore 7, 2) := by decide +kernel
theorem d_Pl_tryRuns_53 : decode b_Pl_tryRuns 53 = .ok (.iconst 1, 1) := by decide +kernel
theorem d_Pl_tryRuns_54 : decode b_Pl_tryRuns 54 = .ok (.istore 8, 2) := by decide +kernel
theorem d_Pl_tryRuns_56 : decode b_Pl_tryRuns 56 = .ok (.iload 8, 2) := by decide +kernel
theorem d_Pl_tryRuns_58 : decode b_Pl_tryRuns 58 = .ok (.bipush 16, 2) := by decide +kernel
theorem d_Pl_tryRuns_60 : decode b_Pl_tryRuns 60 = .ok (.if_icmp .ge 132, 3) := by decide +kernel
theorem d_Pl_tryRuns_63 : decode b_Pl_tryRuns 63 = .ok (.iload 8, 2) := by decide +kernel
theorem d_Pl_tryRuns_65 : decode b_Pl_tryRuns 65 = .ok (.iload_n 3, 1) := by decide +kernel
theorem d_Pl_tryRuns_66 : decode b_Pl_tryRuns 66 = .ok (.iconst (-1), 1) := by decide +kernel
theorem d_Pl_tryRuns_67 : decode b_Pl_tryRuns 67 = .ok (.ixor, 1) := by decide +kernel
theorem d_Pl_tryRuns_68 : decode b_Pl_tryRuns 68 = .ok (.iand, 1) := by decide +kernel
theorem d_Pl_tryRuns_69 : decode b_Pl_tryRuns 69 = .ok (.ifCond .ne 117, 3) := by decide +kernel
theorem d_Pl_tryRuns_72 : decode b_Pl_tryRuns 72 = .ok (.aload_n 0, 1) := by decide +kernel
theorem d_Pl_tryRuns_73 : decode b_Pl_tryRuns 73 = .ok (.iload_n 1, 1) := by decide +kernel
theorem d_Pl_tryRuns_74 : decode b_Pl_tryRuns 74 = .ok (.iload 8, 2) := by decide +kernel
theorem d_Pl_tryRuns_76 : decode b_Pl_tryRuns 76 = .ok (.invokevirtual 79, 3) := by decide +kernel
theorem d_Pl_tryRuns_79 : decode b_Pl_tryRuns 79 = .ok (.ifCond .eq 107, 3) := by decide +kernel
theorem d_Pl_tryRuns_82 : decode b_Pl_tryRuns 82 = .ok (.aload_n 0, 1) := by decide +kernel
theorem d_Pl_tryRuns_83 : decode b_Pl_tryRuns 83 = .ok (.getfield 32, 3) := by decide +kernel
theorem d_Pl_tryRuns_86 : decode b_Pl_tryRuns 86 = .ok (.iload 8, 2) := by decide +kernel
theorem d_Pl_tryRuns_88 : decode b_Pl_tryRuns 88 = .ok (.invokevirtual 83, 3) := by decide +kernel
theorem d_Pl_tryRuns_91 : decode b_Pl_tryRuns 91 = .ok (.istore 9, 2) := by decide +kernel
theorem d_Pl_tryRuns_93 : decode b_Pl_tryRuns 93 = .ok (.iload 5, 2) := by decide +kernel
theorem d_Pl_tryRuns_95 : decode b_Pl_tryRuns 95 = .ok (.iload 9, 2) := by decide +kernel
theorem d_Pl_tryRuns_97 : decode b_Pl_tryRuns 97 = .ok (.if_icmp .ne 8, 3) := by decide +kernel
theorem d_Pl_tryRuns_100 : decode b_Pl_tryRuns 100 = .ok (.iload 4, 2) := by decide +kernel
theorem d_Pl_tryRuns_102 : decode b_Pl_tryRuns 102 = .ok (.goto 8, 3) := by decide +kernel
theorem d_Pl_tryRuns_105 : decode b_Pl_tryRuns 105 = .ok (.iload 4, 2) := by decide +kernel
theorem d_Pl_tryRuns_107 : decode b_Pl_tryRuns 107 = .ok (.iload 7, 2) := by decide +kernel
theorem d_Pl_tryRuns_109 : decode b_Pl_tryRuns 109 = .ok (.iadd, 1) := by decide +kernel
theorem d_Pl_tryRuns_110 : decode b_Pl_tryRuns 110 = .ok (.istore 10, 2) := by decide +kernel
theorem d_Pl_tryRuns_112 : decode b_Pl_tryRuns 112 = .ok (.aload_n 0, 1) := by decide +kernel
theorem d_Pl_tryRuns_113 : decode b_Pl_tryRuns 113 = .ok (.getfield 28, 3) := by decide +kernel
theorem d_Pl_tryRuns_116 : decode b_Pl_tryRuns 116 = .ok (.iload_n 1, 1) := by decide +kernel
theorem d_Pl_tryRuns_117 : decode b_Pl_tryRuns 117 = .ok (.iload 10, 2) := by decide +kernel
theorem d_Pl_tryRuns_119 : decode b_Pl_tryRuns 119 = .ok (.aload_n 0, 1) := by decide +kernel
theorem d_Pl_tryRuns_120 : decode b_Pl_tryRuns 120 = .ok (.getfield 32, 3) := by decide +kernel
theorem d_Pl_tryRuns_123 : decode b_Pl_tryRuns 123 = .ok (.iload 8, 2) := by decide +kernel
theorem d_Pl_tryRuns_125 : decode b_Pl_tryRuns 125 = .ok (.invokevirtual 86, 3) := by decide +kernel
theorem d_Pl_tryRuns_128 : decode b_Pl_tryRuns 128 = .ok (.invokestatic 89, 3) := by decide +kernel
theorem d_Pl_tryRuns_131 : decode b_Pl_tryRuns 131 = .ok (.invokevirtual 95, 3) := by decide +kernel
theorem d_Pl_tryRuns_134 : decode b_Pl_tryRuns 134 = .ok (.istore 11, 2) := by decide +kernel
theorem d_Pl_tryRuns_136 : decode b_Pl_tryRuns 136 = .ok (.aload_n 0, 1) := by decide +kernel
theorem d_Pl_tryRuns_137 : decode b_Pl_tryRuns 137 = .ok (.getfield 12, 3) := by decide +kernel
theorem d_Pl_tryRuns_140 : decode b_Pl_tryRuns 140 = .ok (.iload 8, 2) := by decide +kernel
theorem d_Pl_tryRuns_142 : decode b_Pl_tryRuns 142 = .ok (.iload_n 1, 1) := by decide +kernel
theorem d_Pl_tryRuns_143 : decode b_Pl_tryRuns 143 = .ok (.iload_n 2, 1) := by decide +kernel
theorem d_Pl_tryRuns_144 : decode b_Pl_tryRuns 144 = .ok (.iload 11, 2) := by decide +kernel
theorem d_Pl_tryRuns_146 : decode b_Pl_tryRuns 146 = .ok (.invokevirtual 98, 3) := by decide +kernel
theorem d_Pl_tryRuns_149 : decode b_Pl_tryRuns 149 = .ok (.aload_n 0, 1) := by decide +kernel
theorem d_Pl_tryRuns_150 : decode b_Pl_tryRuns 150 = .ok (.iload_n 1, 1) := by decide +kernel
theorem d_Pl_tryRuns_151 : decode b_Pl_tryRuns 151 = .ok (.iload_n 2, 1) := by decide +kernel
theorem d_Pl_tryRuns_152 : decode b_Pl_tryRuns 152 = .ok (.iconst 1, 1) := by decide +kernel
theorem d_Pl_tryRuns_153 : decode b_Pl_tryRuns 153 = .ok (.iadd, 1) := by decide +kernel
theorem d_Pl_tryRuns_154 : decode b_Pl_tryRuns 154 = .ok (.iload_n 3, 1) := by decide +kernel
theorem d_Pl_tryRuns_155 : decode b_Pl_tryRuns 155 = .ok (.iload 8, 2) := by decide +kernel
theorem d_Pl_tryRuns_157 : decode b_Pl_tryRuns 157 = .ok (.iconst (-1), 1) := by decide +kernel
theorem d_Pl_tryRuns_158 : decode b_Pl_tryRuns 158 = .ok (.ixor, 1) := by decide +kernel
theorem d_Pl_tryRuns_159 : decode b_Pl_tryRuns 159 = .ok (.iand, 1) := by decide +kernel
theorem d_Pl_tryRuns_160 : decode b_Pl_tryRuns 160 = .ok (.iload 11, 2) := by decide +kernel
theorem d_Pl_tryRuns_162 : decode b_Pl_tryRuns 162 = .ok (.iload 7, 2) := by decide +kernel
theorem d_Pl_tryRuns_164 : decode b_Pl_tryRuns 164 = .ok (.iadd, 1) := by decide +kernel
theorem d_Pl_tryRuns_165 : decode b_Pl_tryRuns 165 = .ok (.iconst 1, 1) := by decide +kernel
theorem d_Pl_tryRuns_166 : decode b_Pl_tryRuns 166 = .ok (.iload 9, 2) := by decide +kernel
theorem d_Pl_tryRuns_168 : decode b_Pl_tryRuns 168 = .ok (.isub, 1) := by decide +kernel
theorem d_Pl_tryRuns_169 : decode b_Pl_tryRuns 169 = .ok (.iload 6, 2) := by decide +kernel
