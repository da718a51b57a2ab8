theorem d_LR_chamber_0 : decode b_LR_chamber 0 = .ok (.iload_n 1, 1) := by decide +kernel
theorem d_LR_chamber_1 : decode b_LR_chamber 1 = .ok (.iload_n 2, 1) := by decide +kernel
theorem d_LR_chamber_2 : decode b_LR_chamber 2 = .ok (.invokestatic 41, 3) := by decide +kernel
theorem d_LR_chamber_5 : decode b_LR_chamber 5 = .ok (.ifCond .eq 13, 3) := by decide +kernel
theorem d_LR_chamber_8 : decode b_LR_chamber 8 = .ok (.iload_n 3, 1) := by decide +kernel
theorem d_LR_chamber_9 : decode b_LR_chamber 9 = .ok (.iconst 1, 1) := by decide +kernel
theorem d_LR_chamber_10 : decode b_LR_chamber 10 = .ok (.bipush 60, 2) := by decide +kernel
theorem d_LR_chamber_12 : decode b_LR_chamber 12 = .ok (.invokestatic 45, 3) := by decide +kernel
theorem d_LR_chamber_15 : decode b_LR_chamber 15 = .ok (.ifCond .ne 13, 3) := by decide +kernel
theorem d_LR_chamber_18 : decode b_LR_chamber 18 = .ok (.new 49, 3) := by decide +kernel
theorem d_LR_chamber_21 : decode b_LR_chamber 21 = .ok (.dup, 1) := by decide +kernel
theorem d_LR_chamber_22 : decode b_LR_chamber 22 = .ok (.ldc 51, 2) := by decide +kernel
theorem d_LR_chamber_24 : decode b_LR_chamber 24 = .ok (.invokespecial 53, 3) := by decide +kernel
theorem d_LR_chamber_27 : decode b_LR_chamber 27 = .ok (.athrow, 1) := by decide +kernel
theorem d_LR_chamber_28 : decode b_LR_chamber 28 = .ok (.aload_n 0, 1) := by decide +kernel
theorem d_LR_chamber_29 : decode b_LR_chamber 29 = .ok (.getfield 12, 3) := by decide +kernel
theorem d_LR_chamber_32 : decode b_LR_chamber 32 = .ok (.iload_n 1, 1) := by decide +kernel
theorem d_LR_chamber_33 : decode b_LR_chamber 33 = .ok (.iload_n 2, 1) := by decide +kernel
theorem d_LR_chamber_34 : decode b_LR_chamber 34 = .ok (.iload_n 3, 1) := by decide +kernel
theorem d_LR_chamber_35 : decode b_LR_chamber 35 = .ok (.invokevirtual 56, 3) := by decide +kernel
theorem d_LR_chamber_38 : decode b_LR_chamber 38 = .ok (.istore 4, 2) := by decide +kernel
theorem d_LR_chamber_40 : decode b_LR_chamber 40 = .ok (.iload 4, 2) := by decide +kernel
theorem d_LR_chamber_42 : decode b_LR_chamber 42 = .ok (.iconst (-1), 1) := by decide +kernel
theorem d_LR_chamber_43 : decode b_LR_chamber 43 = .ok (.if_icmp .ne 13, 3) := by decide +kernel
theorem d_LR_chamber_46 : decode b_LR_chamber 46 = .ok (.new 60, 3) := by decide +kernel
theorem d_LR_chamber_49 : decode b_LR_chamber 49 = .ok (.dup, 1) := by decide +kernel
theorem d_LR_chamber_50 : decode b_LR_chamber 50 = .ok (.ldc 62, 2) := by decide +kernel
theorem d_LR_chamber_52 : decode b_LR_chamber 52 = .ok (.invokespecial 64, 3) := by decide +kernel
theorem d_LR_chamber_55 : decode b_LR_chamber 55 = .ok (.athrow, 1) := by decide +kernel
theorem d_LR_chamber_56 : decode b_LR_chamber 56 = .ok (.aload_n 0, 1) := by decide +kernel
theorem d_LR_chamber_57 : decode b_LR_chamber 57 = .ok (.getfield 37, 3) := by decide +kernel
theorem d_LR_chamber_60 : decode b_LR_chamber 60 = .ok (.invokevirtual 65, 3) := by decide +kernel
theorem d_LR_chamber_63 : decode b_LR_chamber 63 = .ok (.iload 4, 2) := by decide +kernel
theorem d_LR_chamber_65 : decode b_LR_chamber 65 = .ok (.ireturn, 1) := by decide +kernel
theorem d_LR_fits_0 : decode b_LR_fits 0 = .ok (.aload_n 0, 1) := by decide +kernel
theorem d_LR_fits_1 : decode b_LR_fits 1 = .ok (.getfield 12, 3) := by decide +kernel
theorem d_LR_fits_4 : decode b_LR_fits 4 = .ok (.iload_n 1, 1) := by decide +kernel
theorem d_LR_fits_5 : decode b_LR_fits 5 = .ok (.invokevirtual 75, 3) := by decide +kernel
theorem d_LR_fits_8 : decode b_LR_fits 8 = .ok (.ifCond .ne 13, 3) := by decide +kernel
theorem d_LR_fits_11 : decode b_LR_fits 11 = .ok (.new 49, 3) := by decide +kernel
theorem d_LR_fits_14 : decode b_LR_fits 14 = .ok (.dup, 1) := by decide +kernel
theorem d_LR_fits_15 : decode b_LR_fits 15 = .ok (.ldc 97, 2) := by decide +kernel
theorem d_LR_fits_17 : decode b_LR_fits 17 = .ok (.invokespecial 53, 3) := by decide +kernel
theorem d_LR_fits_20 : decode b_LR_fits 20 = .ok (.athrow, 1) := by decide +kernel
theorem d_LR_fits_21 : decode b_LR_fits 21 = .ok (.iload_n 2, 1) := by decide +kernel
theorem d_LR_fits_22 : decode b_LR_fits 22 = .ok (.aload_n 0, 1) := by decide +kernel
theorem d_LR_fits_23 : decode b_LR_fits 23 = .ok (.getfield 19, 3) := by decide +kernel
theorem d_LR_fits_26 : decode b_LR_fits 26 = .ok (.invokevirtual 99, 3) := by decide +kernel
theorem d_LR_fits_29 : decode b_LR_fits 29 = .ok (.iconst (-1), 1) := by decide +kernel
theorem d_LR_fits_30 : decode b_LR_fits 30 = .ok (.ixor, 1) := by decide +kernel
theorem d_LR_fits_31 : decode b_LR_fits 31 = .ok (.iand, 1) := by decide +kernel
theorem d_LR_fits_32 : decode b_LR_fits 32 = .ok (.ifCond .eq 13, 3) := by decide +kernel
theorem d_LR_fits_35 : decode b_LR_fits 35 = .ok (.new 49, 3) := by decide +kernel
theorem d_LR_fits_38 : decode b_LR_fits 38 = .ok (.dup, 1) := by decide +kernel
theorem d_LR_fits_39 : decode b_LR_fits 39 = .ok (.ldc 102, 2) := by decide +kernel
theorem d_LR_fits_41 : decode b_LR_fits 41 = .ok (.invokespecial 53, 3) := by decide +kernel
theorem d_LR_fits_44 : decode b_LR_fits 44 = .ok (.athrow, 1) := by decide +kernel
theorem d_LR_fits_45 : decode b_LR_fits 45 = .ok (.aload_n 0, 1) := by decide +kernel
theorem d_LR_fits_46 : decode b_LR_fits 46 = .ok (.getfield 28, 3) := by decide +kernel
theorem d_LR_fits_49 : decode b_LR_fits 49 = .ok (.iload_n 1, 1) := by decide +kernel
theorem d_LR_fits_50 : decode b_LR_fits 50 = .ok (.iload_n 2, 1) := by decide +kernel
theorem d_LR_fits_51 : decode b_LR_fits 51 = .ok (.invokevirtual 104, 3) := by decide +kernel
theorem d_LR_fits_54 : decode b_LR_fits 54 = .ok (.ireturn, 1) := by decide +kernel
theorem d_LR_home_0 : decode b_LR_home 0 = .ok (.aload_n 0, 1) := by decide +kernel
theorem d_LR_home_1 : decode b_LR_home 1 = .ok (.getfield 19, 3) := by decide +kernel
theorem d_LR_home_4 : decode b_LR_home 4 = .ok (.iload_n 1, 1) := by decide +kernel
theorem d_LR_home_5 : decode b_LR_home 5 = .ok (.invokevirtual 107, 3) := by decide +kernel
theorem d_LR_home_8 : decode b_LR_home 8 = .ok (.ifCond .ne 13, 3) := by decide +kernel
theorem d_LR_home_11 : decode b_LR_home 11 = .ok (.new 108, 3) := by decide +kernel
theorem d_LR_home_14 : decode b_LR_home 14 = .ok (.dup, 1) := by decide +kernel
theorem d_LR_home_15 : decode b_LR_home 15 = .ok (.ldc 127, 2) := by decide +kernel
theorem d_LR_home_17 : decode b_LR_home 17 = .ok (.invokespecial 112, 3) := by decide +kernel
theorem d_LR_home_20 : decode b_LR_home 20 = .ok (.athrow, 1) := by decide +kernel
theorem d_LR_home_21 : decode b_LR_home 21 = .ok (.iconst 0, 1) := by decide +kernel
theorem d_LR_home_22 : decode b_LR_home 22 = .ok (.istore_n 2, 1) := by decide +kernel
theorem d_LR_home_23 : decode b_LR_home 23 = .ok (.iload_n 2, 1) := by decide +kernel
theorem d_LR_home_24 : decode b_LR_home 24 = .ok (.aload_n 0, 1) := by decide +kernel
theorem d_LR_home_25 : decode b_LR_home 25 = .ok (.getfield 12, 3) := by decide +kernel
theorem d_LR_home_28 : decode b_LR_home 28 = .ok (.invokevirtual 141, 3) := by decide +kernel
theorem d_LR_home_31 : decode b_LR_home 31 = .ok (.if_icmp .ge 25, 3) := by decide +kernel
theorem d_LR_home_34 : decode b_LR_home 34 = .ok (.aload_n 0, 1) := by decide +kernel
theorem d_LR_home_35 : decode b_LR_home 35 = .ok (.getfield 28, 3) := by decide +kernel
theorem d_LR_home_38 : decode b_LR_home 38 = .ok (.iload_n 2, 1) := by decide +kernel
theorem d_LR_home_39 : decode b_LR_home 39 = .ok (.iconst 1, 1) := by decide +kernel
theorem d_LR_home_40 : decode b_LR_home 40 = .ok (.iload_n 1, 1) := by decide +kernel
theorem d_LR_home_41 : decode b_LR_home 41 = .ok (.ishl, 1) := by decide +kernel
theorem d_LR_home_42 : decode b_LR_home 42 = .ok (.invokevirtual 104, 3) := by decide +kernel
theorem d_LR_home_45 : decode b_LR_home 45 = .ok (.ifCond .eq 5, 3) := by decide +kernel
theorem d_LR_home_48 : decode b_LR_home 48 = .ok (.iload_n 2, 1) := by decide +kernel
theorem d_LR_home_49 : decode b_LR_home 49 = .ok (.ireturn, 1) := by decide +kernel
theorem d_LR_home_50 : decode b_LR_home 50 = .ok (.iinc 2 1, 3) := by decide +kernel
theorem d_LR_home_53 : decode b_LR_home 53 = .ok (.goto (-30), 3) := by decide +kernel
theorem d_LR_home_56 : decode b_LR_home 56 = .ok (.iconst (-1), 1) := by decide +kernel
theorem d_LR_home_57 : decode b_LR_home 57 = .ok (.ireturn, 1) := by decide +kernel
theorem d_LR_late_0 : decode b_LR_late 0 = .ok (.aload_n 0, 1) := by decide +kernel
theorem d_LR_late_1 : decode b_LR_late 1 = .ok (.getfield 19, 3) := by decide +kernel
theorem d_LR_late_4 : decode b_LR_late 4 = .ok (.iload_n 1, 1) := by decide +kernel
theorem d_LR_late_5 : decode b_LR_late 5 = .ok (.invokevirtual 107, 3) := by decide +kernel
theorem d_LR_late_8 : decode b_LR_late 8 = .ok (.ifCond .ne 13, 3) := by decide +kernel
theorem d_LR_late_11 : decode b_LR_late 11 = .ok (.new 108, 3) := by decide +kernel
theorem d_LR_late_14 : decode b_LR_late 14 = .ok (.dup, 1) := by decide +kernel
theorem d_LR_late_15 : decode b_LR_late 15 = .ok (.ldc 127, 2) := by decide +kernel
theorem d_LR_late_17 : decode b_LR_late 17 = .ok (.invokespecial 112, 3) := by decide +kernel
theorem d_LR_late_20 : decode b_LR_late 20 = .ok (.athrow, 1) := by decide +kernel
theorem d_LR_late_21 : decode b_LR_late 21 = .ok (.iload_n 2, 1) := by decide +kernel
theorem d_LR_late_22 : decode b_LR_late 22 = .ok (.iconst 0, 1) := by decide +kernel
theorem d_LR_late_23 : decode b_LR_late 23 = .ok (.sipush 1000, 3) := by decide +kernel
theorem d_LR_late_26 : decode b_LR_late 26 = .ok (.invokestatic 45, 3) := by decide +kernel
theorem d_LR_late_29 : decode b_LR_late 29 = .ok (.ifCond .ne 13, 3) := by decide +kernel
theorem d_LR_late_32 : decode b_LR_late 32 = .ok (.new 49, 3) := by decide +kernel
theorem d_LR_late_35 : decode b_LR_late 35 = .ok (.dup, 1) := by decide +kernel
theorem d_LR_late_36 : decode b_LR_late 36 = .ok (.ldc 129, 2) := by decide +kernel
theorem d_LR_late_38 : decode b_LR_late 38 = .ok (.invokespecial 53, 3) := by decide +kernel
theorem d_LR_late_41 : decode b_LR_late 41 = .ok (.athrow, 1) := by decide +kernel
theorem d_LR_late_42 : decode b_LR_late 42 = .ok (.aload_n 0, 1) := by decide +kernel
theorem d_LR_late_43 : decode b_LR_late 43 = .ok (.getfield 37, 3) := by decide +kernel
theorem d_LR_late_46 : decode b_LR_late 46 = .ok (.invokevirtual 113, 3) := by decide +kernel
theorem d_LR_late_49 : decode b_LR_late 49 = .ok (.ifCond .ne 13, 3) := by decide +kernel
theorem d_LR_late_52 : decode b_LR_late 52 = .ok (.new 60, 3) := by decide +kernel
theorem d_LR_late_55 : decode b_LR_late 55 = .ok (.dup, 1) := by decide +kernel
theorem d_LR_late_56 : decode b_LR_late 56 = .ok (.ldc 116, 2) := by decide +kernel
theorem d_LR_late_58 : decode b_LR_late 58 = .ok (.invokespecial 64, 3) := by decide +kernel
theorem d_LR_late_61 : decode b_LR_late 61 = .ok (.athrow, 1) := by decide +kernel
theorem d_LR_late_62 : decode b_LR_late 62 = .ok (.aload_n 0, 1) := by decide +kernel
theorem d_LR_late_63 : decode b_LR_late 63 = .ok (.getfield 37, 3) := by decide +kernel
theorem d_LR_late_66 : decode b_LR_late 66 = .ok (.invokevirtual 131, 3) := by decide +kernel
theorem d_LR_late_69 : decode b_LR_late 69 = .ok (.aload_n 0, 1) := by decide +kernel
theorem d_LR_late_70 : decode b_LR_late 70 = .ok (.getfield 19, 3) := by decide +kernel
theorem d_LR_late_73 : decode b_LR_late 73 = .ok (.iload_n 1, 1) := by decide +kernel
theorem d_LR_late_74 : decode b_LR_late 74 = .ok (.iload_n 2, 1) := by decide +kernel
theorem d_LR_late_75 : decode b_LR_late 75 = .ok (.invokevirtual 134, 3) := by decide +kernel
theorem d_LR_late_78 : decode b_LR_late 78 = .ok (.aload_n 0, 1) := by decide +kernel
theorem d_LR_late_79 : decode b_LR_late 79 = .ok (.getfield 37, 3) := by decide +kernel
theorem d_LR_late_82 : decode b_LR_late 82 = .ok (.invokevirtual 89, 3) := by decide +kernel
theorem d_LR_late_85 : decode b_LR_late 85 = .ok (.ifCond .eq 13, 3) := by decide +kernel
theorem d_LR_late_88 : decode b_LR_late 88 = .ok (.aload_n 0, 1) := by decide +kernel
theorem d_LR_late_89 : decode b_LR_late 89 = .ok (.getfield 37, 3) := by decide +kernel
theorem d_LR_late_92 : decode b_LR_late 92 = .ok (.invokevirtual 138, 3) := by decide +kernel
theorem d_LR_late_95 : decode b_LR_late 95 = .ok (.goto 4, 3) := by decide +kernel
theorem d_LR_late_98 : decode b_LR_late 98 = .ok (.iconst (-1), 1) := by decide +kernel
theorem d_LR_late_99 : decode b_LR_late 99 = .ok (.ireturn, 1) := by decide +kernel
theorem d_LR_of_0 : decode b_LR_of 0 = .ok (.aload_n 0, 1) := by decide +kernel
theorem d_LR_of_1 : decode b_LR_of 1 = .ok (.getfield 19, 3) := by decide +kernel
theorem d_LR_of_4 : decode b_LR_of 4 = .ok (.iload_n 1, 1) := by decide +kernel
theorem d_LR_of_5 : decode b_LR_of 5 = .ok (.invokevirtual 107, 3) := by decide +kernel
theorem d_LR_of_8 : decode b_LR_of 8 = .ok (.ifCond .eq 13, 3) := by decide +kernel
theorem d_LR_of_11 : decode b_LR_of 11 = .ok (.iload_n 2, 1) := by decide +kernel
theorem d_LR_of_12 : decode b_LR_of 12 = .ok (.iconst 0, 1) := by decide +kernel
theorem d_LR_of_13 : decode b_LR_of 13 = .ok (.bipush 6, 2) := by decide +kernel
theorem d_LR_of_15 : decode b_LR_of 15 = .ok (.invokestatic 45, 3) := by decide +kernel
theorem d_LR_of_18 : decode b_LR_of 18 = .ok (.ifCond .ne 13, 3) := by decide +kernel
theorem d_LR_of_21 : decode b_LR_of 21 = .ok (.new 108, 3) := by decide +kernel
theorem d_LR_of_24 : decode b_LR_of 24 = .ok (.dup, 1) := by decide +kernel
theorem d_LR_of_25 : decode b_LR_of 25 = .ok (.ldc 110, 2) := by decide +kernel
theorem d_LR_of_27 : decode b_LR_of 27 = .ok (.invokespecial 112, 3) := by decide +kernel
theorem d_LR_of_30 : decode b_LR_of 30 = .ok (.athrow, 1) := by decide +kernel
theorem d_LR_of_31 : decode b_LR_of 31 = .ok (.aload_n 0, 1) := by decide +kernel
theorem d_LR_of_32 : decode b_LR_of 32 = .ok (.getfield 37, 3) := by decide +kernel
theorem d_LR_of_35 : decode b_LR_of 35 = .ok (.invokevirtual 113, 3) := by decide +kernel
theorem d_LR_of_38 : decode b_LR_of 38 = .ok (.ifCond .ne 13, 3) := by decide +kernel
theorem d_LR_of_41 : decode b_LR_of 41 = .ok (.new 60, 3) := by decide +kernel
theorem d_LR_of_44 : decode b_LR_of 44 = .ok (.dup, 1) := by decide +kernel
theorem d_LR_of_45 : decode b_LR_of 45 = .ok (.ldc 116, 2) := by decide +kernel
theorem d_LR_of_47 : decode b_LR_of 47 = .ok (.invokespecial 64, 3) := by decide +kernel
theorem d_LR_of_50 : decode b_LR_of 50 = .ok (.athrow, 1) := by decide +kernel
theorem d_LR_of_51 : decode b_LR_of 51 = .ok (.aload_n 0, 1) := by decide +kernel
theorem d_LR_of_52 : decode b_LR_of 52 = .ok (.getfield 37, 3) := by decide +kernel
theorem d_LR_of_55 : decode b_LR_of 55 = .ok (.iload_n 1, 1) := by decide +kernel
theorem d_LR_of_56 : decode b_LR_of 56 = .ok (.iload_n 2, 1) := by decide +kernel
theorem d_LR_of_57 : decode b_LR_of 57 = .ok (.invokevirtual 118, 3) := by decide +kernel
theorem d_LR_of_60 : decode b_LR_of 60 = .ok (.ireturn, 1) := by decide +kernel
theorem d_LR_rate_0 : decode b_LR_rate 0 = .ok (.iload_n 1, 1) := by decide +kernel
theorem d_LR_rate_1 : decode b_LR_rate 1 = .ok (.iconst 0, 1) := by decide +kernel
theorem d_LR_rate_2 : decode b_LR_rate 2 = .ok (.sipush 1000, 3) := by decide +kernel
theorem d_LR_rate_5 : decode b_LR_rate 5 = .ok (.invokestatic 45, 3) := by decide +kernel
theorem d_LR_rate_8 : decode b_LR_rate 8 = .ok (.ifCond .eq 14, 3) := by decide +kernel
theorem d_LR_rate_11 : decode b_LR_rate 11 = .ok (.iload_n 2, 1) := by decide +kernel
theorem d_LR_rate_12 : decode b_LR_rate 12 = .ok (.iconst 0, 1) := by decide +kernel
theorem d_LR_rate_13 : decode b_LR_rate 13 = .ok (.sipush 1000, 3) := by decide +kernel
theorem d_LR_rate_16 : decode b_LR_rate 16 = .ok (.invokestatic 45, 3) := by decide +kernel
theorem d_LR_rate_19 : decode b_LR_rate 19 = .ok (.ifCond .ne 13, 3) := by decide +kernel
theorem d_LR_rate_22 : decode b_LR_rate 22 = .ok (.new 49, 3) := by decide +kernel
theorem d_LR_rate_25 : decode b_LR_rate 25 = .ok (.dup, 1) := by decide +kernel
theorem d_LR_rate_26 : decode b_LR_rate 26 = .ok (.ldc 144, 2) := by decide +kernel
theorem d_LR_rate_28 : decode b_LR_rate 28 = .ok (.invokespecial 53, 3) := by decide +kernel
theorem d_LR_rate_31 : decode b_LR_rate 31 = .ok (.athrow, 1) := by decide +kernel
theorem d_LR_rate_32 : decode b_LR_rate 32 = .ok (.iload_n 2, 1) := by decide +kernel
theorem d_LR_rate_33 : decode b_LR_rate 33 = .ok (.ifCond .ne 13, 3) := by decide +kernel
theorem d_LR_rate_36 : decode b_LR_rate 36 = .ok (.new 146, 3) := by decide +kernel
theorem d_LR_rate_39 : decode b_LR_rate 39 = .ok (.dup, 1) := by decide +kernel
theorem d_LR_rate_40 : decode b_LR_rate 40 = .ok (.ldc 148, 2) := by decide +kernel
theorem d_LR_rate_42 : decode b_LR_rate 42 = .ok (.invokespecial 150, 3) := by decide +kernel
theorem d_LR_rate_45 : decode b_LR_rate 45 = .ok (.athrow, 1) := by decide +kernel
theorem d_LR_rate_46 : decode b_LR_rate 46 = .ok (.bipush 60, 2) := by decide +kernel
theorem d_LR_rate_48 : decode b_LR_rate 48 = .ok (.iload_n 1, 1) := by decide +kernel
theorem d_LR_rate_49 : decode b_LR_rate 49 = .ok (.imul, 1) := by decide +kernel
theorem d_LR_rate_50 : decode b_LR_rate 50 = .ok (.iload_n 2, 1) := by decide +kernel
theorem d_LR_rate_51 : decode b_LR_rate 51 = .ok (.idiv, 1) := by decide +kernel
theorem d_LR_rate_52 : decode b_LR_rate 52 = .ok (.ireturn, 1) := by decide +kernel
theorem d_LR_run_0 : decode b_LR_run 0 = .ok (.aload_n 0, 1) := by decide +kernel
theorem d_LR_run_1 : decode b_LR_run 1 = .ok (.getfield 12, 3) := by decide +kernel
theorem d_LR_run_4 : decode b_LR_run 4 = .ok (.iload_n 1, 1) := by decide +kernel
theorem d_LR_run_5 : decode b_LR_run 5 = .ok (.invokevirtual 75, 3) := by decide +kernel
theorem d_LR_run_8 : decode b_LR_run 8 = .ok (.ifCond .eq 12, 3) := by decide +kernel
theorem d_LR_run_11 : decode b_LR_run 11 = .ok (.iload_n 3, 1) := by decide +kernel
theorem d_LR_run_12 : decode b_LR_run 12 = .ok (.iconst 0, 1) := by decide +kernel
theorem d_LR_run_13 : decode b_LR_run 13 = .ok (.iconst 2, 1) := by decide +kernel
theorem d_LR_run_14 : decode b_LR_run 14 = .ok (.invokestatic 45, 3) := by decide +kernel
theorem d_LR_run_17 : decode b_LR_run 17 = .ok (.ifCond .ne 13, 3) := by decide +kernel
theorem d_LR_run_20 : decode b_LR_run 20 = .ok (.new 108, 3) := by decide +kernel
theorem d_LR_run_23 : decode b_LR_run 23 = .ok (.dup, 1) := by decide +kernel
theorem d_LR_run_24 : decode b_LR_run 24 = .ok (.ldc 122, 2) := by decide +kernel
theorem d_LR_run_26 : decode b_LR_run 26 = .ok (.invokespecial 112, 3) := by decide +kernel
theorem d_LR_run_29 : decode b_LR_run 29 = .ok (.athrow, 1) := by decide +kernel
theorem d_LR_run_30 : decode b_LR_run 30 = .ok (.aload_n 0, 1) := by decide +kernel
theorem d_LR_run_31 : decode b_LR_run 31 = .ok (.getfield 37, 3) := by decide +kernel
theorem d_LR_run_34 : decode b_LR_run 34 = .ok (.invokevirtual 113, 3) := by decide +kernel
theorem d_LR_run_37 : decode b_LR_run 37 = .ok (.ifCond .ne 13, 3) := by decide +kernel
theorem d_LR_run_40 : decode b_LR_run 40 = .ok (.new 60, 3) := by decide +kernel
theorem d_LR_run_43 : decode b_LR_run 43 = .ok (.dup, 1) := by decide +kernel
theorem d_LR_run_44 : decode b_LR_run 44 = .ok (.ldc 116, 2) := by decide +kernel
theorem d_LR_run_46 : decode b_LR_run 46 = .ok (.invokespecial 64, 3) := by decide +kernel
theorem d_LR_run_49 : decode b_LR_run 49 = .ok (.athrow, 1) := by decide +kernel
theorem d_LR_run_50 : decode b_LR_run 50 = .ok (.aload_n 0, 1) := by decide +kernel
theorem d_LR_run_51 : decode b_LR_run 51 = .ok (.getfield 37, 3) := by decide +kernel
theorem d_LR_run_54 : decode b_LR_run 54 = .ok (.iload_n 1, 1) := by decide +kernel
theorem d_LR_run_55 : decode b_LR_run 55 = .ok (.iload_n 2, 1) := by decide +kernel
theorem d_LR_run_56 : decode b_LR_run 56 = .ok (.iload_n 3, 1) := by decide +kernel
theorem d_LR_run_57 : decode b_LR_run 57 = .ok (.invokevirtual 124, 3) := by decide +kernel
theorem d_LR_run_60 : decode b_LR_run 60 = .ok (.ireturn, 1) := by decide +kernel
theorem d_LR_ship_0 : decode b_LR_ship 0 = .ok (.iload_n 1, 1) := by decide +kernel
theorem d_LR_ship_1 : decode b_LR_ship 1 = .ok (.iload_n 2, 1) := by decide +kernel
theorem d_LR_ship_2 : decode b_LR_ship 2 = .ok (.invokestatic 41, 3) := by decide +kernel
theorem d_LR_ship_5 : decode b_LR_ship 5 = .ok (.ifCond .eq 34, 3) := by decide +kernel
theorem d_LR_ship_8 : decode b_LR_ship 8 = .ok (.iload_n 3, 1) := by decide +kernel
theorem d_LR_ship_9 : decode b_LR_ship 9 = .ok (.iconst 0, 1) := by decide +kernel
theorem d_LR_ship_10 : decode b_LR_ship 10 = .ok (.sipush 1000, 3) := by decide +kernel
theorem d_LR_ship_13 : decode b_LR_ship 13 = .ok (.invokestatic 45, 3) := by decide +kernel
theorem d_LR_ship_16 : decode b_LR_ship 16 = .ok (.ifCond .eq 23, 3) := by decide +kernel
theorem d_LR_ship_19 : decode b_LR_ship 19 = .ok (.iload 4, 2) := by decide +kernel
theorem d_LR_ship_21 : decode b_LR_ship 21 = .ok (.iconst 0, 1) := by decide +kernel
theorem d_LR_ship_22 : decode b_LR_ship 22 = .ok (.iconst 1, 1) := by decide +kernel
theorem d_LR_ship_23 : decode b_LR_ship 23 = .ok (.invokestatic 45, 3) := by decide +kernel
theorem d_LR_ship_26 : decode b_LR_ship 26 = .ok (.ifCond .eq 13, 3) := by decide +kernel
theorem d_LR_ship_29 : decode b_LR_ship 29 = .ok (.iload 5, 2) := by decide +kernel
theorem d_LR_ship_31 : decode b_LR_ship 31 = .ok (.iconst 0, 1) := by decide +kernel
theorem d_LR_ship_32 : decode b_LR_ship 32 = .ok (.iconst 2, 1) := by decide +kernel
theorem d_LR_ship_33 : decode b_LR_ship 33 = .ok (.invokestatic 45, 3) := by decide +kernel
theorem d_LR_ship_36 : decode b_LR_ship 36 = .ok (.ifCond .ne 13, 3) := by decide +kernel
theorem d_LR_ship_39 : decode b_LR_ship 39 = .ok (.new 49, 3) := by decide +kernel
theorem d_LR_ship_42 : decode b_LR_ship 42 = .ok (.dup, 1) := by decide +kernel
theorem d_LR_ship_43 : decode b_LR_ship 43 = .ok (.ldc 68, 2) := by decide +kernel
theorem d_LR_ship_45 : decode b_LR_ship 45 = .ok (.invokespecial 53, 3) := by decide +kernel
theorem d_LR_ship_48 : decode b_LR_ship 48 = .ok (.athrow, 1) := by decide +kernel
theorem d_LR_ship_49 : decode b_LR_ship 49 = .ok (.aload_n 0, 1) := by decide +kernel
theorem d_LR_ship_50 : decode b_LR_ship 50 = .ok (.getfield 19, 3) := by decide +kernel
theorem d_LR_ship_53 : decode b_LR_ship 53 = .ok (.iload_n 1, 1) := by decide +kernel
theorem d_LR_ship_54 : decode b_LR_ship 54 = .ok (.iload_n 2, 1) := by decide +kernel
theorem d_LR_ship_55 : decode b_LR_ship 55 = .ok (.iload_n 3, 1) := by decide +kernel
theorem d_LR_ship_56 : decode b_LR_ship 56 = .ok (.iload 4, 2) := by decide +kernel
theorem d_LR_ship_58 : decode b_LR_ship 58 = .ok (.iload 5, 2) := by decide +kernel
theorem d_LR_ship_60 : decode b_LR_ship 60 = .ok (.invokevirtual 70, 3) := by decide +kernel
theorem d_LR_ship_63 : decode b_LR_ship 63 = .ok (.istore 6, 2) := by decide +kernel
theorem d_LR_ship_65 : decode b_LR_ship 65 = .ok (.iload 6, 2) := by decide +kernel
theorem d_LR_ship_67 : decode b_LR_ship 67 = .ok (.iconst (-1), 1) := by decide +kernel
theorem d_LR_ship_68 : decode b_LR_ship 68 = .ok (.if_icmp .ne 13, 3) := by decide +kernel
theorem d_LR_ship_71 : decode b_LR_ship 71 = .ok (.new 60, 3) := by decide +kernel
theorem d_LR_ship_74 : decode b_LR_ship 74 = .ok (.dup, 1) := by decide +kernel
theorem d_LR_ship_75 : decode b_LR_ship 75 = .ok (.ldc 73, 2) := by decide +kernel
theorem d_LR_ship_77 : decode b_LR_ship 77 = .ok (.invokespecial 64, 3) := by decide +kernel
theorem d_LR_ship_80 : decode b_LR_ship 80 = .ok (.athrow, 1) := by decide +kernel
theorem d_LR_ship_81 : decode b_LR_ship 81 = .ok (.aload_n 0, 1) := by decide +kernel
theorem d_LR_ship_82 : decode b_LR_ship 82 = .ok (.getfield 37, 3) := by decide +kernel
theorem d_LR_ship_85 : decode b_LR_ship 85 = .ok (.invokevirtual 65, 3) := by decide +kernel
theorem d_LR_ship_88 : decode b_LR_ship 88 = .ok (.iload 6, 2) := by decide +kernel
theorem d_LR_ship_90 : decode b_LR_ship 90 = .ok (.ireturn, 1) := by decide +kernel
