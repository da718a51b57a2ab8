theorem d_LR_canMeasure_0 : decode b_LR_canMeasure 0 = .ok (.iload_n 0, 1) := by decide +kernel
theorem d_LR_canMeasure_1 : decode b_LR_canMeasure 1 = .ok (.iconst 1, 1) := by decide +kernel
theorem d_LR_canMeasure_2 : decode b_LR_canMeasure 2 = .ok (.bipush 8, 2) := by decide +kernel
theorem d_LR_canMeasure_4 : decode b_LR_canMeasure 4 = .ok (.invokestatic 45, 3) := by decide +kernel
theorem d_LR_canMeasure_7 : decode b_LR_canMeasure 7 = .ok (.ifCond .eq 16, 3) := by decide +kernel
theorem d_LR_canMeasure_10 : decode b_LR_canMeasure 10 = .ok (.iload_n 1, 1) := by decide +kernel
theorem d_LR_canMeasure_11 : decode b_LR_canMeasure 11 = .ok (.iconst 1, 1) := by decide +kernel
theorem d_LR_canMeasure_12 : decode b_LR_canMeasure 12 = .ok (.iconst 3, 1) := by decide +kernel
theorem d_LR_canMeasure_13 : decode b_LR_canMeasure 13 = .ok (.invokestatic 45, 3) := by decide +kernel
theorem d_LR_canMeasure_16 : decode b_LR_canMeasure 16 = .ok (.ifCond .eq 7, 3) := by decide +kernel
theorem d_LR_canMeasure_19 : decode b_LR_canMeasure 19 = .ok (.iconst 1, 1) := by decide +kernel
theorem d_LR_canMeasure_20 : decode b_LR_canMeasure 20 = .ok (.goto 4, 3) := by decide +kernel
theorem d_LR_canMeasure_23 : decode b_LR_canMeasure 23 = .ok (.iconst 0, 1) := by decide +kernel
theorem d_LR_canMeasure_24 : decode b_LR_canMeasure 24 = .ok (.ireturn, 1) := by decide +kernel
theorem d_LR_closed_0 : decode b_LR_closed 0 = .ok (.aload_n 0, 1) := by decide +kernel
theorem d_LR_closed_1 : decode b_LR_closed 1 = .ok (.getfield 12, 3) := by decide +kernel
theorem d_LR_closed_4 : decode b_LR_closed 4 = .ok (.iload_n 1, 1) := by decide +kernel
theorem d_LR_closed_5 : decode b_LR_closed 5 = .ok (.invokevirtual 75, 3) := by decide +kernel
theorem d_LR_closed_8 : decode b_LR_closed 8 = .ok (.ifCond .eq 19, 3) := by decide +kernel
theorem d_LR_closed_11 : decode b_LR_closed 11 = .ok (.iload_n 2, 1) := by decide +kernel
theorem d_LR_closed_12 : decode b_LR_closed 12 = .ok (.ifCond .lt 15, 3) := by decide +kernel
theorem d_LR_closed_15 : decode b_LR_closed 15 = .ok (.iload_n 2, 1) := by decide +kernel
theorem d_LR_closed_16 : decode b_LR_closed 16 = .ok (.iload_n 3, 1) := by decide +kernel
theorem d_LR_closed_17 : decode b_LR_closed 17 = .ok (.if_icmp .ge 10, 3) := by decide +kernel
theorem d_LR_closed_20 : decode b_LR_closed 20 = .ok (.iload_n 3, 1) := by decide +kernel
theorem d_LR_closed_21 : decode b_LR_closed 21 = .ok (.sipush 10000, 3) := by decide +kernel
theorem d_LR_closed_24 : decode b_LR_closed 24 = .ok (.if_icmp .le 5, 3) := by decide +kernel
theorem d_LR_closed_27 : decode b_LR_closed 27 = .ok (.iconst 0, 1) := by decide +kernel
theorem d_LR_closed_28 : decode b_LR_closed 28 = .ok (.ireturn, 1) := by decide +kernel
theorem d_LR_closed_29 : decode b_LR_closed 29 = .ok (.aload_n 0, 1) := by decide +kernel
theorem d_LR_closed_30 : decode b_LR_closed 30 = .ok (.getfield 12, 3) := by decide +kernel
theorem d_LR_closed_33 : decode b_LR_closed 33 = .ok (.iload_n 1, 1) := by decide +kernel
theorem d_LR_closed_34 : decode b_LR_closed 34 = .ok (.iload_n 2, 1) := by decide +kernel
theorem d_LR_closed_35 : decode b_LR_closed 35 = .ok (.iload_n 3, 1) := by decide +kernel
theorem d_LR_closed_36 : decode b_LR_closed 36 = .ok (.invokevirtual 79, 3) := by decide +kernel
theorem d_LR_closed_39 : decode b_LR_closed 39 = .ok (.ifCond .ne 5, 3) := by decide +kernel
theorem d_LR_closed_42 : decode b_LR_closed 42 = .ok (.iconst 0, 1) := by decide +kernel
theorem d_LR_closed_43 : decode b_LR_closed 43 = .ok (.ireturn, 1) := by decide +kernel
theorem d_LR_closed_44 : decode b_LR_closed 44 = .ok (.aload_n 0, 1) := by decide +kernel
theorem d_LR_closed_45 : decode b_LR_closed 45 = .ok (.getfield 37, 3) := by decide +kernel
theorem d_LR_closed_48 : decode b_LR_closed 48 = .ok (.invokevirtual 65, 3) := by decide +kernel
theorem d_LR_closed_51 : decode b_LR_closed 51 = .ok (.iconst 1, 1) := by decide +kernel
theorem d_LR_closed_52 : decode b_LR_closed 52 = .ok (.ireturn, 1) := by decide +kernel
theorem d_LR_count_0 : decode b_LR_count 0 = .ok (.iload_n 1, 1) := by decide +kernel
theorem d_LR_count_1 : decode b_LR_count 1 = .ok (.tableswitch 115 0 7 #[47, 55, 63, 71, 87, 95, 103, 109], 47) := by decide +kernel
theorem d_LR_count_48 : decode b_LR_count 48 = .ok (.aload_n 0, 1) := by decide +kernel
theorem d_LR_count_49 : decode b_LR_count 49 = .ok (.getfield 12, 3) := by decide +kernel
theorem d_LR_count_52 : decode b_LR_count 52 = .ok (.invokevirtual 141, 3) := by decide +kernel
theorem d_LR_count_55 : decode b_LR_count 55 = .ok (.ireturn, 1) := by decide +kernel
theorem d_LR_count_56 : decode b_LR_count 56 = .ok (.aload_n 0, 1) := by decide +kernel
theorem d_LR_count_57 : decode b_LR_count 57 = .ok (.getfield 19, 3) := by decide +kernel
theorem d_LR_count_60 : decode b_LR_count 60 = .ok (.invokevirtual 151, 3) := by decide +kernel
theorem d_LR_count_63 : decode b_LR_count 63 = .ok (.ireturn, 1) := by decide +kernel
theorem d_LR_count_64 : decode b_LR_count 64 = .ok (.aload_n 0, 1) := by decide +kernel
theorem d_LR_count_65 : decode b_LR_count 65 = .ok (.getfield 12, 3) := by decide +kernel
theorem d_LR_count_68 : decode b_LR_count 68 = .ok (.invokevirtual 152, 3) := by decide +kernel
theorem d_LR_count_71 : decode b_LR_count 71 = .ok (.ireturn, 1) := by decide +kernel
theorem d_LR_count_72 : decode b_LR_count 72 = .ok (.aload_n 0, 1) := by decide +kernel
theorem d_LR_count_73 : decode b_LR_count 73 = .ok (.getfield 37, 3) := by decide +kernel
theorem d_LR_count_76 : decode b_LR_count 76 = .ok (.invokevirtual 113, 3) := by decide +kernel
theorem d_LR_count_79 : decode b_LR_count 79 = .ok (.ifCond .eq 7, 3) := by decide +kernel
theorem d_LR_count_82 : decode b_LR_count 82 = .ok (.iconst 1, 1) := by decide +kernel
theorem d_LR_count_83 : decode b_LR_count 83 = .ok (.goto 4, 3) := by decide +kernel
theorem d_LR_count_86 : decode b_LR_count 86 = .ok (.iconst 0, 1) := by decide +kernel
theorem d_LR_count_87 : decode b_LR_count 87 = .ok (.ireturn, 1) := by decide +kernel
theorem d_LR_count_88 : decode b_LR_count 88 = .ok (.aload_n 0, 1) := by decide +kernel
theorem d_LR_count_89 : decode b_LR_count 89 = .ok (.getfield 28, 3) := by decide +kernel
theorem d_LR_count_92 : decode b_LR_count 92 = .ok (.invokevirtual 155, 3) := by decide +kernel
theorem d_LR_count_95 : decode b_LR_count 95 = .ok (.ireturn, 1) := by decide +kernel
theorem d_LR_count_96 : decode b_LR_count 96 = .ok (.aload_n 0, 1) := by decide +kernel
theorem d_LR_count_97 : decode b_LR_count 97 = .ok (.getfield 37, 3) := by decide +kernel
theorem d_LR_count_100 : decode b_LR_count 100 = .ok (.invokevirtual 158, 3) := by decide +kernel
theorem d_LR_count_103 : decode b_LR_count 103 = .ok (.ireturn, 1) := by decide +kernel
theorem d_LR_count_104 : decode b_LR_count 104 = .ok (.aload_n 0, 1) := by decide +kernel
theorem d_LR_count_105 : decode b_LR_count 105 = .ok (.iconst 0, 1) := by decide +kernel
theorem d_LR_count_106 : decode b_LR_count 106 = .ok (.invokevirtual 161, 3) := by decide +kernel
theorem d_LR_count_109 : decode b_LR_count 109 = .ok (.ireturn, 1) := by decide +kernel
theorem d_LR_count_110 : decode b_LR_count 110 = .ok (.aload_n 0, 1) := by decide +kernel
theorem d_LR_count_111 : decode b_LR_count 111 = .ok (.iconst 1, 1) := by decide +kernel
theorem d_LR_count_112 : decode b_LR_count 112 = .ok (.invokevirtual 161, 3) := by decide +kernel
theorem d_LR_count_115 : decode b_LR_count 115 = .ok (.ireturn, 1) := by decide +kernel
theorem d_LR_count_116 : decode b_LR_count 116 = .ok (.iconst (-1), 1) := by decide +kernel
theorem d_LR_count_117 : decode b_LR_count 117 = .ok (.ireturn, 1) := by decide +kernel
theorem d_LR_holds_0 : decode b_LR_holds 0 = .ok (.iload_n 0, 1) := by decide +kernel
theorem d_LR_holds_1 : decode b_LR_holds 1 = .ok (.iconst 1, 1) := by decide +kernel
theorem d_LR_holds_2 : decode b_LR_holds 2 = .ok (.iload_n 1, 1) := by decide +kernel
theorem d_LR_holds_3 : decode b_LR_holds 3 = .ok (.ishl, 1) := by decide +kernel
theorem d_LR_holds_4 : decode b_LR_holds 4 = .ok (.iand, 1) := by decide +kernel
theorem d_LR_holds_5 : decode b_LR_holds 5 = .ok (.ifCond .eq 7, 3) := by decide +kernel
theorem d_LR_holds_8 : decode b_LR_holds 8 = .ok (.iconst 1, 1) := by decide +kernel
theorem d_LR_holds_9 : decode b_LR_holds 9 = .ok (.goto 4, 3) := by decide +kernel
theorem d_LR_holds_12 : decode b_LR_holds 12 = .ok (.iconst 0, 1) := by decide +kernel
theorem d_LR_holds_13 : decode b_LR_holds 13 = .ok (.ireturn, 1) := by decide +kernel
theorem d_LR_plan_0 : decode b_LR_plan 0 = .ok (.aload_n 0, 1) := by decide +kernel
theorem d_LR_plan_1 : decode b_LR_plan 1 = .ok (.getfield 37, 3) := by decide +kernel
theorem d_LR_plan_4 : decode b_LR_plan 4 = .ok (.invokevirtual 89, 3) := by decide +kernel
theorem d_LR_plan_7 : decode b_LR_plan 7 = .ok (.ifCond .eq 13, 3) := by decide +kernel
theorem d_LR_plan_10 : decode b_LR_plan 10 = .ok (.aload_n 0, 1) := by decide +kernel
theorem d_LR_plan_11 : decode b_LR_plan 11 = .ok (.getfield 37, 3) := by decide +kernel
theorem d_LR_plan_14 : decode b_LR_plan 14 = .ok (.invokevirtual 93, 3) := by decide +kernel
theorem d_LR_plan_17 : decode b_LR_plan 17 = .ok (.goto 4, 3) := by decide +kernel
theorem d_LR_plan_20 : decode b_LR_plan 20 = .ok (.iconst (-1), 1) := by decide +kernel
theorem d_LR_plan_21 : decode b_LR_plan 21 = .ok (.ireturn, 1) := by decide +kernel
theorem d_LR_rule_0 : decode b_LR_rule 0 = .ok (.iload_n 1, 1) := by decide +kernel
theorem d_LR_rule_1 : decode b_LR_rule 1 = .ok (.iconst 0, 1) := by decide +kernel
theorem d_LR_rule_2 : decode b_LR_rule 2 = .ok (.iconst 3, 1) := by decide +kernel
theorem d_LR_rule_3 : decode b_LR_rule 3 = .ok (.invokestatic 45, 3) := by decide +kernel
theorem d_LR_rule_6 : decode b_LR_rule 6 = .ok (.ifCond .eq 12, 3) := by decide +kernel
theorem d_LR_rule_9 : decode b_LR_rule 9 = .ok (.iload_n 2, 1) := by decide +kernel
theorem d_LR_rule_10 : decode b_LR_rule 10 = .ok (.iconst 0, 1) := by decide +kernel
theorem d_LR_rule_11 : decode b_LR_rule 11 = .ok (.iconst 3, 1) := by decide +kernel
theorem d_LR_rule_12 : decode b_LR_rule 12 = .ok (.invokestatic 45, 3) := by decide +kernel
theorem d_LR_rule_15 : decode b_LR_rule 15 = .ok (.ifCond .ne 5, 3) := by decide +kernel
theorem d_LR_rule_18 : decode b_LR_rule 18 = .ok (.iconst 0, 1) := by decide +kernel
theorem d_LR_rule_19 : decode b_LR_rule 19 = .ok (.ireturn, 1) := by decide +kernel
theorem d_LR_rule_20 : decode b_LR_rule 20 = .ok (.aload_n 0, 1) := by decide +kernel
theorem d_LR_rule_21 : decode b_LR_rule 21 = .ok (.getfield 28, 3) := by decide +kernel
theorem d_LR_rule_24 : decode b_LR_rule 24 = .ok (.iload_n 1, 1) := by decide +kernel
theorem d_LR_rule_25 : decode b_LR_rule 25 = .ok (.invokevirtual 82, 3) := by decide +kernel
theorem d_LR_rule_28 : decode b_LR_rule 28 = .ok (.aload_n 0, 1) := by decide +kernel
theorem d_LR_rule_29 : decode b_LR_rule 29 = .ok (.getfield 37, 3) := by decide +kernel
theorem d_LR_rule_32 : decode b_LR_rule 32 = .ok (.iload_n 2, 1) := by decide +kernel
theorem d_LR_rule_33 : decode b_LR_rule 33 = .ok (.invokevirtual 86, 3) := by decide +kernel
theorem d_LR_rule_36 : decode b_LR_rule 36 = .ok (.aload_n 0, 1) := by decide +kernel
theorem d_LR_rule_37 : decode b_LR_rule 37 = .ok (.getfield 37, 3) := by decide +kernel
theorem d_LR_rule_40 : decode b_LR_rule 40 = .ok (.invokevirtual 65, 3) := by decide +kernel
theorem d_LR_rule_43 : decode b_LR_rule 43 = .ok (.iconst 1, 1) := by decide +kernel
theorem d_LR_rule_44 : decode b_LR_rule 44 = .ok (.ireturn, 1) := by decide +kernel
theorem d_LR_runsOf_0 : decode b_LR_runsOf 0 = .ok (.aload_n 0, 1) := by decide +kernel
theorem d_LR_runsOf_1 : decode b_LR_runsOf 1 = .ok (.getfield 12, 3) := by decide +kernel
theorem d_LR_runsOf_4 : decode b_LR_runsOf 4 = .ok (.iload_n 1, 1) := by decide +kernel
theorem d_LR_runsOf_5 : decode b_LR_runsOf 5 = .ok (.invokevirtual 75, 3) := by decide +kernel
theorem d_LR_runsOf_8 : decode b_LR_runsOf 8 = .ok (.ifCond .eq 24, 3) := by decide +kernel
theorem d_LR_runsOf_11 : decode b_LR_runsOf 11 = .ok (.aload_n 0, 1) := by decide +kernel
theorem d_LR_runsOf_12 : decode b_LR_runsOf 12 = .ok (.getfield 37, 3) := by decide +kernel
theorem d_LR_runsOf_15 : decode b_LR_runsOf 15 = .ok (.invokevirtual 113, 3) := by decide +kernel
theorem d_LR_runsOf_18 : decode b_LR_runsOf 18 = .ok (.ifCond .eq 14, 3) := by decide +kernel
theorem d_LR_runsOf_21 : decode b_LR_runsOf 21 = .ok (.aload_n 0, 1) := by decide +kernel
theorem d_LR_runsOf_22 : decode b_LR_runsOf 22 = .ok (.getfield 37, 3) := by decide +kernel
theorem d_LR_runsOf_25 : decode b_LR_runsOf 25 = .ok (.iload_n 1, 1) := by decide +kernel
theorem d_LR_runsOf_26 : decode b_LR_runsOf 26 = .ok (.invokevirtual 165, 3) := by decide +kernel
theorem d_LR_runsOf_29 : decode b_LR_runsOf 29 = .ok (.goto 4, 3) := by decide +kernel
theorem d_LR_runsOf_32 : decode b_LR_runsOf 32 = .ok (.iconst (-1), 1) := by decide +kernel
theorem d_LR_runsOf_33 : decode b_LR_runsOf 33 = .ok (.ireturn, 1) := by decide +kernel
theorem d_LR_within_0 : decode b_LR_within 0 = .ok (.iload_n 0, 1) := by decide +kernel
theorem d_LR_within_1 : decode b_LR_within 1 = .ok (.iload_n 1, 1) := by decide +kernel
theorem d_LR_within_2 : decode b_LR_within 2 = .ok (.if_icmp .lt 12, 3) := by decide +kernel
theorem d_LR_within_5 : decode b_LR_within 5 = .ok (.iload_n 0, 1) := by decide +kernel
theorem d_LR_within_6 : decode b_LR_within 6 = .ok (.iload_n 2, 1) := by decide +kernel
theorem d_LR_within_7 : decode b_LR_within 7 = .ok (.if_icmp .gt 7, 3) := by decide +kernel
theorem d_LR_within_10 : decode b_LR_within 10 = .ok (.iconst 1, 1) := by decide +kernel
theorem d_LR_within_11 : decode b_LR_within 11 = .ok (.goto 4, 3) := by decide +kernel
theorem d_LR_within_14 : decode b_LR_within 14 = .ok (.iconst 0, 1) := by decide +kernel
theorem d_LR_within_15 : decode b_LR_within 15 = .ok (.ireturn, 1) := by decide +kernel
theorem d_Be_canLay_0 : decode b_Be_canLay 0 = .ok (.aload_n 0, 1) := by decide +kernel
theorem d_Be_canLay_1 : decode b_Be_canLay 1 = .ok (.getfield 29, 3) := by decide +kernel
theorem d_Be_canLay_4 : decode b_Be_canLay 4 = .ok (.iconst 2, 1) := by decide +kernel
theorem d_Be_canLay_5 : decode b_Be_canLay 5 = .ok (.imul, 1) := by decide +kernel
theorem d_Be_canLay_6 : decode b_Be_canLay 6 = .ok (.iload_n 1, 1) := by decide +kernel
theorem d_Be_canLay_7 : decode b_Be_canLay 7 = .ok (.iadd, 1) := by decide +kernel
theorem d_Be_canLay_8 : decode b_Be_canLay 8 = .ok (.bipush 16, 2) := by decide +kernel
theorem d_Be_canLay_10 : decode b_Be_canLay 10 = .ok (.imul, 1) := by decide +kernel
theorem d_Be_canLay_11 : decode b_Be_canLay 11 = .ok (.iload_n 2, 1) := by decide +kernel
theorem d_Be_canLay_12 : decode b_Be_canLay 12 = .ok (.iadd, 1) := by decide +kernel
theorem d_Be_canLay_13 : decode b_Be_canLay 13 = .ok (.istore_n 3, 1) := by decide +kernel
theorem d_Be_canLay_14 : decode b_Be_canLay 14 = .ok (.iload_n 3, 1) := by decide +kernel
theorem d_Be_canLay_15 : decode b_Be_canLay 15 = .ok (.ifCond .lt 12, 3) := by decide +kernel
theorem d_Be_canLay_18 : decode b_Be_canLay 18 = .ok (.iload_n 3, 1) := by decide +kernel
theorem d_Be_canLay_19 : decode b_Be_canLay 19 = .ok (.aload_n 0, 1) := by decide +kernel
theorem d_Be_canLay_20 : decode b_Be_canLay 20 = .ok (.getfield 18, 3) := by decide +kernel
theorem d_Be_canLay_23 : decode b_Be_canLay 23 = .ok (.arraylength, 1) := by decide +kernel
theorem d_Be_canLay_24 : decode b_Be_canLay 24 = .ok (.if_icmp .lt 5, 3) := by decide +kernel
theorem d_Be_canLay_27 : decode b_Be_canLay 27 = .ok (.iconst 0, 1) := by decide +kernel
theorem d_Be_canLay_28 : decode b_Be_canLay 28 = .ok (.ireturn, 1) := by decide +kernel
theorem d_Be_canLay_29 : decode b_Be_canLay 29 = .ok (.aload_n 0, 1) := by decide +kernel
theorem d_Be_canLay_30 : decode b_Be_canLay 30 = .ok (.getfield 18, 3) := by decide +kernel
theorem d_Be_canLay_33 : decode b_Be_canLay 33 = .ok (.iload_n 3, 1) := by decide +kernel
theorem d_Be_canLay_34 : decode b_Be_canLay 34 = .ok (.iaload, 1) := by decide +kernel
theorem d_Be_canLay_35 : decode b_Be_canLay 35 = .ok (.ifCond .ne 25, 3) := by decide +kernel
theorem d_Be_canLay_38 : decode b_Be_canLay 38 = .ok (.aload_n 0, 1) := by decide +kernel
theorem d_Be_canLay_39 : decode b_Be_canLay 39 = .ok (.getfield 18, 3) := by decide +kernel
theorem d_Be_canLay_42 : decode b_Be_canLay 42 = .ok (.iload_n 3, 1) := by decide +kernel
theorem d_Be_canLay_43 : decode b_Be_canLay 43 = .ok (.aload_n 0, 1) := by decide +kernel
theorem d_Be_canLay_44 : decode b_Be_canLay 44 = .ok (.iconst 0, 1) := by decide +kernel
theorem d_Be_canLay_45 : decode b_Be_canLay 45 = .ok (.iload_n 1, 1) := by decide +kernel
theorem d_Be_canLay_46 : decode b_Be_canLay 46 = .ok (.iload_n 2, 1) := by decide +kernel
theorem d_Be_canLay_47 : decode b_Be_canLay 47 = .ok (.iconst 0, 1) := by decide +kernel
theorem d_Be_canLay_48 : decode b_Be_canLay 48 = .ok (.invokevirtual 33, 3) := by decide +kernel
theorem d_Be_canLay_51 : decode b_Be_canLay 51 = .ok (.ifCond .eq 7, 3) := by decide +kernel
theorem d_Be_canLay_54 : decode b_Be_canLay 54 = .ok (.iconst 1, 1) := by decide +kernel
theorem d_Be_canLay_55 : decode b_Be_canLay 55 = .ok (.goto 4, 3) := by decide +kernel
theorem d_Be_canLay_58 : decode b_Be_canLay 58 = .ok (.iconst 2, 1) := by decide +kernel
theorem d_Be_canLay_59 : decode b_Be_canLay 59 = .ok (.iastore, 1) := by decide +kernel
theorem d_Be_canLay_60 : decode b_Be_canLay 60 = .ok (.aload_n 0, 1) := by decide +kernel
theorem d_Be_canLay_61 : decode b_Be_canLay 61 = .ok (.getfield 18, 3) := by decide +kernel
theorem d_Be_canLay_64 : decode b_Be_canLay 64 = .ok (.iload_n 3, 1) := by decide +kernel
theorem d_Be_canLay_65 : decode b_Be_canLay 65 = .ok (.iaload, 1) := by decide +kernel
theorem d_Be_canLay_66 : decode b_Be_canLay 66 = .ok (.iconst 1, 1) := by decide +kernel
theorem d_Be_canLay_67 : decode b_Be_canLay 67 = .ok (.if_icmp .ne 7, 3) := by decide +kernel
theorem d_Be_canLay_70 : decode b_Be_canLay 70 = .ok (.iconst 1, 1) := by decide +kernel
theorem d_Be_canLay_71 : decode b_Be_canLay 71 = .ok (.goto 4, 3) := by decide +kernel
theorem d_Be_canLay_74 : decode b_Be_canLay 74 = .ok (.iconst 0, 1) := by decide +kernel
theorem d_Be_canLay_75 : decode b_Be_canLay 75 = .ok (.ireturn, 1) := by decide +kernel
theorem d_Be_cells_0 : decode b_Be_cells 0 = .ok (.iconst 0, 1) := by decide +kernel
theorem d_Be_cells_1 : decode b_Be_cells 1 = .ok (.istore 4, 2) := by decide +kernel
theorem d_Be_cells_3 : decode b_Be_cells 3 = .ok (.iload_n 0, 1) := by decide +kernel
theorem d_Be_cells_4 : decode b_Be_cells 4 = .ok (.iconst 0, 1) := by decide +kernel
theorem d_Be_cells_5 : decode b_Be_cells 5 = .ok (.invokestatic 61, 3) := by decide +kernel
theorem d_Be_cells_8 : decode b_Be_cells 8 = .ok (.istore 5, 2) := by decide +kernel
theorem d_Be_cells_10 : decode b_Be_cells 10 = .ok (.iload 5, 2) := by decide +kernel
theorem d_Be_cells_12 : decode b_Be_cells 12 = .ok (.iload_n 1, 1) := by decide +kernel
theorem d_Be_cells_13 : decode b_Be_cells 13 = .ok (.if_icmp .ge 55, 3) := by decide +kernel
theorem d_Be_cells_16 : decode b_Be_cells 16 = .ok (.iload 5, 2) := by decide +kernel
theorem d_Be_cells_18 : decode b_Be_cells 18 = .ok (.bipush 8, 2) := by decide +kernel
theorem d_Be_cells_20 : decode b_Be_cells 20 = .ok (.if_icmp .ge 48, 3) := by decide +kernel
theorem d_Be_cells_23 : decode b_Be_cells 23 = .ok (.iload_n 2, 1) := by decide +kernel
theorem d_Be_cells_24 : decode b_Be_cells 24 = .ok (.iconst 0, 1) := by decide +kernel
theorem d_Be_cells_25 : decode b_Be_cells 25 = .ok (.invokestatic 61, 3) := by decide +kernel
theorem d_Be_cells_28 : decode b_Be_cells 28 = .ok (.istore 6, 2) := by decide +kernel
theorem d_Be_cells_30 : decode b_Be_cells 30 = .ok (.iload 6, 2) := by decide +kernel
theorem d_Be_cells_32 : decode b_Be_cells 32 = .ok (.iload_n 3, 1) := by decide +kernel
theorem d_Be_cells_33 : decode b_Be_cells 33 = .ok (.if_icmp .ge 29, 3) := by decide +kernel
theorem d_Be_cells_36 : decode b_Be_cells 36 = .ok (.iload 6, 2) := by decide +kernel
theorem d_Be_cells_38 : decode b_Be_cells 38 = .ok (.iconst 3, 1) := by decide +kernel
theorem d_Be_cells_39 : decode b_Be_cells 39 = .ok (.if_icmp .ge 23, 3) := by decide +kernel
theorem d_Be_cells_42 : decode b_Be_cells 42 = .ok (.iload 4, 2) := by decide +kernel
theorem d_Be_cells_44 : decode b_Be_cells 44 = .ok (.iconst 1, 1) := by decide +kernel
theorem d_Be_cells_45 : decode b_Be_cells 45 = .ok (.iconst 3, 1) := by decide +kernel
theorem d_Be_cells_46 : decode b_Be_cells 46 = .ok (.iload 5, 2) := by decide +kernel
theorem d_Be_cells_48 : decode b_Be_cells 48 = .ok (.imul, 1) := by decide +kernel
theorem d_Be_cells_49 : decode b_Be_cells 49 = .ok (.iload 6, 2) := by decide +kernel
theorem d_Be_cells_51 : decode b_Be_cells 51 = .ok (.iadd, 1) := by decide +kernel
theorem d_Be_cells_52 : decode b_Be_cells 52 = .ok (.ishl, 1) := by decide +kernel
theorem d_Be_cells_53 : decode b_Be_cells 53 = .ok (.ior, 1) := by decide +kernel
theorem d_Be_cells_54 : decode b_Be_cells 54 = .ok (.istore 4, 2) := by decide +kernel
theorem d_Be_cells_56 : decode b_Be_cells 56 = .ok (.iinc 6 1, 3) := by decide +kernel
theorem d_Be_cells_59 : decode b_Be_cells 59 = .ok (.goto (-29), 3) := by decide +kernel
theorem d_Be_cells_62 : decode b_Be_cells 62 = .ok (.iinc 5 1, 3) := by decide +kernel
theorem d_Be_cells_65 : decode b_Be_cells 65 = .ok (.goto (-55), 3) := by decide +kernel
theorem d_Be_cells_68 : decode b_Be_cells 68 = .ok (.iload 4, 2) := by decide +kernel
theorem d_Be_cells_70 : decode b_Be_cells 70 = .ok (.ireturn, 1) := by decide +kernel
theorem d_Be_gap_0 : decode b_Be_gap 0 = .ok (.aload_n 0, 1) := by decide +kernel
theorem d_Be_gap_1 : decode b_Be_gap 1 = .ok (.getfield 29, 3) := by decide +kernel
theorem d_Be_gap_4 : decode b_Be_gap 4 = .ok (.ireturn, 1) := by decide +kernel
theorem d_Be_lay_0 : decode b_Be_lay 0 = .ok (.aload_n 0, 1) := by decide +kernel
theorem d_Be_lay_1 : decode b_Be_lay 1 = .ok (.iconst 0, 1) := by decide +kernel
theorem d_Be_lay_2 : decode b_Be_lay 2 = .ok (.iload_n 1, 1) := by decide +kernel
theorem d_Be_lay_3 : decode b_Be_lay 3 = .ok (.iload_n 2, 1) := by decide +kernel
theorem d_Be_lay_4 : decode b_Be_lay 4 = .ok (.iconst 0, 1) := by decide +kernel
theorem d_Be_lay_5 : decode b_Be_lay 5 = .ok (.invokevirtual 33, 3) := by decide +kernel
theorem d_Be_lay_8 : decode b_Be_lay 8 = .ok (.ireturn, 1) := by decide +kernel
theorem d_Be_layFrom_0 : decode b_Be_layFrom 0 = .ok (.iload_n 1, 1) := by decide +kernel
theorem d_Be_layFrom_1 : decode b_Be_layFrom 1 = .ok (.ifCond .lt 8, 3) := by decide +kernel
theorem d_Be_layFrom_4 : decode b_Be_layFrom 4 = .ok (.iload_n 1, 1) := by decide +kernel
theorem d_Be_layFrom_5 : decode b_Be_layFrom 5 = .ok (.iconst 4, 1) := by decide +kernel
theorem d_Be_layFrom_6 : decode b_Be_layFrom 6 = .ok (.if_icmp .lt 5, 3) := by decide +kernel
theorem d_Be_layFrom_9 : decode b_Be_layFrom 9 = .ok (.iconst 1, 1) := by decide +kernel
theorem d_Be_layFrom_10 : decode b_Be_layFrom 10 = .ok (.ireturn, 1) := by decide +kernel
theorem d_Be_layFrom_11 : decode b_Be_layFrom 11 = .ok (.iload_n 3, 1) := by decide +kernel
theorem d_Be_layFrom_12 : decode b_Be_layFrom 12 = .ok (.iload_n 1, 1) := by decide +kernel
theorem d_Be_layFrom_13 : decode b_Be_layFrom 13 = .ok (.invokestatic 37, 3) := by decide +kernel
theorem d_Be_layFrom_16 : decode b_Be_layFrom 16 = .ok (.ifCond .ne 15, 3) := by decide +kernel
theorem d_Be_layFrom_19 : decode b_Be_layFrom 19 = .ok (.aload_n 0, 1) := by decide +kernel
theorem d_Be_layFrom_20 : decode b_Be_layFrom 20 = .ok (.iload_n 1, 1) := by decide +kernel
theorem d_Be_layFrom_21 : decode b_Be_layFrom 21 = .ok (.iconst 1, 1) := by decide +kernel
theorem d_Be_layFrom_22 : decode b_Be_layFrom 22 = .ok (.iadd, 1) := by decide +kernel
theorem d_Be_layFrom_23 : decode b_Be_layFrom 23 = .ok (.iload_n 2, 1) := by decide +kernel
theorem d_Be_layFrom_24 : decode b_Be_layFrom 24 = .ok (.iload_n 3, 1) := by decide +kernel
theorem d_Be_layFrom_25 : decode b_Be_layFrom 25 = .ok (.iload 4, 2) := by decide +kernel
theorem d_Be_layFrom_27 : decode b_Be_layFrom 27 = .ok (.invokevirtual 33, 3) := by decide +kernel
theorem d_Be_layFrom_30 : decode b_Be_layFrom 30 = .ok (.ireturn, 1) := by decide +kernel
theorem d_Be_layFrom_31 : decode b_Be_layFrom 31 = .ok (.aload_n 0, 1) := by decide +kernel
theorem d_Be_layFrom_32 : decode b_Be_layFrom 32 = .ok (.getfield 25, 3) := by decide +kernel
theorem d_Be_layFrom_35 : decode b_Be_layFrom 35 = .ok (.iload_n 1, 1) := by decide +kernel
theorem d_Be_layFrom_36 : decode b_Be_layFrom 36 = .ok (.invokevirtual 41, 3) := by decide +kernel
theorem d_Be_layFrom_39 : decode b_Be_layFrom 39 = .ok (.istore 5, 2) := by decide +kernel
theorem d_Be_layFrom_41 : decode b_Be_layFrom 41 = .ok (.aload_n 0, 1) := by decide +kernel
theorem d_Be_layFrom_42 : decode b_Be_layFrom 42 = .ok (.getfield 25, 3) := by decide +kernel
theorem d_Be_layFrom_45 : decode b_Be_layFrom 45 = .ok (.iload_n 1, 1) := by decide +kernel
theorem d_Be_layFrom_46 : decode b_Be_layFrom 46 = .ok (.invokevirtual 47, 3) := by decide +kernel
theorem d_Be_layFrom_49 : decode b_Be_layFrom 49 = .ok (.istore 6, 2) := by decide +kernel
theorem d_Be_layFrom_51 : decode b_Be_layFrom 51 = .ok (.aload_n 0, 1) := by decide +kernel
theorem d_Be_layFrom_52 : decode b_Be_layFrom 52 = .ok (.getfield 21, 3) := by decide +kernel
theorem d_Be_layFrom_55 : decode b_Be_layFrom 55 = .ok (.iload_n 2, 1) := by decide +kernel
theorem d_Be_layFrom_56 : decode b_Be_layFrom 56 = .ok (.invokevirtual 50, 3) := by decide +kernel
theorem d_Be_layFrom_59 : decode b_Be_layFrom 59 = .ok (.iload 5, 2) := by decide +kernel
theorem d_Be_layFrom_61 : decode b_Be_layFrom 61 = .ok (.isub, 1) := by decide +kernel
theorem d_Be_layFrom_62 : decode b_Be_layFrom 62 = .ok (.istore 7, 2) := by decide +kernel
theorem d_Be_layFrom_64 : decode b_Be_layFrom 64 = .ok (.aload_n 0, 1) := by decide +kernel
theorem d_Be_layFrom_65 : decode b_Be_layFrom 65 = .ok (.getfield 21, 3) := by decide +kernel
theorem d_Be_layFrom_68 : decode b_Be_layFrom 68 = .ok (.iload_n 2, 1) := by decide +kernel
theorem d_Be_layFrom_69 : decode b_Be_layFrom 69 = .ok (.invokevirtual 53, 3) := by decide +kernel
theorem d_Be_layFrom_72 : decode b_Be_layFrom 72 = .ok (.iload 6, 2) := by decide +kernel
theorem d_Be_layFrom_74 : decode b_Be_layFrom 74 = .ok (.isub, 1) := by decide +kernel
theorem d_Be_layFrom_75 : decode b_Be_layFrom 75 = .ok (.istore 8, 2) := by decide +kernel
theorem d_Be_layFrom_77 : decode b_Be_layFrom 77 = .ok (.iload 8, 2) := by decide +kernel
theorem d_Be_layFrom_79 : decode b_Be_layFrom 79 = .ok (.ifCond .ge 5, 3) := by decide +kernel
theorem d_Be_layFrom_82 : decode b_Be_layFrom 82 = .ok (.iconst 0, 1) := by decide +kernel
theorem d_Be_layFrom_83 : decode b_Be_layFrom 83 = .ok (.ireturn, 1) := by decide +kernel
theorem d_Be_layFrom_84 : decode b_Be_layFrom 84 = .ok (.aload_n 0, 1) := by decide +kernel
theorem d_Be_layFrom_85 : decode b_Be_layFrom 85 = .ok (.getfield 25, 3) := by decide +kernel
theorem d_Be_layFrom_88 : decode b_Be_layFrom 88 = .ok (.iload_n 1, 1) := by decide +kernel
theorem d_Be_layFrom_89 : decode b_Be_layFrom 89 = .ok (.invokevirtual 54, 3) := by decide +kernel
theorem d_Be_layFrom_92 : decode b_Be_layFrom 92 = .ok (.iconst 1, 1) := by decide +kernel
theorem d_Be_layFrom_93 : decode b_Be_layFrom 93 = .ok (.if_icmp .ne 8, 3) := by decide +kernel
theorem d_Be_layFrom_96 : decode b_Be_layFrom 96 = .ok (.iload 8, 2) := by decide +kernel
theorem d_Be_layFrom_98 : decode b_Be_layFrom 98 = .ok (.goto 4, 3) := by decide +kernel
theorem d_Be_layFrom_101 : decode b_Be_layFrom 101 = .ok (.iconst 0, 1) := by decide +kernel
theorem d_Be_layFrom_102 : decode b_Be_layFrom 102 = .ok (.istore 9, 2) := by decide +kernel
theorem d_Be_layFrom_104 : decode b_Be_layFrom 104 = .ok (.aload_n 0, 1) := by decide +kernel
theorem d_Be_layFrom_105 : decode b_Be_layFrom 105 = .ok (.getfield 25, 3) := by decide +kernel
theorem d_Be_layFrom_108 : decode b_Be_layFrom 108 = .ok (.iload_n 1, 1) := by decide +kernel
theorem d_Be_layFrom_109 : decode b_Be_layFrom 109 = .ok (.invokevirtual 54, 3) := by decide +kernel
theorem d_Be_layFrom_112 : decode b_Be_layFrom 112 = .ok (.ifCond .ne 6, 3) := by decide +kernel
theorem d_Be_layFrom_115 : decode b_Be_layFrom 115 = .ok (.iconst 0, 1) := by decide +kernel
theorem d_Be_layFrom_116 : decode b_Be_layFrom 116 = .ok (.istore 8, 2) := by decide +kernel
theorem d_Be_layFrom_118 : decode b_Be_layFrom 118 = .ok (.iconst 0, 1) := by decide +kernel
theorem d_Be_layFrom_119 : decode b_Be_layFrom 119 = .ok (.iload 5, 2) := by decide +kernel
theorem d_Be_layFrom_121 : decode b_Be_layFrom 121 = .ok (.iconst 0, 1) := by decide +kernel
theorem d_Be_layFrom_122 : decode b_Be_layFrom 122 = .ok (.iload 6, 2) := by decide +kernel
theorem d_Be_layFrom_124 : decode b_Be_layFrom 124 = .ok (.invokestatic 57, 3) := by decide +kernel
theorem d_Be_layFrom_127 : decode b_Be_layFrom 127 = .ok (.istore 10, 2) := by decide +kernel
theorem d_Be_layFrom_129 : decode b_Be_layFrom 129 = .ok (.iconst 0, 1) := by decide +kernel
theorem d_Be_layFrom_130 : decode b_Be_layFrom 130 = .ok (.istore 11, 2) := by decide +kernel
theorem d_Be_layFrom_132 : decode b_Be_layFrom 132 = .ok (.iload 11, 2) := by decide +kernel
theorem d_Be_layFrom_134 : decode b_Be_layFrom 134 = .ok (.iload 7, 2) := by decide +kernel
theorem d_Be_layFrom_136 : decode b_Be_layFrom 136 = .ok (.if_icmp .gt 116, 3) := by decide +kernel
theorem d_Be_layFrom_139 : decode b_Be_layFrom 139 = .ok (.iload 9, 2) := by decide +kernel
theorem d_Be_layFrom_141 : decode b_Be_layFrom 141 = .ok (.istore 12, 2) := by decide +kernel
theorem d_Be_layFrom_143 : decode b_Be_layFrom 143 = .ok (.iload 12, 2) := by decide +kernel
theorem d_Be_layFrom_145 : decode b_Be_layFrom 145 = .ok (.iload 8, 2) := by decide +kernel
theorem d_Be_layFrom_147 : decode b_Be_layFrom 147 = .ok (.if_icmp .gt 99, 3) := by decide +kernel
theorem d_Be_layFrom_150 : decode b_Be_layFrom 150 = .ok (.iload 10, 2) := by decide +kernel
theorem d_Be_layFrom_152 : decode b_Be_layFrom 152 = .ok (.iconst 3, 1) := by decide +kernel
theorem d_Be_layFrom_153 : decode b_Be_layFrom 153 = .ok (.iload 11, 2) := by decide +kernel
theorem d_Be_layFrom_155 : decode b_Be_layFrom 155 = .ok (.imul, 1) := by decide +kernel
theorem d_Be_layFrom_156 : decode b_Be_layFrom 156 = .ok (.iload 12, 2) := by decide +kernel
theorem d_Be_layFrom_158 : decode b_Be_layFrom 158 = .ok (.iadd, 1) := by decide +kernel
theorem d_Be_layFrom_159 : decode b_Be_layFrom 159 = .ok (.ishl, 1) := by decide +kernel
theorem d_Be_layFrom_160 : decode b_Be_layFrom 160 = .ok (.iload 4, 2) := by decide +kernel
theorem d_Be_layFrom_162 : decode b_Be_layFrom 162 = .ok (.iand, 1) := by decide +kernel
theorem d_Be_layFrom_163 : decode b_Be_layFrom 163 = .ok (.ifCond .ne 77, 3) := by decide +kernel
theorem d_Be_layFrom_166 : decode b_Be_layFrom 166 = .ok (.aload_n 0, 1) := by decide +kernel
theorem d_Be_layFrom_167 : decode b_Be_layFrom 167 = .ok (.getfield 9, 3) := by decide +kernel
theorem d_Be_layFrom_170 : decode b_Be_layFrom 170 = .ok (.iload_n 1, 1) := by decide +kernel
theorem d_Be_layFrom_171 : decode b_Be_layFrom 171 = .ok (.iload 11, 2) := by decide +kernel
theorem d_Be_layFrom_173 : decode b_Be_layFrom 173 = .ok (.iastore, 1) := by decide +kernel
theorem d_Be_layFrom_174 : decode b_Be_layFrom 174 = .ok (.aload_n 0, 1) := by decide +kernel
theorem d_Be_layFrom_175 : decode b_Be_layFrom 175 = .ok (.getfield 15, 3) := by decide +kernel
theorem d_Be_layFrom_178 : decode b_Be_layFrom 178 = .ok (.iload_n 1, 1) := by decide +kernel
theorem d_Be_layFrom_179 : decode b_Be_layFrom 179 = .ok (.iload 12, 2) := by decide +kernel
theorem d_Be_layFrom_181 : decode b_Be_layFrom 181 = .ok (.iastore, 1) := by decide +kernel
theorem d_Be_layFrom_182 : decode b_Be_layFrom 182 = .ok (.iload 11, 2) := by decide +kernel
theorem d_Be_layFrom_184 : decode b_Be_layFrom 184 = .ok (.aload_n 0, 1) := by decide +kernel
theorem d_Be_layFrom_185 : decode b_Be_layFrom 185 = .ok (.getfield 29, 3) := by decide +kernel
theorem d_Be_layFrom_188 : decode b_Be_layFrom 188 = .ok (.isub, 1) := by decide +kernel
theorem d_Be_layFrom_189 : decode b_Be_layFrom 189 = .ok (.iload 11, 2) := by decide +kernel
theorem d_Be_layFrom_191 : decode b_Be_layFrom 191 = .ok (.iload 5, 2) := by decide +kernel
theorem d_Be_layFrom_193 : decode b_Be_layFrom 193 = .ok (.iadd, 1) := by decide +kernel
theorem d_Be_layFrom_194 : decode b_Be_layFrom 194 = .ok (.aload_n 0, 1) := by decide +kernel
theorem d_Be_layFrom_195 : decode b_Be_layFrom 195 = .ok (.getfield 29, 3) := by decide +kernel
theorem d_Be_layFrom_198 : decode b_Be_layFrom 198 = .ok (.iadd, 1) := by decide +kernel
theorem d_Be_layFrom_199 : decode b_Be_layFrom 199 = .ok (.iload 12, 2) := by decide +kernel
theorem d_Be_layFrom_201 : decode b_Be_layFrom 201 = .ok (.aload_n 0, 1) := by decide +kernel
theorem d_Be_layFrom_202 : decode b_Be_layFrom 202 = .ok (.getfield 29, 3) := by decide +kernel
theorem d_Be_layFrom_205 : decode b_Be_layFrom 205 = .ok (.isub, 1) := by decide +kernel
theorem d_Be_layFrom_206 : decode b_Be_layFrom 206 = .ok (.iload 12, 2) := by decide +kernel
theorem d_Be_layFrom_208 : decode b_Be_layFrom 208 = .ok (.iload 6, 2) := by decide +kernel
theorem d_Be_layFrom_210 : decode b_Be_layFrom 210 = .ok (.iadd, 1) := by decide +kernel
theorem d_Be_layFrom_211 : decode b_Be_layFrom 211 = .ok (.aload_n 0, 1) := by decide +kernel
theorem d_Be_layFrom_212 : decode b_Be_layFrom 212 = .ok (.getfield 29, 3) := by decide +kernel
theorem d_Be_layFrom_215 : decode b_Be_layFrom 215 = .ok (.iadd, 1) := by decide +kernel
theorem d_Be_layFrom_216 : decode b_Be_layFrom 216 = .ok (.invokestatic 57, 3) := by decide +kernel
theorem d_Be_layFrom_219 : decode b_Be_layFrom 219 = .ok (.istore 13, 2) := by decide +kernel
theorem d_Be_layFrom_221 : decode b_Be_layFrom 221 = .ok (.aload_n 0, 1) := by decide +kernel
theorem d_Be_layFrom_222 : decode b_Be_layFrom 222 = .ok (.iload_n 1, 1) := by decide +kernel
theorem d_Be_layFrom_223 : decode b_Be_layFrom 223 = .ok (.iconst 1, 1) := by decide +kernel
theorem d_Be_layFrom_224 : decode b_Be_layFrom 224 = .ok (.iadd, 1) := by decide +kernel
theorem d_Be_layFrom_225 : decode b_Be_layFrom 225 = .ok (.iload_n 2, 1) := by decide +kernel
theorem d_Be_layFrom_226 : decode b_Be_layFrom 226 = .ok (.iload_n 3, 1) := by decide +kernel
theorem d_Be_layFrom_227 : decode b_Be_layFrom 227 = .ok (.iload 4, 2) := by decide +kernel
theorem d_Be_layFrom_229 : decode b_Be_layFrom 229 = .ok (.iload 13, 2) := by decide +kernel
theorem d_Be_layFrom_231 : decode b_Be_layFrom 231 = .ok (.ior, 1) := by decide +kernel
theorem d_Be_layFrom_232 : decode b_Be_layFrom 232 = .ok (.invokevirtual 33, 3) := by decide +kernel
theorem d_Be_layFrom_235 : decode b_Be_layFrom 235 = .ok (.ifCond .eq 5, 3) := by decide +kernel
theorem d_Be_layFrom_238 : decode b_Be_layFrom 238 = .ok (.iconst 1, 1) := by decide +kernel
theorem d_Be_layFrom_239 : decode b_Be_layFrom 239 = .ok (.ireturn, 1) := by decide +kernel
theorem d_Be_layFrom_240 : decode b_Be_layFrom 240 = .ok (.iinc 12 1, 3) := by decide +kernel
theorem d_Be_layFrom_243 : decode b_Be_layFrom 243 = .ok (.goto (-100), 3) := by decide +kernel
theorem d_Be_layFrom_246 : decode b_Be_layFrom 246 = .ok (.iinc 11 1, 3) := by decide +kernel
theorem d_Be_layFrom_249 : decode b_Be_layFrom 249 = .ok (.goto (-117), 3) := by decide +kernel
theorem d_Be_layFrom_252 : decode b_Be_layFrom 252 = .ok (.iconst 0, 1) := by decide +kernel
theorem d_Be_layFrom_253 : decode b_Be_layFrom 253 = .ok (.ireturn, 1) := by decide +kernel
theorem d_Be_setGap_0 : decode b_Be_setGap 0 = .ok (.aload_n 0, 1) := by decide +kernel
theorem d_Be_setGap_1 : decode b_Be_setGap 1 = .ok (.iload_n 1, 1) := by decide +kernel
theorem d_Be_setGap_2 : decode b_Be_setGap 2 = .ok (.putfield 29, 3) := by decide +kernel
theorem d_Be_setGap_5 : decode b_Be_setGap 5 = .ok (.return_, 1) := by decide +kernel
theorem d_Be_x_0 : decode b_Be_x 0 = .ok (.iload_n 1, 1) := by decide +kernel
theorem d_Be_x_1 : decode b_Be_x 1 = .ok (.ifCond .lt 17, 3) := by decide +kernel
theorem d_Be_x_4 : decode b_Be_x 4 = .ok (.iload_n 1, 1) := by decide +kernel
