theorem d_Mo_chamber_0 : decode b_Mo_chamber 0 = .ok (.aload_n 0, 1) := by decide +kernel
theorem d_Mo_chamber_1 : decode b_Mo_chamber 1 = .ok (.iload_n 1, 1) := by decide +kernel
theorem d_Mo_chamber_2 : decode b_Mo_chamber 2 = .ok (.iconst 1, 1) := by decide +kernel
theorem d_Mo_chamber_3 : decode b_Mo_chamber 3 = .ok (.bipush 8, 2) := by decide +kernel
theorem d_Mo_chamber_5 : decode b_Mo_chamber 5 = .ok (.invokestatic 78, 3) := by decide +kernel
theorem d_Mo_chamber_8 : decode b_Mo_chamber 8 = .ok (.ifCond .eq 22, 3) := by decide +kernel
theorem d_Mo_chamber_11 : decode b_Mo_chamber 11 = .ok (.iload_n 2, 1) := by decide +kernel
theorem d_Mo_chamber_12 : decode b_Mo_chamber 12 = .ok (.iconst 1, 1) := by decide +kernel
theorem d_Mo_chamber_13 : decode b_Mo_chamber 13 = .ok (.iconst 3, 1) := by decide +kernel
theorem d_Mo_chamber_14 : decode b_Mo_chamber 14 = .ok (.invokestatic 78, 3) := by decide +kernel
theorem d_Mo_chamber_17 : decode b_Mo_chamber 17 = .ok (.ifCond .eq 13, 3) := by decide +kernel
theorem d_Mo_chamber_20 : decode b_Mo_chamber 20 = .ok (.iload_n 3, 1) := by decide +kernel
theorem d_Mo_chamber_21 : decode b_Mo_chamber 21 = .ok (.iconst 1, 1) := by decide +kernel
theorem d_Mo_chamber_22 : decode b_Mo_chamber 22 = .ok (.bipush 60, 2) := by decide +kernel
theorem d_Mo_chamber_24 : decode b_Mo_chamber 24 = .ok (.invokestatic 78, 3) := by decide +kernel
theorem d_Mo_chamber_27 : decode b_Mo_chamber 27 = .ok (.ifCond .ne 7, 3) := by decide +kernel
theorem d_Mo_chamber_30 : decode b_Mo_chamber 30 = .ok (.iconst 1, 1) := by decide +kernel
theorem d_Mo_chamber_31 : decode b_Mo_chamber 31 = .ok (.goto 16, 3) := by decide +kernel
theorem d_Mo_chamber_34 : decode b_Mo_chamber 34 = .ok (.aload_n 0, 1) := by decide +kernel
theorem d_Mo_chamber_35 : decode b_Mo_chamber 35 = .ok (.getfield 72, 3) := by decide +kernel
theorem d_Mo_chamber_38 : decode b_Mo_chamber 38 = .ok (.iconst 2, 1) := by decide +kernel
theorem d_Mo_chamber_39 : decode b_Mo_chamber 39 = .ok (.if_icmp .ne 7, 3) := by decide +kernel
theorem d_Mo_chamber_42 : decode b_Mo_chamber 42 = .ok (.iconst 2, 1) := by decide +kernel
theorem d_Mo_chamber_43 : decode b_Mo_chamber 43 = .ok (.goto 4, 3) := by decide +kernel
theorem d_Mo_chamber_46 : decode b_Mo_chamber 46 = .ok (.iconst 0, 1) := by decide +kernel
theorem d_Mo_chamber_47 : decode b_Mo_chamber 47 = .ok (.putfield 69, 3) := by decide +kernel
theorem d_Mo_chamber_50 : decode b_Mo_chamber 50 = .ok (.aload_n 0, 1) := by decide +kernel
theorem d_Mo_chamber_51 : decode b_Mo_chamber 51 = .ok (.getfield 69, 3) := by decide +kernel
theorem d_Mo_chamber_54 : decode b_Mo_chamber 54 = .ok (.ifCond .le 5, 3) := by decide +kernel
theorem d_Mo_chamber_57 : decode b_Mo_chamber 57 = .ok (.iconst 0, 1) := by decide +kernel
theorem d_Mo_chamber_58 : decode b_Mo_chamber 58 = .ok (.ireturn, 1) := by decide +kernel
theorem d_Mo_chamber_59 : decode b_Mo_chamber 59 = .ok (.aload_n 0, 1) := by decide +kernel
theorem d_Mo_chamber_60 : decode b_Mo_chamber 60 = .ok (.getfield 13, 3) := by decide +kernel
theorem d_Mo_chamber_63 : decode b_Mo_chamber 63 = .ok (.aload_n 0, 1) := by decide +kernel
theorem d_Mo_chamber_64 : decode b_Mo_chamber 64 = .ok (.getfield 72, 3) := by decide +kernel
theorem d_Mo_chamber_67 : decode b_Mo_chamber 67 = .ok (.iload_n 1, 1) := by decide +kernel
theorem d_Mo_chamber_68 : decode b_Mo_chamber 68 = .ok (.iastore, 1) := by decide +kernel
theorem d_Mo_chamber_69 : decode b_Mo_chamber 69 = .ok (.aload_n 0, 1) := by decide +kernel
theorem d_Mo_chamber_70 : decode b_Mo_chamber 70 = .ok (.getfield 17, 3) := by decide +kernel
theorem d_Mo_chamber_73 : decode b_Mo_chamber 73 = .ok (.aload_n 0, 1) := by decide +kernel
theorem d_Mo_chamber_74 : decode b_Mo_chamber 74 = .ok (.getfield 72, 3) := by decide +kernel
theorem d_Mo_chamber_77 : decode b_Mo_chamber 77 = .ok (.iload_n 2, 1) := by decide +kernel
theorem d_Mo_chamber_78 : decode b_Mo_chamber 78 = .ok (.iastore, 1) := by decide +kernel
theorem d_Mo_chamber_79 : decode b_Mo_chamber 79 = .ok (.aload_n 0, 1) := by decide +kernel
theorem d_Mo_chamber_80 : decode b_Mo_chamber 80 = .ok (.getfield 20, 3) := by decide +kernel
theorem d_Mo_chamber_83 : decode b_Mo_chamber 83 = .ok (.aload_n 0, 1) := by decide +kernel
theorem d_Mo_chamber_84 : decode b_Mo_chamber 84 = .ok (.getfield 72, 3) := by decide +kernel
theorem d_Mo_chamber_87 : decode b_Mo_chamber 87 = .ok (.iload_n 3, 1) := by decide +kernel
theorem d_Mo_chamber_88 : decode b_Mo_chamber 88 = .ok (.iastore, 1) := by decide +kernel
theorem d_Mo_chamber_89 : decode b_Mo_chamber 89 = .ok (.aload_n 0, 1) := by decide +kernel
theorem d_Mo_chamber_90 : decode b_Mo_chamber 90 = .ok (.dup, 1) := by decide +kernel
theorem d_Mo_chamber_91 : decode b_Mo_chamber 91 = .ok (.getfield 72, 3) := by decide +kernel
theorem d_Mo_chamber_94 : decode b_Mo_chamber 94 = .ok (.iconst 1, 1) := by decide +kernel
theorem d_Mo_chamber_95 : decode b_Mo_chamber 95 = .ok (.iadd, 1) := by decide +kernel
theorem d_Mo_chamber_96 : decode b_Mo_chamber 96 = .ok (.putfield 72, 3) := by decide +kernel
theorem d_Mo_chamber_99 : decode b_Mo_chamber 99 = .ok (.aload_n 0, 1) := by decide +kernel
theorem d_Mo_chamber_100 : decode b_Mo_chamber 100 = .ok (.iconst 0, 1) := by decide +kernel
theorem d_Mo_chamber_101 : decode b_Mo_chamber 101 = .ok (.putfield 82, 3) := by decide +kernel
theorem d_Mo_chamber_104 : decode b_Mo_chamber 104 = .ok (.aload_n 0, 1) := by decide +kernel
theorem d_Mo_chamber_105 : decode b_Mo_chamber 105 = .ok (.getfield 72, 3) := by decide +kernel
theorem d_Mo_chamber_108 : decode b_Mo_chamber 108 = .ok (.iconst 1, 1) := by decide +kernel
theorem d_Mo_chamber_109 : decode b_Mo_chamber 109 = .ok (.isub, 1) := by decide +kernel
theorem d_Mo_chamber_110 : decode b_Mo_chamber 110 = .ok (.ireturn, 1) := by decide +kernel
theorem d_Mo_closed_0 : decode b_Mo_closed 0 = .ok (.aload_n 0, 1) := by decide +kernel
theorem d_Mo_closed_1 : decode b_Mo_closed 1 = .ok (.iconst 0, 1) := by decide +kernel
theorem d_Mo_closed_2 : decode b_Mo_closed 2 = .ok (.putfield 69, 3) := by decide +kernel
theorem d_Mo_closed_5 : decode b_Mo_closed 5 = .ok (.aload_n 0, 1) := by decide +kernel
theorem d_Mo_closed_6 : decode b_Mo_closed 6 = .ok (.iload_n 1, 1) := by decide +kernel
theorem d_Mo_closed_7 : decode b_Mo_closed 7 = .ok (.invokevirtual 86, 3) := by decide +kernel
theorem d_Mo_closed_10 : decode b_Mo_closed 10 = .ok (.ifCond .eq 39, 3) := by decide +kernel
theorem d_Mo_closed_13 : decode b_Mo_closed 13 = .ok (.iload_n 2, 1) := by decide +kernel
theorem d_Mo_closed_14 : decode b_Mo_closed 14 = .ok (.iconst 0, 1) := by decide +kernel
theorem d_Mo_closed_15 : decode b_Mo_closed 15 = .ok (.sipush 10000, 3) := by decide +kernel
theorem d_Mo_closed_18 : decode b_Mo_closed 18 = .ok (.invokestatic 78, 3) := by decide +kernel
theorem d_Mo_closed_21 : decode b_Mo_closed 21 = .ok (.ifCond .eq 28, 3) := by decide +kernel
theorem d_Mo_closed_24 : decode b_Mo_closed 24 = .ok (.iload_n 3, 1) := by decide +kernel
theorem d_Mo_closed_25 : decode b_Mo_closed 25 = .ok (.iconst 0, 1) := by decide +kernel
theorem d_Mo_closed_26 : decode b_Mo_closed 26 = .ok (.sipush 10000, 3) := by decide +kernel
theorem d_Mo_closed_29 : decode b_Mo_closed 29 = .ok (.invokestatic 78, 3) := by decide +kernel
theorem d_Mo_closed_32 : decode b_Mo_closed 32 = .ok (.ifCond .eq 17, 3) := by decide +kernel
theorem d_Mo_closed_35 : decode b_Mo_closed 35 = .ok (.iload_n 2, 1) := by decide +kernel
theorem d_Mo_closed_36 : decode b_Mo_closed 36 = .ok (.iload_n 3, 1) := by decide +kernel
theorem d_Mo_closed_37 : decode b_Mo_closed 37 = .ok (.if_icmp .ge 12, 3) := by decide +kernel
theorem d_Mo_closed_40 : decode b_Mo_closed 40 = .ok (.aload_n 0, 1) := by decide +kernel
theorem d_Mo_closed_41 : decode b_Mo_closed 41 = .ok (.getfield 90, 3) := by decide +kernel
theorem d_Mo_closed_44 : decode b_Mo_closed 44 = .ok (.bipush 8, 2) := by decide +kernel
theorem d_Mo_closed_46 : decode b_Mo_closed 46 = .ok (.if_icmp .ne 5, 3) := by decide +kernel
theorem d_Mo_closed_49 : decode b_Mo_closed 49 = .ok (.iconst 0, 1) := by decide +kernel
theorem d_Mo_closed_50 : decode b_Mo_closed 50 = .ok (.ireturn, 1) := by decide +kernel
theorem d_Mo_closed_51 : decode b_Mo_closed 51 = .ok (.aload_n 0, 1) := by decide +kernel
theorem d_Mo_closed_52 : decode b_Mo_closed 52 = .ok (.getfield 23, 3) := by decide +kernel
theorem d_Mo_closed_55 : decode b_Mo_closed 55 = .ok (.aload_n 0, 1) := by decide +kernel
theorem d_Mo_closed_56 : decode b_Mo_closed 56 = .ok (.getfield 90, 3) := by decide +kernel
theorem d_Mo_closed_59 : decode b_Mo_closed 59 = .ok (.iload_n 1, 1) := by decide +kernel
theorem d_Mo_closed_60 : decode b_Mo_closed 60 = .ok (.iastore, 1) := by decide +kernel
theorem d_Mo_closed_61 : decode b_Mo_closed 61 = .ok (.aload_n 0, 1) := by decide +kernel
theorem d_Mo_closed_62 : decode b_Mo_closed 62 = .ok (.getfield 26, 3) := by decide +kernel
theorem d_Mo_closed_65 : decode b_Mo_closed 65 = .ok (.aload_n 0, 1) := by decide +kernel
theorem d_Mo_closed_66 : decode b_Mo_closed 66 = .ok (.getfield 90, 3) := by decide +kernel
theorem d_Mo_closed_69 : decode b_Mo_closed 69 = .ok (.iload_n 2, 1) := by decide +kernel
theorem d_Mo_closed_70 : decode b_Mo_closed 70 = .ok (.iastore, 1) := by decide +kernel
theorem d_Mo_closed_71 : decode b_Mo_closed 71 = .ok (.aload_n 0, 1) := by decide +kernel
theorem d_Mo_closed_72 : decode b_Mo_closed 72 = .ok (.getfield 29, 3) := by decide +kernel
theorem d_Mo_closed_75 : decode b_Mo_closed 75 = .ok (.aload_n 0, 1) := by decide +kernel
theorem d_Mo_closed_76 : decode b_Mo_closed 76 = .ok (.getfield 90, 3) := by decide +kernel
theorem d_Mo_closed_79 : decode b_Mo_closed 79 = .ok (.iload_n 3, 1) := by decide +kernel
theorem d_Mo_closed_80 : decode b_Mo_closed 80 = .ok (.iastore, 1) := by decide +kernel
theorem d_Mo_closed_81 : decode b_Mo_closed 81 = .ok (.aload_n 0, 1) := by decide +kernel
theorem d_Mo_closed_82 : decode b_Mo_closed 82 = .ok (.dup, 1) := by decide +kernel
theorem d_Mo_closed_83 : decode b_Mo_closed 83 = .ok (.getfield 90, 3) := by decide +kernel
theorem d_Mo_closed_86 : decode b_Mo_closed 86 = .ok (.iconst 1, 1) := by decide +kernel
theorem d_Mo_closed_87 : decode b_Mo_closed 87 = .ok (.iadd, 1) := by decide +kernel
theorem d_Mo_closed_88 : decode b_Mo_closed 88 = .ok (.putfield 90, 3) := by decide +kernel
theorem d_Mo_closed_91 : decode b_Mo_closed 91 = .ok (.aload_n 0, 1) := by decide +kernel
theorem d_Mo_closed_92 : decode b_Mo_closed 92 = .ok (.iconst 0, 1) := by decide +kernel
theorem d_Mo_closed_93 : decode b_Mo_closed 93 = .ok (.putfield 82, 3) := by decide +kernel
theorem d_Mo_closed_96 : decode b_Mo_closed 96 = .ok (.iconst 1, 1) := by decide +kernel
theorem d_Mo_closed_97 : decode b_Mo_closed 97 = .ok (.ireturn, 1) := by decide +kernel
theorem d_Mo_count_0 : decode b_Mo_count 0 = .ok (.aload_n 0, 1) := by decide +kernel
theorem d_Mo_count_1 : decode b_Mo_count 1 = .ok (.iconst 0, 1) := by decide +kernel
theorem d_Mo_count_2 : decode b_Mo_count 2 = .ok (.putfield 69, 3) := by decide +kernel
theorem d_Mo_count_5 : decode b_Mo_count 5 = .ok (.iconst 0, 1) := by decide +kernel
theorem d_Mo_count_6 : decode b_Mo_count 6 = .ok (.istore_n 2, 1) := by decide +kernel
theorem d_Mo_count_7 : decode b_Mo_count 7 = .ok (.iconst 0, 1) := by decide +kernel
theorem d_Mo_count_8 : decode b_Mo_count 8 = .ok (.istore_n 3, 1) := by decide +kernel
theorem d_Mo_count_9 : decode b_Mo_count 9 = .ok (.iload_n 3, 1) := by decide +kernel
theorem d_Mo_count_10 : decode b_Mo_count 10 = .ok (.iconst 4, 1) := by decide +kernel
theorem d_Mo_count_11 : decode b_Mo_count 11 = .ok (.if_icmp .ge 50, 3) := by decide +kernel
theorem d_Mo_count_14 : decode b_Mo_count 14 = .ok (.iload_n 2, 1) := by decide +kernel
theorem d_Mo_count_15 : decode b_Mo_count 15 = .ok (.aload_n 0, 1) := by decide +kernel
theorem d_Mo_count_16 : decode b_Mo_count 16 = .ok (.getfield 82, 3) := by decide +kernel
theorem d_Mo_count_19 : decode b_Mo_count 19 = .ok (.ifCond .eq 33, 3) := by decide +kernel
theorem d_Mo_count_22 : decode b_Mo_count 22 = .ok (.aload_n 0, 1) := by decide +kernel
theorem d_Mo_count_23 : decode b_Mo_count 23 = .ok (.iload_n 1, 1) := by decide +kernel
theorem d_Mo_count_24 : decode b_Mo_count 24 = .ok (.bipush 6, 2) := by decide +kernel
theorem d_Mo_count_26 : decode b_Mo_count 26 = .ok (.isub, 1) := by decide +kernel
theorem d_Mo_count_27 : decode b_Mo_count 27 = .ok (.invokevirtual 86, 3) := by decide +kernel
theorem d_Mo_count_30 : decode b_Mo_count 30 = .ok (.ifCond .eq 22, 3) := by decide +kernel
theorem d_Mo_count_33 : decode b_Mo_count 33 = .ok (.aload_n 0, 1) := by decide +kernel
theorem d_Mo_count_34 : decode b_Mo_count 34 = .ok (.iconst 4, 1) := by decide +kernel
theorem d_Mo_count_35 : decode b_Mo_count 35 = .ok (.iload_n 1, 1) := by decide +kernel
theorem d_Mo_count_36 : decode b_Mo_count 36 = .ok (.bipush 6, 2) := by decide +kernel
theorem d_Mo_count_38 : decode b_Mo_count 38 = .ok (.isub, 1) := by decide +kernel
theorem d_Mo_count_39 : decode b_Mo_count 39 = .ok (.imul, 1) := by decide +kernel
theorem d_Mo_count_40 : decode b_Mo_count 40 = .ok (.iload_n 3, 1) := by decide +kernel
theorem d_Mo_count_41 : decode b_Mo_count 41 = .ok (.iadd, 1) := by decide +kernel
theorem d_Mo_count_42 : decode b_Mo_count 42 = .ok (.invokevirtual 140, 3) := by decide +kernel
theorem d_Mo_count_45 : decode b_Mo_count 45 = .ok (.ifCond .le 7, 3) := by decide +kernel
theorem d_Mo_count_48 : decode b_Mo_count 48 = .ok (.iconst 1, 1) := by decide +kernel
theorem d_Mo_count_49 : decode b_Mo_count 49 = .ok (.goto 4, 3) := by decide +kernel
theorem d_Mo_count_52 : decode b_Mo_count 52 = .ok (.iconst 0, 1) := by decide +kernel
theorem d_Mo_count_53 : decode b_Mo_count 53 = .ok (.iadd, 1) := by decide +kernel
theorem d_Mo_count_54 : decode b_Mo_count 54 = .ok (.istore_n 2, 1) := by decide +kernel
theorem d_Mo_count_55 : decode b_Mo_count 55 = .ok (.iinc 3 1, 3) := by decide +kernel
theorem d_Mo_count_58 : decode b_Mo_count 58 = .ok (.goto (-49), 3) := by decide +kernel
theorem d_Mo_count_61 : decode b_Mo_count 61 = .ok (.iload_n 1, 1) := by decide +kernel
theorem d_Mo_count_62 : decode b_Mo_count 62 = .ok (.tableswitch 108 0 7 #[46, 51, 56, 61, 74, 79, 84, 84], 46) := by decide +kernel
theorem d_Mo_count_108 : decode b_Mo_count 108 = .ok (.aload_n 0, 1) := by decide +kernel
theorem d_Mo_count_109 : decode b_Mo_count 109 = .ok (.getfield 72, 3) := by decide +kernel
theorem d_Mo_count_112 : decode b_Mo_count 112 = .ok (.ireturn, 1) := by decide +kernel
theorem d_Mo_count_113 : decode b_Mo_count 113 = .ok (.aload_n 0, 1) := by decide +kernel
theorem d_Mo_count_114 : decode b_Mo_count 114 = .ok (.getfield 75, 3) := by decide +kernel
theorem d_Mo_count_117 : decode b_Mo_count 117 = .ok (.ireturn, 1) := by decide +kernel
theorem d_Mo_count_118 : decode b_Mo_count 118 = .ok (.aload_n 0, 1) := by decide +kernel
theorem d_Mo_count_119 : decode b_Mo_count 119 = .ok (.getfield 90, 3) := by decide +kernel
theorem d_Mo_count_122 : decode b_Mo_count 122 = .ok (.ireturn, 1) := by decide +kernel
theorem d_Mo_count_123 : decode b_Mo_count 123 = .ok (.aload_n 0, 1) := by decide +kernel
theorem d_Mo_count_124 : decode b_Mo_count 124 = .ok (.getfield 82, 3) := by decide +kernel
theorem d_Mo_count_127 : decode b_Mo_count 127 = .ok (.ifCond .eq 7, 3) := by decide +kernel
theorem d_Mo_count_130 : decode b_Mo_count 130 = .ok (.iconst 1, 1) := by decide +kernel
theorem d_Mo_count_131 : decode b_Mo_count 131 = .ok (.goto 4, 3) := by decide +kernel
theorem d_Mo_count_134 : decode b_Mo_count 134 = .ok (.iconst 0, 1) := by decide +kernel
theorem d_Mo_count_135 : decode b_Mo_count 135 = .ok (.ireturn, 1) := by decide +kernel
theorem d_Mo_count_136 : decode b_Mo_count 136 = .ok (.aload_n 0, 1) := by decide +kernel
theorem d_Mo_count_137 : decode b_Mo_count 137 = .ok (.getfield 93, 3) := by decide +kernel
theorem d_Mo_count_140 : decode b_Mo_count 140 = .ok (.ireturn, 1) := by decide +kernel
theorem d_Mo_count_141 : decode b_Mo_count 141 = .ok (.aload_n 0, 1) := by decide +kernel
theorem d_Mo_count_142 : decode b_Mo_count 142 = .ok (.getfield 7, 3) := by decide +kernel
theorem d_Mo_count_145 : decode b_Mo_count 145 = .ok (.ireturn, 1) := by decide +kernel
theorem d_Mo_count_146 : decode b_Mo_count 146 = .ok (.aload_n 0, 1) := by decide +kernel
theorem d_Mo_count_147 : decode b_Mo_count 147 = .ok (.getfield 82, 3) := by decide +kernel
theorem d_Mo_count_150 : decode b_Mo_count 150 = .ok (.ifCond .eq 18, 3) := by decide +kernel
theorem d_Mo_count_153 : decode b_Mo_count 153 = .ok (.aload_n 0, 1) := by decide +kernel
theorem d_Mo_count_154 : decode b_Mo_count 154 = .ok (.iload_n 1, 1) := by decide +kernel
theorem d_Mo_count_155 : decode b_Mo_count 155 = .ok (.bipush 6, 2) := by decide +kernel
theorem d_Mo_count_157 : decode b_Mo_count 157 = .ok (.isub, 1) := by decide +kernel
theorem d_Mo_count_158 : decode b_Mo_count 158 = .ok (.invokevirtual 86, 3) := by decide +kernel
theorem d_Mo_count_161 : decode b_Mo_count 161 = .ok (.ifCond .eq 7, 3) := by decide +kernel
theorem d_Mo_count_164 : decode b_Mo_count 164 = .ok (.iload_n 2, 1) := by decide +kernel
theorem d_Mo_count_165 : decode b_Mo_count 165 = .ok (.goto 4, 3) := by decide +kernel
theorem d_Mo_count_168 : decode b_Mo_count 168 = .ok (.iconst (-1), 1) := by decide +kernel
theorem d_Mo_count_169 : decode b_Mo_count 169 = .ok (.ireturn, 1) := by decide +kernel
theorem d_Mo_count_170 : decode b_Mo_count 170 = .ok (.iconst (-1), 1) := by decide +kernel
theorem d_Mo_count_171 : decode b_Mo_count 171 = .ok (.ireturn, 1) := by decide +kernel
theorem d_Mo_first_0 : decode b_Mo_first 0 = .ok (.iconst 0, 1) := by decide +kernel
theorem d_Mo_first_1 : decode b_Mo_first 1 = .ok (.istore_n 1, 1) := by decide +kernel
theorem d_Mo_first_2 : decode b_Mo_first 2 = .ok (.iload_n 0, 1) := by decide +kernel
theorem d_Mo_first_3 : decode b_Mo_first 3 = .ok (.iload_n 1, 1) := by decide +kernel
theorem d_Mo_first_4 : decode b_Mo_first 4 = .ok (.ishr, 1) := by decide +kernel
theorem d_Mo_first_5 : decode b_Mo_first 5 = .ok (.iconst 1, 1) := by decide +kernel
theorem d_Mo_first_6 : decode b_Mo_first 6 = .ok (.iand, 1) := by decide +kernel
theorem d_Mo_first_7 : decode b_Mo_first 7 = .ok (.ifCond .ne 9, 3) := by decide +kernel
theorem d_Mo_first_10 : decode b_Mo_first 10 = .ok (.iinc 1 1, 3) := by decide +kernel
theorem d_Mo_first_13 : decode b_Mo_first 13 = .ok (.goto (-11), 3) := by decide +kernel
theorem d_Mo_first_16 : decode b_Mo_first 16 = .ok (.iload_n 1, 1) := by decide +kernel
theorem d_Mo_first_17 : decode b_Mo_first 17 = .ok (.ireturn, 1) := by decide +kernel
theorem d_Mo_fits_0 : decode b_Mo_fits 0 = .ok (.aload_n 0, 1) := by decide +kernel
theorem d_Mo_fits_1 : decode b_Mo_fits 1 = .ok (.aload_n 0, 1) := by decide +kernel
theorem d_Mo_fits_2 : decode b_Mo_fits 2 = .ok (.iload_n 1, 1) := by decide +kernel
theorem d_Mo_fits_3 : decode b_Mo_fits 3 = .ok (.invokevirtual 86, 3) := by decide +kernel
theorem d_Mo_fits_6 : decode b_Mo_fits 6 = .ok (.ifCond .eq 23, 3) := by decide +kernel
theorem d_Mo_fits_9 : decode b_Mo_fits 9 = .ok (.iload_n 2, 1) := by decide +kernel
theorem d_Mo_fits_10 : decode b_Mo_fits 10 = .ok (.iconst 0, 1) := by decide +kernel
theorem d_Mo_fits_11 : decode b_Mo_fits 11 = .ok (.iconst 1, 1) := by decide +kernel
theorem d_Mo_fits_12 : decode b_Mo_fits 12 = .ok (.aload_n 0, 1) := by decide +kernel
theorem d_Mo_fits_13 : decode b_Mo_fits 13 = .ok (.getfield 75, 3) := by decide +kernel
theorem d_Mo_fits_16 : decode b_Mo_fits 16 = .ok (.ishl, 1) := by decide +kernel
theorem d_Mo_fits_17 : decode b_Mo_fits 17 = .ok (.iconst 1, 1) := by decide +kernel
theorem d_Mo_fits_18 : decode b_Mo_fits 18 = .ok (.isub, 1) := by decide +kernel
theorem d_Mo_fits_19 : decode b_Mo_fits 19 = .ok (.invokestatic 78, 3) := by decide +kernel
theorem d_Mo_fits_22 : decode b_Mo_fits 22 = .ok (.ifCond .eq 7, 3) := by decide +kernel
theorem d_Mo_fits_25 : decode b_Mo_fits 25 = .ok (.iconst 0, 1) := by decide +kernel
theorem d_Mo_fits_26 : decode b_Mo_fits 26 = .ok (.goto 4, 3) := by decide +kernel
theorem d_Mo_fits_29 : decode b_Mo_fits 29 = .ok (.iconst 1, 1) := by decide +kernel
theorem d_Mo_fits_30 : decode b_Mo_fits 30 = .ok (.putfield 69, 3) := by decide +kernel
theorem d_Mo_fits_33 : decode b_Mo_fits 33 = .ok (.aload_n 0, 1) := by decide +kernel
theorem d_Mo_fits_34 : decode b_Mo_fits 34 = .ok (.getfield 69, 3) := by decide +kernel
theorem d_Mo_fits_37 : decode b_Mo_fits 37 = .ok (.ifCond .ne 16, 3) := by decide +kernel
theorem d_Mo_fits_40 : decode b_Mo_fits 40 = .ok (.aload_n 0, 1) := by decide +kernel
theorem d_Mo_fits_41 : decode b_Mo_fits 41 = .ok (.iload_n 1, 1) := by decide +kernel
theorem d_Mo_fits_42 : decode b_Mo_fits 42 = .ok (.iload_n 2, 1) := by decide +kernel
theorem d_Mo_fits_43 : decode b_Mo_fits 43 = .ok (.invokevirtual 100, 3) := by decide +kernel
theorem d_Mo_fits_46 : decode b_Mo_fits 46 = .ok (.ifCond .eq 7, 3) := by decide +kernel
theorem d_Mo_fits_49 : decode b_Mo_fits 49 = .ok (.iconst 1, 1) := by decide +kernel
theorem d_Mo_fits_50 : decode b_Mo_fits 50 = .ok (.goto 4, 3) := by decide +kernel
theorem d_Mo_fits_53 : decode b_Mo_fits 53 = .ok (.iconst 0, 1) := by decide +kernel
theorem d_Mo_fits_54 : decode b_Mo_fits 54 = .ok (.ireturn, 1) := by decide +kernel
theorem d_Mo_home_0 : decode b_Mo_home 0 = .ok (.aload_n 0, 1) := by decide +kernel
theorem d_Mo_home_1 : decode b_Mo_home 1 = .ok (.aload_n 0, 1) := by decide +kernel
theorem d_Mo_home_2 : decode b_Mo_home 2 = .ok (.iload_n 1, 1) := by decide +kernel
theorem d_Mo_home_3 : decode b_Mo_home 3 = .ok (.invokevirtual 137, 3) := by decide +kernel
theorem d_Mo_home_6 : decode b_Mo_home 6 = .ok (.ifCond .eq 7, 3) := by decide +kernel
theorem d_Mo_home_9 : decode b_Mo_home 9 = .ok (.iconst 0, 1) := by decide +kernel
theorem d_Mo_home_10 : decode b_Mo_home 10 = .ok (.goto 4, 3) := by decide +kernel
theorem d_Mo_home_13 : decode b_Mo_home 13 = .ok (.iconst 1, 1) := by decide +kernel
theorem d_Mo_home_14 : decode b_Mo_home 14 = .ok (.putfield 69, 3) := by decide +kernel
theorem d_Mo_home_17 : decode b_Mo_home 17 = .ok (.aload_n 0, 1) := by decide +kernel
theorem d_Mo_home_18 : decode b_Mo_home 18 = .ok (.getfield 69, 3) := by decide +kernel
theorem d_Mo_home_21 : decode b_Mo_home 21 = .ok (.ifCond .le 5, 3) := by decide +kernel
theorem d_Mo_home_24 : decode b_Mo_home 24 = .ok (.iconst 0, 1) := by decide +kernel
theorem d_Mo_home_25 : decode b_Mo_home 25 = .ok (.ireturn, 1) := by decide +kernel
theorem d_Mo_home_26 : decode b_Mo_home 26 = .ok (.iconst 0, 1) := by decide +kernel
theorem d_Mo_home_27 : decode b_Mo_home 27 = .ok (.istore_n 2, 1) := by decide +kernel
theorem d_Mo_home_28 : decode b_Mo_home 28 = .ok (.iload_n 2, 1) := by decide +kernel
theorem d_Mo_home_29 : decode b_Mo_home 29 = .ok (.aload_n 0, 1) := by decide +kernel
theorem d_Mo_home_30 : decode b_Mo_home 30 = .ok (.getfield 72, 3) := by decide +kernel
theorem d_Mo_home_33 : decode b_Mo_home 33 = .ok (.if_icmp .ge 22, 3) := by decide +kernel
theorem d_Mo_home_36 : decode b_Mo_home 36 = .ok (.aload_n 0, 1) := by decide +kernel
theorem d_Mo_home_37 : decode b_Mo_home 37 = .ok (.iload_n 2, 1) := by decide +kernel
theorem d_Mo_home_38 : decode b_Mo_home 38 = .ok (.iconst 1, 1) := by decide +kernel
theorem d_Mo_home_39 : decode b_Mo_home 39 = .ok (.iload_n 1, 1) := by decide +kernel
theorem d_Mo_home_40 : decode b_Mo_home 40 = .ok (.ishl, 1) := by decide +kernel
theorem d_Mo_home_41 : decode b_Mo_home 41 = .ok (.invokevirtual 100, 3) := by decide +kernel
theorem d_Mo_home_44 : decode b_Mo_home 44 = .ok (.ifCond .eq 5, 3) := by decide +kernel
theorem d_Mo_home_47 : decode b_Mo_home 47 = .ok (.iload_n 2, 1) := by decide +kernel
theorem d_Mo_home_48 : decode b_Mo_home 48 = .ok (.ireturn, 1) := by decide +kernel
theorem d_Mo_home_49 : decode b_Mo_home 49 = .ok (.iinc 2 1, 3) := by decide +kernel
theorem d_Mo_home_52 : decode b_Mo_home 52 = .ok (.goto (-24), 3) := by decide +kernel
theorem d_Mo_home_55 : decode b_Mo_home 55 = .ok (.iconst (-1), 1) := by decide +kernel
theorem d_Mo_home_56 : decode b_Mo_home 56 = .ok (.ireturn, 1) := by decide +kernel
theorem d_Mo_in_0 : decode b_Mo_in 0 = .ok (.iload_n 0, 1) := by decide +kernel
theorem d_Mo_in_1 : decode b_Mo_in 1 = .ok (.iload_n 1, 1) := by decide +kernel
theorem d_Mo_in_2 : decode b_Mo_in 2 = .ok (.if_icmp .lt 12, 3) := by decide +kernel
theorem d_Mo_in_5 : decode b_Mo_in 5 = .ok (.iload_n 0, 1) := by decide +kernel
theorem d_Mo_in_6 : decode b_Mo_in 6 = .ok (.iload_n 2, 1) := by decide +kernel
theorem d_Mo_in_7 : decode b_Mo_in 7 = .ok (.if_icmp .gt 7, 3) := by decide +kernel
theorem d_Mo_in_10 : decode b_Mo_in 10 = .ok (.iconst 1, 1) := by decide +kernel
theorem d_Mo_in_11 : decode b_Mo_in 11 = .ok (.goto 4, 3) := by decide +kernel
theorem d_Mo_in_14 : decode b_Mo_in 14 = .ok (.iconst 0, 1) := by decide +kernel
theorem d_Mo_in_15 : decode b_Mo_in 15 = .ok (.ireturn, 1) := by decide +kernel
theorem d_Mo_isAhead_0 : decode b_Mo_isAhead 0 = .ok (.iconst 0, 1) := by decide +kernel
theorem d_Mo_isAhead_1 : decode b_Mo_isAhead 1 = .ok (.istore_n 1, 1) := by decide +kernel
theorem d_Mo_isAhead_2 : decode b_Mo_isAhead 2 = .ok (.iload_n 1, 1) := by decide +kernel
theorem d_Mo_isAhead_3 : decode b_Mo_isAhead 3 = .ok (.aload_n 0, 1) := by decide +kernel
theorem d_Mo_isAhead_4 : decode b_Mo_isAhead 4 = .ok (.getfield 75, 3) := by decide +kernel
theorem d_Mo_isAhead_7 : decode b_Mo_isAhead 7 = .ok (.if_icmp .ge 85, 3) := by decide +kernel
theorem d_Mo_isAhead_10 : decode b_Mo_isAhead 10 = .ok (.aload_n 0, 1) := by decide +kernel
theorem d_Mo_isAhead_11 : decode b_Mo_isAhead 11 = .ok (.getfield 57, 3) := by decide +kernel
theorem d_Mo_isAhead_14 : decode b_Mo_isAhead 14 = .ok (.iload_n 1, 1) := by decide +kernel
theorem d_Mo_isAhead_15 : decode b_Mo_isAhead 15 = .ok (.iaload, 1) := by decide +kernel
theorem d_Mo_isAhead_16 : decode b_Mo_isAhead 16 = .ok (.aload_n 0, 1) := by decide +kernel
theorem d_Mo_isAhead_17 : decode b_Mo_isAhead 17 = .ok (.getfield 63, 3) := by decide +kernel
theorem d_Mo_isAhead_20 : decode b_Mo_isAhead 20 = .ok (.iload_n 1, 1) := by decide +kernel
theorem d_Mo_isAhead_21 : decode b_Mo_isAhead 21 = .ok (.iaload, 1) := by decide +kernel
theorem d_Mo_isAhead_22 : decode b_Mo_isAhead 22 = .ok (.if_icmp .eq 24, 3) := by decide +kernel
theorem d_Mo_isAhead_25 : decode b_Mo_isAhead 25 = .ok (.aload_n 0, 1) := by decide +kernel
theorem d_Mo_isAhead_26 : decode b_Mo_isAhead 26 = .ok (.getfield 57, 3) := by decide +kernel
theorem d_Mo_isAhead_29 : decode b_Mo_isAhead 29 = .ok (.iload_n 1, 1) := by decide +kernel
theorem d_Mo_isAhead_30 : decode b_Mo_isAhead 30 = .ok (.iaload, 1) := by decide +kernel
theorem d_Mo_isAhead_31 : decode b_Mo_isAhead 31 = .ok (.aload_n 0, 1) := by decide +kernel
theorem d_Mo_isAhead_32 : decode b_Mo_isAhead 32 = .ok (.getfield 63, 3) := by decide +kernel
theorem d_Mo_isAhead_35 : decode b_Mo_isAhead 35 = .ok (.iload_n 1, 1) := by decide +kernel
theorem d_Mo_isAhead_36 : decode b_Mo_isAhead 36 = .ok (.iaload, 1) := by decide +kernel
theorem d_Mo_isAhead_37 : decode b_Mo_isAhead 37 = .ok (.if_icmp .ge 7, 3) := by decide +kernel
theorem d_Mo_isAhead_40 : decode b_Mo_isAhead 40 = .ok (.iconst 1, 1) := by decide +kernel
theorem d_Mo_isAhead_41 : decode b_Mo_isAhead 41 = .ok (.goto 4, 3) := by decide +kernel
theorem d_Mo_isAhead_44 : decode b_Mo_isAhead 44 = .ok (.iconst 0, 1) := by decide +kernel
theorem d_Mo_isAhead_45 : decode b_Mo_isAhead 45 = .ok (.ireturn, 1) := by decide +kernel
theorem d_Mo_isAhead_46 : decode b_Mo_isAhead 46 = .ok (.aload_n 0, 1) := by decide +kernel
theorem d_Mo_isAhead_47 : decode b_Mo_isAhead 47 = .ok (.getfield 54, 3) := by decide +kernel
theorem d_Mo_isAhead_50 : decode b_Mo_isAhead 50 = .ok (.iload_n 1, 1) := by decide +kernel
theorem d_Mo_isAhead_51 : decode b_Mo_isAhead 51 = .ok (.iaload, 1) := by decide +kernel
theorem d_Mo_isAhead_52 : decode b_Mo_isAhead 52 = .ok (.iconst 4, 1) := by decide +kernel
theorem d_Mo_isAhead_53 : decode b_Mo_isAhead 53 = .ok (.idiv, 1) := by decide +kernel
theorem d_Mo_isAhead_54 : decode b_Mo_isAhead 54 = .ok (.aload_n 0, 1) := by decide +kernel
theorem d_Mo_isAhead_55 : decode b_Mo_isAhead 55 = .ok (.getfield 60, 3) := by decide +kernel
theorem d_Mo_isAhead_58 : decode b_Mo_isAhead 58 = .ok (.iload_n 1, 1) := by decide +kernel
theorem d_Mo_isAhead_59 : decode b_Mo_isAhead 59 = .ok (.iaload, 1) := by decide +kernel
theorem d_Mo_isAhead_60 : decode b_Mo_isAhead 60 = .ok (.iconst 4, 1) := by decide +kernel
theorem d_Mo_isAhead_61 : decode b_Mo_isAhead 61 = .ok (.idiv, 1) := by decide +kernel
theorem d_Mo_isAhead_62 : decode b_Mo_isAhead 62 = .ok (.if_icmp .eq 24, 3) := by decide +kernel
theorem d_Mo_isAhead_65 : decode b_Mo_isAhead 65 = .ok (.aload_n 0, 1) := by decide +kernel
theorem d_Mo_isAhead_66 : decode b_Mo_isAhead 66 = .ok (.getfield 54, 3) := by decide +kernel
theorem d_Mo_isAhead_69 : decode b_Mo_isAhead 69 = .ok (.iload_n 1, 1) := by decide +kernel
theorem d_Mo_isAhead_70 : decode b_Mo_isAhead 70 = .ok (.iaload, 1) := by decide +kernel
theorem d_Mo_isAhead_71 : decode b_Mo_isAhead 71 = .ok (.aload_n 0, 1) := by decide +kernel
theorem d_Mo_isAhead_72 : decode b_Mo_isAhead 72 = .ok (.getfield 60, 3) := by decide +kernel
theorem d_Mo_isAhead_75 : decode b_Mo_isAhead 75 = .ok (.iload_n 1, 1) := by decide +kernel
theorem d_Mo_isAhead_76 : decode b_Mo_isAhead 76 = .ok (.iaload, 1) := by decide +kernel
theorem d_Mo_isAhead_77 : decode b_Mo_isAhead 77 = .ok (.if_icmp .ge 7, 3) := by decide +kernel
theorem d_Mo_isAhead_80 : decode b_Mo_isAhead 80 = .ok (.iconst 1, 1) := by decide +kernel
theorem d_Mo_isAhead_81 : decode b_Mo_isAhead 81 = .ok (.goto 4, 3) := by decide +kernel
theorem d_Mo_isAhead_84 : decode b_Mo_isAhead 84 = .ok (.iconst 0, 1) := by decide +kernel
theorem d_Mo_isAhead_85 : decode b_Mo_isAhead 85 = .ok (.ireturn, 1) := by decide +kernel
theorem d_Mo_isAhead_86 : decode b_Mo_isAhead 86 = .ok (.iinc 1 1, 3) := by decide +kernel
theorem d_Mo_isAhead_89 : decode b_Mo_isAhead 89 = .ok (.goto (-87), 3) := by decide +kernel
theorem d_Mo_isAhead_92 : decode b_Mo_isAhead 92 = .ok (.iconst 0, 1) := by decide +kernel
theorem d_Mo_isAhead_93 : decode b_Mo_isAhead 93 = .ok (.ireturn, 1) := by decide +kernel
theorem d_Mo_isChamber_0 : decode b_Mo_isChamber 0 = .ok (.iload_n 1, 1) := by decide +kernel
theorem d_Mo_isChamber_1 : decode b_Mo_isChamber 1 = .ok (.ifCond .lt 15, 3) := by decide +kernel
theorem d_Mo_isChamber_4 : decode b_Mo_isChamber 4 = .ok (.iload_n 1, 1) := by decide +kernel
theorem d_Mo_isChamber_5 : decode b_Mo_isChamber 5 = .ok (.aload_n 0, 1) := by decide +kernel
theorem d_Mo_isChamber_6 : decode b_Mo_isChamber 6 = .ok (.getfield 72, 3) := by decide +kernel
theorem d_Mo_isChamber_9 : decode b_Mo_isChamber 9 = .ok (.if_icmp .ge 7, 3) := by decide +kernel
theorem d_Mo_isChamber_12 : decode b_Mo_isChamber 12 = .ok (.iconst 1, 1) := by decide +kernel
theorem d_Mo_isChamber_13 : decode b_Mo_isChamber 13 = .ok (.goto 4, 3) := by decide +kernel
theorem d_Mo_isChamber_16 : decode b_Mo_isChamber 16 = .ok (.iconst 0, 1) := by decide +kernel
theorem d_Mo_isChamber_17 : decode b_Mo_isChamber 17 = .ok (.ireturn, 1) := by decide +kernel
theorem d_Mo_isOneWay_0 : decode b_Mo_isOneWay 0 = .ok (.iconst 1, 1) := by decide +kernel
theorem d_Mo_isOneWay_1 : decode b_Mo_isOneWay 1 = .ok (.istore_n 2, 1) := by decide +kernel
theorem d_Mo_isOneWay_2 : decode b_Mo_isOneWay 2 = .ok (.iconst 0, 1) := by decide +kernel
theorem d_Mo_isOneWay_3 : decode b_Mo_isOneWay 3 = .ok (.istore_n 3, 1) := by decide +kernel
theorem d_Mo_isOneWay_4 : decode b_Mo_isOneWay 4 = .ok (.iload_n 3, 1) := by decide +kernel
theorem d_Mo_isOneWay_5 : decode b_Mo_isOneWay 5 = .ok (.aload_n 0, 1) := by decide +kernel
theorem d_Mo_isOneWay_6 : decode b_Mo_isOneWay 6 = .ok (.getfield 75, 3) := by decide +kernel
theorem d_Mo_isOneWay_9 : decode b_Mo_isOneWay 9 = .ok (.if_icmp .ge 45, 3) := by decide +kernel
theorem d_Mo_isOneWay_12 : decode b_Mo_isOneWay 12 = .ok (.iload_n 2, 1) := by decide +kernel
theorem d_Mo_isOneWay_13 : decode b_Mo_isOneWay 13 = .ok (.ifCond .eq 33, 3) := by decide +kernel
theorem d_Mo_isOneWay_16 : decode b_Mo_isOneWay 16 = .ok (.iload_n 1, 1) := by decide +kernel
theorem d_Mo_isOneWay_17 : decode b_Mo_isOneWay 17 = .ok (.iload_n 3, 1) := by decide +kernel
theorem d_Mo_isOneWay_18 : decode b_Mo_isOneWay 18 = .ok (.ishr, 1) := by decide +kernel
theorem d_Mo_isOneWay_19 : decode b_Mo_isOneWay 19 = .ok (.iconst 1, 1) := by decide +kernel
theorem d_Mo_isOneWay_20 : decode b_Mo_isOneWay 20 = .ok (.iand, 1) := by decide +kernel
theorem d_Mo_isOneWay_21 : decode b_Mo_isOneWay 21 = .ok (.ifCond .eq 21, 3) := by decide +kernel
theorem d_Mo_isOneWay_24 : decode b_Mo_isOneWay 24 = .ok (.aload_n 0, 1) := by decide +kernel
theorem d_Mo_isOneWay_25 : decode b_Mo_isOneWay 25 = .ok (.getfield 41, 3) := by decide +kernel
theorem d_Mo_isOneWay_28 : decode b_Mo_isOneWay 28 = .ok (.iload_n 3, 1) := by decide +kernel
theorem d_Mo_isOneWay_29 : decode b_Mo_isOneWay 29 = .ok (.iaload, 1) := by decide +kernel
theorem d_Mo_isOneWay_30 : decode b_Mo_isOneWay 30 = .ok (.aload_n 0, 1) := by decide +kernel
theorem d_Mo_isOneWay_31 : decode b_Mo_isOneWay 31 = .ok (.getfield 41, 3) := by decide +kernel
theorem d_Mo_isOneWay_34 : decode b_Mo_isOneWay 34 = .ok (.iload_n 1, 1) := by decide +kernel
theorem d_Mo_isOneWay_35 : decode b_Mo_isOneWay 35 = .ok (.invokestatic 104, 3) := by decide +kernel
theorem d_Mo_isOneWay_38 : decode b_Mo_isOneWay 38 = .ok (.iaload, 1) := by decide +kernel
theorem d_Mo_isOneWay_39 : decode b_Mo_isOneWay 39 = .ok (.if_icmp .ne 7, 3) := by decide +kernel
theorem d_Mo_isOneWay_42 : decode b_Mo_isOneWay 42 = .ok (.iconst 1, 1) := by decide +kernel
theorem d_Mo_isOneWay_43 : decode b_Mo_isOneWay 43 = .ok (.goto 4, 3) := by decide +kernel
theorem d_Mo_isOneWay_46 : decode b_Mo_isOneWay 46 = .ok (.iconst 0, 1) := by decide +kernel
theorem d_Mo_isOneWay_47 : decode b_Mo_isOneWay 47 = .ok (.istore_n 2, 1) := by decide +kernel
theorem d_Mo_isOneWay_48 : decode b_Mo_isOneWay 48 = .ok (.iinc 3 1, 3) := by decide +kernel
theorem d_Mo_isOneWay_51 : decode b_Mo_isOneWay 51 = .ok (.goto (-47), 3) := by decide +kernel
theorem d_Mo_isOneWay_54 : decode b_Mo_isOneWay 54 = .ok (.iload_n 2, 1) := by decide +kernel
theorem d_Mo_isOneWay_55 : decode b_Mo_isOneWay 55 = .ok (.ireturn, 1) := by decide +kernel
theorem d_Mo_isShip_0 : decode b_Mo_isShip 0 = .ok (.iload_n 1, 1) := by decide +kernel
theorem d_Mo_isShip_1 : decode b_Mo_isShip 1 = .ok (.ifCond .lt 15, 3) := by decide +kernel
theorem d_Mo_isShip_4 : decode b_Mo_isShip 4 = .ok (.iload_n 1, 1) := by decide +kernel
theorem d_Mo_isShip_5 : decode b_Mo_isShip 5 = .ok (.aload_n 0, 1) := by decide +kernel
theorem d_Mo_isShip_6 : decode b_Mo_isShip 6 = .ok (.getfield 75, 3) := by decide +kernel
theorem d_Mo_isShip_9 : decode b_Mo_isShip 9 = .ok (.if_icmp .ge 7, 3) := by decide +kernel
theorem d_Mo_isShip_12 : decode b_Mo_isShip 12 = .ok (.iconst 1, 1) := by decide +kernel
theorem d_Mo_isShip_13 : decode b_Mo_isShip 13 = .ok (.goto 4, 3) := by decide +kernel
theorem d_Mo_isShip_16 : decode b_Mo_isShip 16 = .ok (.iconst 0, 1) := by decide +kernel
theorem d_Mo_isShip_17 : decode b_Mo_isShip 17 = .ok (.ireturn, 1) := by decide +kernel
theorem d_Mo_late_0 : decode b_Mo_late 0 = .ok (.aload_n 0, 1) := by decide +kernel
theorem d_Mo_late_1 : decode b_Mo_late 1 = .ok (.aload_n 0, 1) := by decide +kernel
theorem d_Mo_late_2 : decode b_Mo_late 2 = .ok (.iload_n 1, 1) := by decide +kernel
theorem d_Mo_late_3 : decode b_Mo_late 3 = .ok (.invokevirtual 137, 3) := by decide +kernel
theorem d_Mo_late_6 : decode b_Mo_late 6 = .ok (.ifCond .ne 7, 3) := by decide +kernel
theorem d_Mo_late_9 : decode b_Mo_late 9 = .ok (.iconst 1, 1) := by decide +kernel
theorem d_Mo_late_10 : decode b_Mo_late 10 = .ok (.goto 30, 3) := by decide +kernel
theorem d_Mo_late_13 : decode b_Mo_late 13 = .ok (.iload_n 2, 1) := by decide +kernel
